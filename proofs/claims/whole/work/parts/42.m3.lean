
theorem tz_turn_N {n k : Nat} {g : Nat → Int32} (hn : n ≤ 120) (hk : k < n) : tz_turn n g (nI k) ↔ 0 < k ∧ ¬ g (k - 1) = tz_LO ∧ ¬ g k = tz_LO ∧ g (k - 1) < 0 ∧ 0 ≤ g k := by
  rcases Nat.eq_zero_or_pos k with h | h
  · subst h
    exact ⟨fun z => absurd tz_at_m1 z.1, fun z => absurd z.1 (by omega)⟩
  · unfold tz_turn
    rw [show (nI k - 1 : Int32) = nI (k - 1) from pk_sub (a := k) (b := 1) (by omega), tz_at_N hn hk, tz_at_N hn (show k - 1 < n by omega)]
    exact ⟨fun z => ⟨h, z⟩, fun z => z.2⟩
theorem tz_at_b {n k : Nat} {g : Nat → Int32} (hk : k < 2 ^ 31) (h : n ≤ k) (hn : n ≤ 120) : tz_at n g (nI k) = tz_LO := by
  unfold tz_at
  rw [if_neg (fun z => absurd ((nI_ltI hk (by omega)).mp z.2) (by omega))]
theorem tz_click_N {n k : Nat} {g : Nat → Int32} {a : Int32} (hn : n ≤ 120) (hk : k < n) : tz_click n g (nI k) a ↔ (0 < k ∧ k + 1 < n) ∧ ¬ g (k - 1) = tz_LO ∧ ¬ g k = tz_LO ∧ ¬ g (k + 1) = tz_LO ∧ (a < 2 * g k - g (k - 1) - g (k + 1) ∨ 2 * g k - g (k - 1) - g (k + 1) < -a) := by
  rcases Nat.eq_zero_or_pos k with h | h
  · subst h
    exact ⟨fun z => absurd tz_at_m1 z.1, fun z => absurd z.1.1 (by omega)⟩
  · unfold tz_click tz_bend
    rw [show (nI k - 1 : Int32) = nI (k - 1) from pk_sub (a := k) (b := 1) (by omega), show (nI k + 1 : Int32) = nI (k + 1) from nI_1 k, tz_at_N hn hk, tz_at_N hn (show k - 1 < n by omega)]
    by_cases h2 : k + 1 < n
    · rw [tz_at_N hn h2]
      exact ⟨fun z => ⟨⟨h, h2⟩, z⟩, fun z => z.2⟩
    · rw [tz_at_b (by omega) (by omega) hn]
      exact ⟨fun z => absurd rfl z.2.2.1, fun z => absurd z.1.2 h2⟩

abbrev rm_M_lostMany : Room := { frames := 0, cells := 0, slots := 0, locals := 0 }
set_option maxHeartbeats 4000000 in
set_option maxRecDepth 100000 in
theorem ct_M_lostMany {l : Launch} {A : Nat → Prop} {D : va_G} {cs : Nat → ClassId} {sz : Nat} {f : tz_PH} {M kp n : Nat} {fn ns tg : Int32} {nw pa bi nu sh ro ma ca : Nat → Int32} (hM : tz_MB cs f M kp fn (nI n) ns tg nw pa bi nu sh ro ma ca) {g : Nat → Int32} (hr : tz_er ro n g) (hk : tz_okr n g) (hn : n ≤ 120) : tz_CN l tyM_lostMany prog_13_method_19_code 3 (some (.int)) rm_M_lostMany 0 0 A D cs sz [.ref M] f (some (.int (nI (tz_lost n g)))) (fun f' => f' = f) := by
  refine tz_C.ofB (lv0 := [(0, .ref M)]) (plainFor_of_name (by decide)) (Nat.le_of_ble_eq_true rfl) rfl ?_
  intro p_ e_ s_ m_ ar_ be_ me_ c_ Q_ C_ hr_ hk_ hnm_ hz_ hQ_
  refine tz_iconst C_ (v := 0) (by decide) td_M_lostMany_0 ?_
  refine tz_istore_n C_ (lv' := [(0, .ref M), (1, .int 0)]) [1, 0] rfl (by decide) rfl td_M_lostMany_1 ?_
  refine tz_iconst C_ (v := 0) (by decide) td_M_lostMany_2 ?_
  refine tz_istore_n C_ (lv' := [(0, .ref M), (1, .int 0), (2, .int 0)]) [1, 2, 0] rfl (by decide) rfl td_M_lostMany_3 ?_
  have loop4 : ∀ (kk4 : Nat) (x : Nat) (i : Nat), (i ≤ n) → (x = tz_lost i g) → (n - i) < kk4 → tz_V p_ l e_ rm_M_lostMany s_ m_ ar_ be_ me_ c_ Q_ A D 3 f sz 0 0 4 [(0, .ref M), (1, .int (nI x)), (2, .int (nI i))] [] := by
    intro kk4
    induction kk4 with
    | zero => intro x i hi hc hm4; omega
    | succ kk4 ih4 =>
      intro x i hi hc hm4
      refine tz_iload_n C_ 2 rfl rfl td_M_lostMany_4 ?_
      refine tz_aload_n C_ 0 rfl rfl td_M_lostMany_5 ?_
      refine tz_get C_ tci_M 7 (by decide) tw_760 hM.1 rfl td_M_lostMany_6 ?_
      refine tz_icmp_ge C_ td_M_lostMany_9 (fun h9 => ?_) (fun h9 => ?_)
      · skip
        replace h9 := (nI_leI (a := n) (b := i) (by omega) (by omega)).mp h9
        refine tz_iload_n C_ 1 rfl rfl td_M_lostMany_37 ?_
        refine tz_riret C_ hr_ hk_ hQ_ rfl td_M_lostMany_38 ?_
        have e9 : i = n := by omega
        subst e9
        exact ⟨tz_ri (by rw [hc]), rfl⟩
      · skip
        replace h9 := mt (nI_leI (a := n) (b := i) (by omega) (by omega)).mpr h9
        refine tz_iload_n C_ 1 rfl rfl td_M_lostMany_12 ?_
        refine tz_aload_n C_ 0 rfl rfl td_M_lostMany_13 ?_
        refine tz_get C_ tci_M 8 (by decide) tw_761 hM.1 rfl td_M_lostMany_14 ?_
        refine tz_iload_n C_ 2 rfl rfl td_M_lostMany_17 ?_
        refine tz_ialdN C_ hM.2.2.2.2.2.2.1 (by omega) (by decide) td_M_lostMany_18 ?_
        refine tz_ldc C_ tw_829 td_M_lostMany_19 ?_
        refine tz_icmp_ne C_ td_M_lostMany_21 (fun h21 => ?_) (fun h21 => ?_)
        · skip
          refine tz_iconst C_ (v := 0) (by decide) td_M_lostMany_28 ?_
          refine tz_iadd C_ td_M_lostMany_29 ?_
          rw [show ((nI x) + 0 : Int32) = nI (x + 0) from nI_add (x) (0)]
          refine tz_istore_n C_ (lv' := [(0, .ref M), (1, .int (nI (x + 0))), (2, .int (nI i))]) [1, 0, 2] rfl (by decide) rfl td_M_lostMany_30 ?_
          refine tz_iinc C_ (k := 1) (v := nI (i + 1)) (lv' := [(0, .ref M), (1, .int (nI (x + 0))), (2, .int (nI (i + 1)))]) 2 rfl (nI_1 i) [1, 2, 0] (by decide) rfl td_M_lostMany_31 ?_
          refine tz_goto C_ td_M_lostMany_34 ?_
          exact ih4 (x + 0) (i + 1) (by omega) (by have a1 := tz_er_lo hr hk (show i < n by omega); unfold tz_lost; rw [tz_ct_s, hc]; simp [← a1, h21]; try rfl) (by omega)
        · skip
          refine tz_iconst C_ (v := 1) (by decide) td_M_lostMany_24 ?_
          refine tz_goto C_ td_M_lostMany_25 ?_
          refine tz_iadd C_ td_M_lostMany_29 ?_
          rw [show ((nI x) + 1 : Int32) = nI (x + 1) from nI_add (x) (1)]
          refine tz_istore_n C_ (lv' := [(0, .ref M), (1, .int (nI (x + 1))), (2, .int (nI i))]) [1, 0, 2] rfl (by decide) rfl td_M_lostMany_30 ?_
          refine tz_iinc C_ (k := 1) (v := nI (i + 1)) (lv' := [(0, .ref M), (1, .int (nI (x + 1))), (2, .int (nI (i + 1)))]) 2 rfl (nI_1 i) [1, 2, 0] (by decide) rfl td_M_lostMany_31 ?_
          refine tz_goto C_ td_M_lostMany_34 ?_
          exact ih4 (x + 1) (i + 1) (by omega) (by have a1 := tz_er_lo hr hk (show i < n by omega); unfold tz_lost; rw [tz_ct_s, hc]; simp [← a1, h21]; try rfl) (by omega)
  exact loop4 _ 0 0 (Nat.zero_le _) rfl (Nat.lt_succ_self _)

abbrev rm_M_isTurn : Room := { frames := 0, cells := 0, slots := 0, locals := 0 }
set_option maxHeartbeats 4000000 in
set_option maxRecDepth 100000 in
theorem ct_M_isTurn {l : Launch} {A : Nat → Prop} {D : va_G} {cs : Nat → ClassId} {sz : Nat} {f : tz_PH} {M kp n : Nat} {fn ns tg : Int32} {nw pa bi nu sh ro ma ca : Nat → Int32} (hM : tz_MB cs f M kp fn (nI n) ns tg nw pa bi nu sh ro ma ca) {g : Nat → Int32} (hr : tz_er ro n g) (hk : tz_okr n g) (hn : n ≤ 120) {k : Nat} (hkn : k < n) : tz_CN l tyM_isTurn prog_13_method_15_code 2 (some (.boolean)) rm_M_isTurn 0 0 A D cs sz [.ref M, .int (nI k)] f (some (.int (tz_p (tz_turn n g (nI k))))) (fun f' => f' = f) := by
  refine tz_C.ofB (lv0 := [(0, .ref M), (1, .int (nI k))]) (plainFor_of_name (by decide)) (Nat.le_of_ble_eq_true rfl) rfl ?_
  intro p_ e_ s_ m_ ar_ be_ me_ c_ Q_ C_ hr_ hk_ hnm_ hz_ hQ_
  refine tz_iload_n C_ 1 rfl rfl td_M_isTurn_0 ?_
  refine tz_if_le C_ td_M_isTurn_1 (fun h1 => ?_) (fun h1 => ?_)
  · skip
    replace h1 := (nI_leI (a := k) (b := 0) (by omega) (by omega)).mp h1
    refine tz_iconst C_ (v := 0) (by decide) td_M_isTurn_52 ?_
    refine tz_rzret C_ hr_ hk_ hQ_ (by first | exact Or.inl rfl | exact Or.inr rfl | exact tz_p01) rfl td_M_isTurn_53 ?_
    have a1 := tz_er_lo hr hk (show k - 1 < n by omega)
    have b1 := fun z => tz_er_v hr (show k - 1 < n by omega) z
    have a2 := tz_er_lo hr hk (show k < n by omega)
    have b2 := fun z => tz_er_v hr (show k < n by omega) z
    have e9 := tz_turn_N (g := g) hn hkn
    exact ⟨tz_ri (by unfold tz_p; simp only [e9]; grind), rfl⟩
  · skip
    replace h1 := mt (nI_leI (a := k) (b := 0) (by omega) (by omega)).mpr h1
    refine tz_aload_n C_ 0 rfl rfl td_M_isTurn_4 ?_
    refine tz_get C_ tci_M 8 (by decide) tw_761 hM.1 rfl td_M_isTurn_5 ?_
    refine tz_iload_n C_ 1 rfl rfl td_M_isTurn_8 ?_
    refine tz_iconst C_ (v := 1) (by decide) td_M_isTurn_9 ?_
    refine tz_isub C_ td_M_isTurn_10 ?_
    rw [show ((nI k) - 1 : Int32) = nI (k - 1) from pk_sub (a := k) (b := 1) (by omega)]
    refine tz_ialdN C_ hM.2.2.2.2.2.2.1 (by omega) (by decide) td_M_isTurn_11 ?_
    refine tz_ldc C_ tw_829 td_M_isTurn_12 ?_
    refine tz_icmp_eq C_ td_M_isTurn_14 (fun h14 => ?_) (fun h14 => ?_)
    · skip
      refine tz_iconst C_ (v := 0) (by decide) td_M_isTurn_52 ?_
      refine tz_rzret C_ hr_ hk_ hQ_ (by first | exact Or.inl rfl | exact Or.inr rfl | exact tz_p01) rfl td_M_isTurn_53 ?_
      have a1 := tz_er_lo hr hk (show k - 1 < n by omega)
      have b1 := fun z => tz_er_v hr (show k - 1 < n by omega) z
      have a2 := tz_er_lo hr hk (show k < n by omega)
      have b2 := fun z => tz_er_v hr (show k < n by omega) z
      have e9 := tz_turn_N (g := g) hn hkn
      exact ⟨tz_ri (by unfold tz_p; simp only [e9]; grind), rfl⟩
    · skip
      refine tz_aload_n C_ 0 rfl rfl td_M_isTurn_17 ?_
      refine tz_get C_ tci_M 8 (by decide) tw_761 hM.1 rfl td_M_isTurn_18 ?_
      refine tz_iload_n C_ 1 rfl rfl td_M_isTurn_21 ?_
      refine tz_ialdN C_ hM.2.2.2.2.2.2.1 (by omega) (by decide) td_M_isTurn_22 ?_
      refine tz_ldc C_ tw_829 td_M_isTurn_23 ?_
      refine tz_icmp_eq C_ td_M_isTurn_25 (fun h25 => ?_) (fun h25 => ?_)
      · skip
        refine tz_iconst C_ (v := 0) (by decide) td_M_isTurn_52 ?_
        refine tz_rzret C_ hr_ hk_ hQ_ (by first | exact Or.inl rfl | exact Or.inr rfl | exact tz_p01) rfl td_M_isTurn_53 ?_
        have a1 := tz_er_lo hr hk (show k - 1 < n by omega)
        have b1 := fun z => tz_er_v hr (show k - 1 < n by omega) z
        have a2 := tz_er_lo hr hk (show k < n by omega)
        have b2 := fun z => tz_er_v hr (show k < n by omega) z
        have e9 := tz_turn_N (g := g) hn hkn
        exact ⟨tz_ri (by unfold tz_p; simp only [e9]; grind), rfl⟩
      · skip
        refine tz_aload_n C_ 0 rfl rfl td_M_isTurn_28 ?_
        refine tz_get C_ tci_M 8 (by decide) tw_761 hM.1 rfl td_M_isTurn_29 ?_
        refine tz_iload_n C_ 1 rfl rfl td_M_isTurn_32 ?_
        refine tz_iconst C_ (v := 1) (by decide) td_M_isTurn_33 ?_
        refine tz_isub C_ td_M_isTurn_34 ?_
        rw [show ((nI k) - 1 : Int32) = nI (k - 1) from pk_sub (a := k) (b := 1) (by omega)]
        refine tz_ialdN C_ hM.2.2.2.2.2.2.1 (by omega) (by decide) td_M_isTurn_35 ?_
        refine tz_if_ge C_ td_M_isTurn_36 (fun h36 => ?_) (fun h36 => ?_)
        · skip
          refine tz_iconst C_ (v := 0) (by decide) td_M_isTurn_52 ?_
          refine tz_rzret C_ hr_ hk_ hQ_ (by first | exact Or.inl rfl | exact Or.inr rfl | exact tz_p01) rfl td_M_isTurn_53 ?_
          have a1 := tz_er_lo hr hk (show k - 1 < n by omega)
          have b1 := fun z => tz_er_v hr (show k - 1 < n by omega) z
          have a2 := tz_er_lo hr hk (show k < n by omega)
          have b2 := fun z => tz_er_v hr (show k < n by omega) z
          have e9 := tz_turn_N (g := g) hn hkn
          exact ⟨tz_ri (by unfold tz_p; simp only [e9]; grind), rfl⟩
        · skip
          refine tz_aload_n C_ 0 rfl rfl td_M_isTurn_39 ?_
          refine tz_get C_ tci_M 8 (by decide) tw_761 hM.1 rfl td_M_isTurn_40 ?_
          refine tz_iload_n C_ 1 rfl rfl td_M_isTurn_43 ?_
          refine tz_ialdN C_ hM.2.2.2.2.2.2.1 (by omega) (by decide) td_M_isTurn_44 ?_
          refine tz_if_lt C_ td_M_isTurn_45 (fun h45 => ?_) (fun h45 => ?_)
          · skip
            refine tz_iconst C_ (v := 0) (by decide) td_M_isTurn_52 ?_
            refine tz_rzret C_ hr_ hk_ hQ_ (by first | exact Or.inl rfl | exact Or.inr rfl | exact tz_p01) rfl td_M_isTurn_53 ?_
            have a1 := tz_er_lo hr hk (show k - 1 < n by omega)
            have b1 := fun z => tz_er_v hr (show k - 1 < n by omega) z
            have a2 := tz_er_lo hr hk (show k < n by omega)
            have b2 := fun z => tz_er_v hr (show k < n by omega) z
            have e9 := tz_turn_N (g := g) hn hkn
            exact ⟨tz_ri (by unfold tz_p; simp only [e9]; grind), rfl⟩
          · skip
            refine tz_iconst C_ (v := 1) (by decide) td_M_isTurn_48 ?_
            refine tz_goto C_ td_M_isTurn_49 ?_
            refine tz_rzret C_ hr_ hk_ hQ_ (by first | exact Or.inl rfl | exact Or.inr rfl | exact tz_p01) rfl td_M_isTurn_53 ?_
            have a1 := tz_er_lo hr hk (show k - 1 < n by omega)
            have b1 := fun z => tz_er_v hr (show k - 1 < n by omega) z
            have a2 := tz_er_lo hr hk (show k < n by omega)
            have b2 := fun z => tz_er_v hr (show k < n by omega) z
            have e9 := tz_turn_N (g := g) hn hkn
            exact ⟨tz_ri (by unfold tz_p; simp only [e9]; grind), rfl⟩

abbrev rm_M_turns : Room := { frames := 1, cells := 0, slots := 0, locals := 21 }
set_option maxHeartbeats 4000000 in
set_option maxRecDepth 100000 in
theorem ct_M_turns {l : Launch} {A : Nat → Prop} {D : va_G} {cs : Nat → ClassId} {sz : Nat} {f : tz_PH} {M kp n : Nat} {fn ns tg : Int32} {nw pa bi nu sh ro ma ca : Nat → Int32} (hM : tz_MB cs f M kp fn (nI n) ns tg nw pa bi nu sh ro ma ca) {g : Nat → Int32} (hr : tz_er ro n g) (hk : tz_okr n g) (hn : n ≤ 120) : tz_CN l tyM_turns prog_13_method_16_code 3 (some (.int)) rm_M_turns 0 0 A D cs sz [.ref M] f (some (.int (nI (tz_T n g)))) (fun f' => f' = f) := by
  refine tz_C.ofB (lv0 := [(0, .ref M)]) (plainFor_of_name (by decide)) (Nat.le_of_ble_eq_true rfl) rfl ?_
  intro p_ e_ s_ m_ ar_ be_ me_ c_ Q_ C_ hr_ hk_ hnm_ hz_ hQ_
  refine tz_iconst C_ (v := 0) (by decide) td_M_turns_0 ?_
  refine tz_istore_n C_ (lv' := [(0, .ref M), (1, .int 0)]) [1, 0] rfl (by decide) rfl td_M_turns_1 ?_
  refine tz_iconst C_ (v := 0) (by decide) td_M_turns_2 ?_
  refine tz_istore_n C_ (lv' := [(0, .ref M), (1, .int 0), (2, .int 0)]) [1, 2, 0] rfl (by decide) rfl td_M_turns_3 ?_
  have loop4 : ∀ (kk4 : Nat) (x : Nat) (i : Nat), (i ≤ n) → (x = tz_ct (tz_tp n g) i) → (n - i) < kk4 → tz_V p_ l e_ rm_M_turns s_ m_ ar_ be_ me_ c_ Q_ A D 3 f sz 0 0 4 [(0, .ref M), (1, .int (nI x)), (2, .int (nI i))] [] := by
    intro kk4
    induction kk4 with
    | zero => intro x i hi hc hm4; omega
    | succ kk4 ih4 =>
      intro x i hi hc hm4
      refine tz_iload_n C_ 2 rfl rfl td_M_turns_4 ?_
      refine tz_aload_n C_ 0 rfl rfl td_M_turns_5 ?_
      refine tz_get C_ tci_M 7 (by decide) tw_760 hM.1 rfl td_M_turns_6 ?_
      refine tz_icmp_ge C_ td_M_turns_9 (fun h9 => ?_) (fun h9 => ?_)
      · skip
        replace h9 := (nI_leI (a := n) (b := i) (by omega) (by omega)).mp h9
        refine tz_iload_n C_ 1 rfl rfl td_M_turns_34 ?_
        refine tz_riret C_ hr_ hk_ hQ_ rfl td_M_turns_35 ?_
        have e9 : i = n := by omega
        subst e9
        exact ⟨tz_ri (by rw [hc]), rfl⟩
      · skip
        replace h9 := mt (nI_leI (a := n) (b := i) (by omega) (by omega)).mpr h9
        refine tz_iload_n C_ 1 rfl rfl td_M_turns_12 ?_
        refine tz_aload_n C_ 0 rfl rfl td_M_turns_13 ?_
        refine tz_iload_n C_ 2 rfl rfl td_M_turns_14 ?_
        refine tz_rV C_ tmi_M_isTurn tw_857 tw_21 tw_855 hM.1 rfl (As := [.int (nI i)]) (by exact (ct_M_isTurn ⟨hM.1, hM.2.1, hM.2.2.1, hM.2.2.2.1, hM.2.2.2.2.1, hM.2.2.2.2.2.1, hM.2.2.2.2.2.2.1, hM.2.2.2.2.2.2.2.1, hM.2.2.2.2.2.2.2.2⟩ hr hk hn (k := i) (by omega))) rfl (rest := [.int (nI x)]) rfl (by decide) (Nat.le_of_ble_eq_true rfl) td_M_turns_15 (st1 := [.int (tz_p (tz_turn n g (nI i))), .int (nI x)]) rfl ?_
        refine tz_if_eq C_ td_M_turns_18 (fun h18 => ?_) (fun h18 => ?_)
        · skip
          replace h18 := tz_p0.mp h18
          refine tz_iconst C_ (v := 0) (by decide) td_M_turns_25 ?_
          refine tz_iadd C_ td_M_turns_26 ?_
          rw [show ((nI x) + 0 : Int32) = nI (x + 0) from nI_add (x) (0)]
          refine tz_istore_n C_ (lv' := [(0, .ref M), (1, .int (nI (x + 0))), (2, .int (nI i))]) [1, 0, 2] rfl (by decide) rfl td_M_turns_27 ?_
          refine tz_iinc C_ (k := 1) (v := nI (i + 1)) (lv' := [(0, .ref M), (1, .int (nI (x + 0))), (2, .int (nI (i + 1)))]) 2 rfl (nI_1 i) [1, 2, 0] (by decide) rfl td_M_turns_28 ?_
          refine tz_goto C_ td_M_turns_31 ?_
          exact ih4 (x + 0) (i + 1) (by omega) (by rw [tz_ct_s, hc]; simp only [tz_tp]; simp [h18]; try rfl) (by omega)
        · skip
          replace h18 := tz_p1.mp h18
          refine tz_iconst C_ (v := 1) (by decide) td_M_turns_21 ?_
          refine tz_goto C_ td_M_turns_22 ?_
          refine tz_iadd C_ td_M_turns_26 ?_
          rw [show ((nI x) + 1 : Int32) = nI (x + 1) from nI_add (x) (1)]
          refine tz_istore_n C_ (lv' := [(0, .ref M), (1, .int (nI (x + 1))), (2, .int (nI i))]) [1, 0, 2] rfl (by decide) rfl td_M_turns_27 ?_
          refine tz_iinc C_ (k := 1) (v := nI (i + 1)) (lv' := [(0, .ref M), (1, .int (nI (x + 1))), (2, .int (nI (i + 1)))]) 2 rfl (nI_1 i) [1, 2, 0] (by decide) rfl td_M_turns_28 ?_
          refine tz_goto C_ td_M_turns_31 ?_
          exact ih4 (x + 1) (i + 1) (by omega) (by rw [tz_ct_s, hc]; simp only [tz_tp]; simp [h18]; try rfl) (by omega)
  exact loop4 _ 0 0 (Nat.zero_le _) rfl (Nat.lt_succ_self _)

abbrev rm_M_isClick : Room := { frames := 0, cells := 0, slots := 0, locals := 0 }
set_option maxHeartbeats 4000000 in
set_option maxRecDepth 100000 in
theorem ct_M_isClick {l : Launch} {A : Nat → Prop} {D : va_G} {cs : Nat → ClassId} {sz : Nat} {f : tz_PH} {M kp n : Nat} {fn ns tg : Int32} {nw pa bi nu sh ro ma ca : Nat → Int32} (hM : tz_MB cs f M kp fn (nI n) ns tg nw pa bi nu sh ro ma ca) {g : Nat → Int32} (hr : tz_er ro n g) (hk : tz_okr n g) (hn : n ≤ 120) {k : Nat} (hkn : k < n) {v : Int32} : tz_CN l tyM_isClick prog_13_method_18_code 4 (some (.boolean)) rm_M_isClick 0 0 A D cs sz [.ref M, .int (nI k), .int v] f (some (.int (tz_p (tz_click n g (nI k) v)))) (fun f' => f' = f) := by
  refine tz_C.ofB (lv0 := [(0, .ref M), (1, .int (nI k)), (2, .int v)]) (plainFor_of_name (by decide)) (Nat.le_of_ble_eq_true rfl) rfl ?_
  intro p_ e_ s_ m_ ar_ be_ me_ c_ Q_ C_ hr_ hk_ hnm_ hz_ hQ_
  refine tz_iload_n C_ 1 rfl rfl td_M_isClick_0 ?_
  refine tz_iconst C_ (v := 1) (by decide) td_M_isClick_1 ?_
  refine tz_icmp_lt C_ td_M_isClick_2 (fun h2 => ?_) (fun h2 => ?_)
  · skip
    replace h2 := (nI_ltI (a := k) (b := 1) (by omega) (by omega)).mp h2
    refine tz_iconst C_ (v := 0) (by decide) td_M_isClick_52 ?_
    refine tz_rzret C_ hr_ hk_ hQ_ (by first | exact Or.inl rfl | exact Or.inr rfl | exact tz_p01) rfl td_M_isClick_53 ?_
    have a1 := tz_er_lo hr hk (show k - 1 < n by omega)
    have b1 := fun z => tz_er_v hr (show k - 1 < n by omega) z
    have a2 := tz_er_lo hr hk (show k < n by omega)
    have b2 := fun z => tz_er_v hr (show k < n by omega) z
    have e9 := tz_click_N (g := g) (a := v) hn hkn
    exact ⟨tz_ri (by unfold tz_p; simp only [e9]; grind), rfl⟩
  · skip
    replace h2 := mt (nI_ltI (a := k) (b := 1) (by omega) (by omega)).mpr h2
    refine tz_iload_n C_ 1 rfl rfl td_M_isClick_5 ?_
    refine tz_iconst C_ (v := 1) (by decide) td_M_isClick_6 ?_
    refine tz_iadd C_ td_M_isClick_7 ?_
    rw [show ((nI k) + 1 : Int32) = nI (k + 1) from nI_add (k) (1)]
    refine tz_aload_n C_ 0 rfl rfl td_M_isClick_8 ?_
    refine tz_get C_ tci_M 7 (by decide) tw_760 hM.1 rfl td_M_isClick_9 ?_
    refine tz_icmp_ge C_ td_M_isClick_12 (fun h12 => ?_) (fun h12 => ?_)
    · skip
      replace h12 := (nI_leI (a := n) (b := k + 1) (by omega) (by omega)).mp h12
      refine tz_iconst C_ (v := 0) (by decide) td_M_isClick_52 ?_
      refine tz_rzret C_ hr_ hk_ hQ_ (by first | exact Or.inl rfl | exact Or.inr rfl | exact tz_p01) rfl td_M_isClick_53 ?_
      have a1 := tz_er_lo hr hk (show k - 1 < n by omega)
      have b1 := fun z => tz_er_v hr (show k - 1 < n by omega) z
      have a2 := tz_er_lo hr hk (show k < n by omega)
      have b2 := fun z => tz_er_v hr (show k < n by omega) z
      have e9 := tz_click_N (g := g) (a := v) hn hkn
      exact ⟨tz_ri (by unfold tz_p; simp only [e9]; grind), rfl⟩
    · skip
      replace h12 := mt (nI_leI (a := n) (b := k + 1) (by omega) (by omega)).mpr h12
      refine tz_aload_n C_ 0 rfl rfl td_M_isClick_15 ?_
      refine tz_get C_ tci_M 8 (by decide) tw_761 hM.1 rfl td_M_isClick_16 ?_
      refine tz_iload_n C_ 1 rfl rfl td_M_isClick_19 ?_
      refine tz_iconst C_ (v := 1) (by decide) td_M_isClick_20 ?_
      refine tz_isub C_ td_M_isClick_21 ?_
      rw [show ((nI k) - 1 : Int32) = nI (k - 1) from pk_sub (a := k) (b := 1) (by omega)]
      refine tz_ialdN C_ hM.2.2.2.2.2.2.1 (by omega) (by decide) td_M_isClick_22 ?_
      refine tz_ldc C_ tw_829 td_M_isClick_23 ?_
      refine tz_icmp_eq C_ td_M_isClick_25 (fun h25 => ?_) (fun h25 => ?_)
      · skip
        refine tz_iconst C_ (v := 0) (by decide) td_M_isClick_52 ?_
        refine tz_rzret C_ hr_ hk_ hQ_ (by first | exact Or.inl rfl | exact Or.inr rfl | exact tz_p01) rfl td_M_isClick_53 ?_
        have a1 := tz_er_lo hr hk (show k - 1 < n by omega)
        have b1 := fun z => tz_er_v hr (show k - 1 < n by omega) z
        have a2 := tz_er_lo hr hk (show k < n by omega)
        have b2 := fun z => tz_er_v hr (show k < n by omega) z
        have a3 := tz_er_lo hr hk (show k + 1 < n by omega)
        have b3 := fun z => tz_er_v hr (show k + 1 < n by omega) z
        have e9 := tz_click_N (g := g) (a := v) hn hkn
        exact ⟨tz_ri (by unfold tz_p; simp only [e9]; grind), rfl⟩
      · skip
        refine tz_aload_n C_ 0 rfl rfl td_M_isClick_28 ?_
        refine tz_get C_ tci_M 8 (by decide) tw_761 hM.1 rfl td_M_isClick_29 ?_
        refine tz_iload_n C_ 1 rfl rfl td_M_isClick_32 ?_
        refine tz_ialdN C_ hM.2.2.2.2.2.2.1 (by omega) (by decide) td_M_isClick_33 ?_
        refine tz_ldc C_ tw_829 td_M_isClick_34 ?_
        refine tz_icmp_eq C_ td_M_isClick_36 (fun h36 => ?_) (fun h36 => ?_)
        · skip
          refine tz_iconst C_ (v := 0) (by decide) td_M_isClick_52 ?_
          refine tz_rzret C_ hr_ hk_ hQ_ (by first | exact Or.inl rfl | exact Or.inr rfl | exact tz_p01) rfl td_M_isClick_53 ?_
          have a1 := tz_er_lo hr hk (show k - 1 < n by omega)
          have b1 := fun z => tz_er_v hr (show k - 1 < n by omega) z
          have a2 := tz_er_lo hr hk (show k < n by omega)
          have b2 := fun z => tz_er_v hr (show k < n by omega) z
          have a3 := tz_er_lo hr hk (show k + 1 < n by omega)
          have b3 := fun z => tz_er_v hr (show k + 1 < n by omega) z
          have e9 := tz_click_N (g := g) (a := v) hn hkn
          exact ⟨tz_ri (by unfold tz_p; simp only [e9]; grind), rfl⟩
        · skip
          refine tz_aload_n C_ 0 rfl rfl td_M_isClick_39 ?_
          refine tz_get C_ tci_M 8 (by decide) tw_761 hM.1 rfl td_M_isClick_40 ?_
          refine tz_iload_n C_ 1 rfl rfl td_M_isClick_43 ?_
          refine tz_iconst C_ (v := 1) (by decide) td_M_isClick_44 ?_
          refine tz_iadd C_ td_M_isClick_45 ?_
          rw [show ((nI k) + 1 : Int32) = nI (k + 1) from nI_add (k) (1)]
          refine tz_ialdN C_ hM.2.2.2.2.2.2.1 (by omega) (by decide) td_M_isClick_46 ?_
          refine tz_ldc C_ tw_829 td_M_isClick_47 ?_
          refine tz_icmp_ne C_ td_M_isClick_49 (fun h49 => ?_) (fun h49 => ?_)
          · skip
            refine tz_iconst C_ (v := 2) (by decide) td_M_isClick_54 ?_
            refine tz_aload_n C_ 0 rfl rfl td_M_isClick_55 ?_
            refine tz_get C_ tci_M 8 (by decide) tw_761 hM.1 rfl td_M_isClick_56 ?_
            refine tz_iload_n C_ 1 rfl rfl td_M_isClick_59 ?_
            refine tz_ialdN C_ hM.2.2.2.2.2.2.1 (by omega) (by decide) td_M_isClick_60 ?_
            refine tz_imul C_ td_M_isClick_61 ?_
            refine tz_aload_n C_ 0 rfl rfl td_M_isClick_62 ?_
            refine tz_get C_ tci_M 8 (by decide) tw_761 hM.1 rfl td_M_isClick_63 ?_
            refine tz_iload_n C_ 1 rfl rfl td_M_isClick_66 ?_
            refine tz_iconst C_ (v := 1) (by decide) td_M_isClick_67 ?_
            refine tz_isub C_ td_M_isClick_68 ?_
            rw [show ((nI k) - 1 : Int32) = nI (k - 1) from pk_sub (a := k) (b := 1) (by omega)]
            refine tz_ialdN C_ hM.2.2.2.2.2.2.1 (by omega) (by decide) td_M_isClick_69 ?_
            refine tz_isub C_ td_M_isClick_70 ?_
            refine tz_aload_n C_ 0 rfl rfl td_M_isClick_71 ?_
            refine tz_get C_ tci_M 8 (by decide) tw_761 hM.1 rfl td_M_isClick_72 ?_
            refine tz_iload_n C_ 1 rfl rfl td_M_isClick_75 ?_
            refine tz_iconst C_ (v := 1) (by decide) td_M_isClick_76 ?_
            refine tz_iadd C_ td_M_isClick_77 ?_
            rw [show ((nI k) + 1 : Int32) = nI (k + 1) from nI_add (k) (1)]
            refine tz_ialdN C_ hM.2.2.2.2.2.2.1 (by omega) (by decide) td_M_isClick_78 ?_
            refine tz_isub C_ td_M_isClick_79 ?_
            refine tz_istore_n C_ (lv' := [(0, .ref M), (1, .int (nI k)), (2, .int v), (3, .int (((2 * (ro k)) - (ro ((k - 1)))) - (ro ((k + 1)))))]) [1, 2, 3, 0] rfl (by decide) rfl td_M_isClick_80 ?_
            refine tz_iload_n C_ 3 rfl rfl td_M_isClick_81 ?_
            refine tz_iload_n C_ 2 rfl rfl td_M_isClick_82 ?_
            refine tz_icmp_gt C_ td_M_isClick_83 (fun h83 => ?_) (fun h83 => ?_)
            · skip
              refine tz_iconst C_ (v := 1) (by decide) td_M_isClick_92 ?_
              refine tz_goto C_ td_M_isClick_93 ?_
              refine tz_rzret C_ hr_ hk_ hQ_ (by first | exact Or.inl rfl | exact Or.inr rfl | exact tz_p01) rfl td_M_isClick_97 ?_
              have a1 := tz_er_lo hr hk (show k - 1 < n by omega)
              have b1 := fun z => tz_er_v hr (show k - 1 < n by omega) z
              have a2 := tz_er_lo hr hk (show k < n by omega)
              have b2 := fun z => tz_er_v hr (show k < n by omega) z
              have a3 := tz_er_lo hr hk (show k + 1 < n by omega)
              have b3 := fun z => tz_er_v hr (show k + 1 < n by omega) z
              have e9 := tz_click_N (g := g) (a := v) hn hkn
              exact ⟨tz_ri (by unfold tz_p; simp only [e9]; grind), rfl⟩
            · skip
              refine tz_iload_n C_ 3 rfl rfl td_M_isClick_86 ?_
              refine tz_iload_n C_ 2 rfl rfl td_M_isClick_87 ?_
              refine tz_ineg C_ td_M_isClick_88 ?_
              refine tz_icmp_ge C_ td_M_isClick_89 (fun h89 => ?_) (fun h89 => ?_)
              · skip
                refine tz_iconst C_ (v := 0) (by decide) td_M_isClick_96 ?_
                refine tz_rzret C_ hr_ hk_ hQ_ (by first | exact Or.inl rfl | exact Or.inr rfl | exact tz_p01) rfl td_M_isClick_97 ?_
                have a1 := tz_er_lo hr hk (show k - 1 < n by omega)
                have b1 := fun z => tz_er_v hr (show k - 1 < n by omega) z
                have a2 := tz_er_lo hr hk (show k < n by omega)
                have b2 := fun z => tz_er_v hr (show k < n by omega) z
                have a3 := tz_er_lo hr hk (show k + 1 < n by omega)
                have b3 := fun z => tz_er_v hr (show k + 1 < n by omega) z
                have e9 := tz_click_N (g := g) (a := v) hn hkn
                exact ⟨tz_ri (by unfold tz_p; simp only [e9]; grind), rfl⟩
              · skip
                refine tz_iconst C_ (v := 1) (by decide) td_M_isClick_92 ?_
                refine tz_goto C_ td_M_isClick_93 ?_
                refine tz_rzret C_ hr_ hk_ hQ_ (by first | exact Or.inl rfl | exact Or.inr rfl | exact tz_p01) rfl td_M_isClick_97 ?_
                have a1 := tz_er_lo hr hk (show k - 1 < n by omega)
                have b1 := fun z => tz_er_v hr (show k - 1 < n by omega) z
                have a2 := tz_er_lo hr hk (show k < n by omega)
                have b2 := fun z => tz_er_v hr (show k < n by omega) z
                have a3 := tz_er_lo hr hk (show k + 1 < n by omega)
                have b3 := fun z => tz_er_v hr (show k + 1 < n by omega) z
                have e9 := tz_click_N (g := g) (a := v) hn hkn
                exact ⟨tz_ri (by unfold tz_p; simp only [e9]; grind), rfl⟩
          · skip
            refine tz_iconst C_ (v := 0) (by decide) td_M_isClick_52 ?_
            refine tz_rzret C_ hr_ hk_ hQ_ (by first | exact Or.inl rfl | exact Or.inr rfl | exact tz_p01) rfl td_M_isClick_53 ?_
            have a1 := tz_er_lo hr hk (show k - 1 < n by omega)
            have b1 := fun z => tz_er_v hr (show k - 1 < n by omega) z
            have a2 := tz_er_lo hr hk (show k < n by omega)
            have b2 := fun z => tz_er_v hr (show k < n by omega) z
            have a3 := tz_er_lo hr hk (show k + 1 < n by omega)
            have b3 := fun z => tz_er_v hr (show k + 1 < n by omega) z
            have e9 := tz_click_N (g := g) (a := v) hn hkn
            exact ⟨tz_ri (by unfold tz_p; simp only [e9]; grind), rfl⟩
