
def tz_Tu (cs : Nat → ClassId) (f : tz_PH) (a n : Nat) (g : Nat → Int32) : Prop := f a = some (tz_obj 9 [.ref (a + 1), .int (nI n)]) ∧ f (a + 1) = some (tz_ints cs 120 g)
abbrev tz_NO : Int32 := -100006
/-- which places are TURNS, and where the one of a number is -/
def tz_tp (n : Nat) (g : Nat → Int32) : Nat → Bool := fun k => decide (tz_turn n g (nI k))
def tz_nth (p : Nat → Bool) : Nat → Nat → Nat
  | 0, _ => 0
  | n + 1, k => if p n = true ∧ tz_ct p n = k then n else tz_nth p n k
theorem tz_ct_mono (p : Nat → Bool) : ∀ {m n : Nat}, m ≤ n → tz_ct p m ≤ tz_ct p n := by
  intro m n h
  induction n with
  | zero => have e : m = 0 := by omega
            subst e; exact Nat.le_refl _
  | succ n ih =>
    rcases Nat.lt_or_ge m (n + 1) with h1 | h1
    · have := ih (by omega)
      rw [tz_ct_s]; omega
    · have e : m = n + 1 := by omega
      subst e; exact Nat.le_refl _
theorem tz_nth_eq (p : Nat → Bool) : ∀ {n i : Nat}, i < n → p i = true → tz_nth p n (tz_ct p i) = i := by
  intro n
  induction n with
  | zero => intro i h; omega
  | succ n ih =>
    intro i h hp
    unfold tz_nth
    by_cases e : i = n
    · subst e; rw [if_pos ⟨hp, rfl⟩]
    · rw [if_neg, ih (by omega) hp]
      intro z
      have h1 := tz_ct_y hp
      have h2 := tz_ct_mono p (m := i + 1) (n := n) (by omega)
      omega
theorem tz_nth_s (p : Nat → Bool) {n k : Nat} (h : k < tz_ct p n) : tz_nth p (n + 1) k = tz_nth p n k := by
  rw [tz_nth, if_neg]
  intro z; omega
theorem tz_nth_in (p : Nat → Bool) : ∀ {n k : Nat}, k < tz_ct p n → tz_nth p n k < n ∧ p (tz_nth p n k) = true ∧ tz_ct p (tz_nth p n k) = k := by
  intro n
  induction n with
  | zero => intro k h; exact absurd h (Nat.not_lt_zero k)
  | succ n ih =>
    intro k h
    rcases Nat.lt_or_ge k (tz_ct p n) with h1 | h1
    · rw [tz_nth_s p h1]
      obtain ⟨a, b, c⟩ := ih h1
      exact ⟨by omega, b, c⟩
    · rw [tz_ct_s] at h
      cases hp : p n with
      | false => rw [hp] at h; simp at h; omega
      | true =>
        rw [hp] at h; simp at h
        rw [tz_nth, if_pos ⟨hp, by omega⟩]
        exact ⟨by omega, hp, by omega⟩
theorem tz_tp0 {n : Nat} {g : Nat → Int32} : tz_ct (tz_tp n g) 1 = 0 := by
  rw [tz_ct_s]
  have h : ¬ tz_turn n g (nI 0) := fun z => z.1 tz_at_m1
  simp only [tz_ct, tz_tp, decide_eq_true_eq, if_neg h]


theorem tz_find_step {p : Nat → Bool} {x i : Nat} {t : Nat → Int32} (hx : x = tz_ct p i) (ht : ∀ k, k < x → t k = nI (tz_nth p i k)) (hp : p i = true) : ∀ k, k < x + 1 → upd t x (nI i) k = nI (tz_nth p (i + 1) k) := by
  intro k hk
  rcases Nat.lt_or_ge k x with h | h
  · rw [tz_nth_s p (by omega), pk_un (by omega)]; exact ht k h
  · have e : k = x := by omega
    subst e
    rw [pk_us, hx, tz_nth_eq p (by omega) hp]
theorem tz_tp_last {n : Nat} {g : Nat → Int32} : ∀ i, 1 ≤ i → (n ≤ i ∧ (i ≤ n ∨ i = 1)) → tz_ct (tz_tp n g) i = tz_ct (tz_tp n g) n := by
  intro i h1 h2
  rcases Nat.lt_or_ge n i with h3 | h3
  · have e : i = 1 := by omega
    have e2 : n = 0 := by omega
    subst e; subst e2
    exact tz_tp0
  · have e : n = i := by omega
    rw [e]
theorem tz_nth_last {n k : Nat} {g : Nat → Int32} : ∀ i, 1 ≤ i → (n ≤ i ∧ (i ≤ n ∨ i = 1)) → k < tz_ct (tz_tp n g) i → tz_nth (tz_tp n g) i k = tz_nth (tz_tp n g) n k := by
  intro i h1 h2 h4
  rcases Nat.lt_or_ge n i with h3 | h3
  · have e : i = 1 := by omega
    subst e
    rw [tz_tp0] at h4; omega
  · have e : n = i := by omega
    rw [e]

abbrev rm_U_find : Room := { frames := 2, cells := 0, slots := 0, locals := 42 }
set_option maxHeartbeats 4000000 in
set_option maxRecDepth 100000 in
theorem ct_U_find {l : Launch} {A : Nat → Prop} {D : va_G} {cs : Nat → ClassId} {sz : Nat} {f : tz_PH} {u tn a n : Nat} {tg g : Nat → Int32} (hU : tz_Tu cs f u tn tg) (hR : tz_Row cs f a n g) (hn : n ≤ 120) (hab : a + 2 ≤ u ∨ u + 2 ≤ a) : tz_CN l tyU_find prog_11_method_2_code 3 (none) rm_U_find 0 0 A D cs sz [.ref u, .ref a] f (none) (fun f' => ∃ tg' : Nat → Int32, tz_Tu cs f' u (tz_ct (tz_tp n g) n) tg' ∧ (∀ k, k < tz_ct (tz_tp n g) n → tg' k = nI (tz_nth (tz_tp n g) n k)) ∧ ∀ q, (q < u ∨ u + 2 ≤ q) → f' q = f q) := by
  refine tz_C.ofB (lv0 := [(0, .ref u), (1, .ref a)]) (plainFor_of_name (by decide)) (Nat.le_of_ble_eq_true rfl) rfl ?_
  intro p_ e_ s_ m_ ar_ be_ me_ c_ Q_ C_ hr_ hk_ hnm_ hz_ hQ_
  refine tz_aload_n C_ 0 rfl rfl td_U_find_0 ?_
  refine tz_iconst C_ (v := 0) (by decide) td_U_find_1 ?_
  refine tz_wput C_ tci_U 1 (by decide) tw_191 rfl hU.1 (Nat.le_of_ble_eq_true rfl) ⟨rfl, rfl⟩ (fs' := [.ref (u + 1), .int 0]) rfl td_U_find_2 (fun f1 hs1 hq1 => ?_)
  refine tz_iconst C_ (v := 1) (by decide) td_U_find_5 ?_
  refine tz_istore_n C_ (lv' := [(0, .ref u), (1, .ref a), (2, .int 1)]) [1, 2, 0] rfl (by decide) rfl td_U_find_6 ?_
  have k2 : f1 (u + 1) = some (tz_ints cs 120 tg) := ((hq1 _ (by omega)).trans hU.2)
  have k3 : f1 a = some (tz_obj 5 [.ref (a + 1), .int (nI n)]) := ((hq1 _ (by omega)).trans hR.1)
  have k4 : f1 (a + 1) = some (tz_ints cs 120 g) := ((hq1 _ (by omega)).trans hR.2)
  have loop7 : ∀ (kk7 : Nat) (x : Nat) (tg2 : Nat → Int32) (i : Nat) (f7 : tz_PH), (tz_Tu cs f7 u x tg2) → (tz_Row cs f7 a n g) → (∀ q, (q < u ∨ u + 2 ≤ q) → f7 q = f q) → (1 ≤ i ∧ (i ≤ n ∨ i = 1)) → (x = tz_ct (tz_tp n g) i) → (∀ k, k < x → tg2 k = nI (tz_nth (tz_tp n g) i k)) → (n - i) < kk7 → tz_V p_ l e_ rm_U_find s_ m_ ar_ be_ me_ c_ Q_ A D 3 f7 sz 0 0 7 [(0, .ref u), (1, .ref a), (2, .int (nI i))] [] := by
    intro kk7
    induction kk7 with
    | zero => intro x tg2 i f7 hU2 hR2 hfr hi hx ht hm7; omega
    | succ kk7 ih7 =>
      intro x tg2 i f7 hU2 hR2 hfr hi hx ht hm7
      have hfrx : ∀ q, (q < u ∨ u + 2 ≤ q) → f7 q = f q := hfr
      have hxi := tz_ct_le (tz_tp n g) i
      refine tz_iload_n C_ 2 rfl rfl td_U_find_7 ?_
      refine tz_aload_n C_ 1 rfl rfl td_U_find_8 ?_
      refine tz_rV C_ tmi_R_length tw_308 tw_309 tw_366 hR2.1 rfl (As := []) (by exact (ct_R_length (n := n) (g := g) ⟨hR2.1, hR2.2⟩)) rfl (rest := [.int (nI i)]) rfl (by decide) (Nat.le_of_ble_eq_true rfl) td_U_find_9 (st1 := [.int (nI n), .int (nI i)]) rfl ?_
      refine tz_icmp_ge C_ td_U_find_12 (fun h12 => ?_) (fun h12 => ?_)
      · skip
        replace h12 := (nI_leI (a := n) (b := i) (by omega) (by omega)).mp h12
        refine tz_rvret C_ hr_ hk_ hQ_ rfl td_U_find_61 ?_
        have hx2 : x = tz_ct (tz_tp n g) n := by rw [hx]; exact tz_tp_last i hi.1 (by omega)
        have ht2 : ∀ k, k < x → tg2 k = nI (tz_nth (tz_tp n g) n k) := fun k hk => by rw [ht k hk]; exact congrArg nI (tz_nth_last i hi.1 (by omega) (by omega))
        rw [← hx2]
        exact ⟨rfl, tg2, hU2, ht2, hfr⟩
      · skip
        replace h12 := mt (nI_leI (a := n) (b := i) (by omega) (by omega)).mpr h12
        refine tz_aload_n C_ 1 rfl rfl td_U_find_15 ?_
        refine tz_iload_n C_ 2 rfl rfl td_U_find_16 ?_
        refine tz_rV C_ tmi_R_isTurn tw_368 tw_369 tw_367 hR2.1 rfl (As := [.int (nI i)]) (by exact (ct_R_isTurn (n := n) (g := g) ⟨hR2.1, hR2.2⟩ (by omega))) rfl (rest := []) rfl (by decide) (Nat.le_of_ble_eq_true rfl) td_U_find_17 (st1 := [.int (tz_p (tz_turn n g (nI i)))]) rfl ?_
        refine tz_if_eq C_ td_U_find_20 (fun h20 => ?_) (fun h20 => ?_)
        · skip
          replace h20 := tz_p0.mp h20
          refine tz_iinc C_ (k := 1) (v := nI (i + 1)) (lv' := [(0, .ref u), (1, .ref a), (2, .int (nI (i + 1)))]) 2 rfl (nI_1 i) [1, 2, 0] (by decide) rfl td_U_find_55 ?_
          refine tz_goto C_ td_U_find_58 ?_
          exact ih7 x tg2 (i + 1) f7 (⟨hU2.1, hU2.2⟩) (⟨hR2.1, hR2.2⟩) (fun q hh => by rw [hfr q (by omega)]) (⟨by omega, by omega⟩) (by rw [tz_ct_n (by simp only [tz_tp, decide_eq_false_iff_not]; exact h20), hx]) (fun k hk => by rw [tz_nth_s _ (by omega)]; exact ht k hk) (by omega)
        · skip
          replace h20 := tz_p1.mp h20
          refine tz_aload_n C_ 0 rfl rfl td_U_find_23 ?_
          refine tz_get C_ tci_U 1 (by decide) tw_191 hU2.1 rfl td_U_find_24 ?_
          refine tz_aload_n C_ 0 rfl rfl td_U_find_27 ?_
          refine tz_get C_ tci_U 0 (by decide) tw_190 hU2.1 rfl td_U_find_28 ?_
          refine tz_alenI C_ hU2.2 (v := 120) (by decide) td_U_find_31 ?_
          refine tz_icmp_ge C_ td_U_find_32 (fun h32 => ?_) (fun h32 => ?_)
          · skip
            replace h32 := (nI_leI (a := 120) (b := x) (by omega) (by omega)).mp h32
            omega
          · skip
            replace h32 := mt (nI_leI (a := 120) (b := x) (by omega) (by omega)).mpr h32
            refine tz_aload_n C_ 0 rfl rfl td_U_find_35 ?_
            refine tz_get C_ tci_U 0 (by decide) tw_190 hU2.1 rfl td_U_find_36 ?_
            refine tz_aload_n C_ 0 rfl rfl td_U_find_39 ?_
            refine tz_get C_ tci_U 1 (by decide) tw_191 hU2.1 rfl td_U_find_40 ?_
            refine tz_iload_n C_ 2 rfl rfl td_U_find_43 ?_
            refine tz_wiastN C_ hU2.2 (by omega) (by decide) (g' := upd tg2 x (nI i)) rfl td_U_find_44 (fun f5 hs5 hq5 => ?_)
            refine tz_aload_n C_ 0 rfl rfl td_U_find_45 ?_
            refine tz_dup C_ rfl td_U_find_46 ?_
            have k6 : f5 u = some (tz_obj 9 [.ref (u + 1), .int (nI x)]) := ((hq5 _ (by omega)).trans hU2.1)
            refine tz_get C_ tci_U 1 (by decide) tw_191 k6 rfl td_U_find_47 ?_
            refine tz_iconst C_ (v := 1) (by decide) td_U_find_50 ?_
            refine tz_iadd C_ td_U_find_51 ?_
            refine tz_wput C_ tci_U 1 (by decide) tw_191 rfl k6 (Nat.le_of_ble_eq_true rfl) ⟨rfl, rfl⟩ (fs' := [.ref (u + 1), .int ((nI x) + 1)]) rfl td_U_find_52 (fun f7 hs7 hq7 => ?_)
            refine tz_iinc C_ (k := 1) (v := nI (i + 1)) (lv' := [(0, .ref u), (1, .ref a), (2, .int (nI (i + 1)))]) 2 rfl (nI_1 i) [1, 2, 0] (by decide) rfl td_U_find_55 ?_
            refine tz_goto C_ td_U_find_58 ?_
            have k8 : f7 (u + 1) = some (tz_ints cs 120 (upd tg2 x (nI i))) := ((hq7 _ (by omega)).trans hs5)
            have k9 : f7 a = some (tz_obj 5 [.ref (a + 1), .int (nI n)]) := ((hq7 _ (by omega)).trans ((hq5 _ (by omega)).trans hR2.1))
            have k10 : f7 (a + 1) = some (tz_ints cs 120 g) := ((hq7 _ (by omega)).trans ((hq5 _ (by omega)).trans hR2.2))
            exact ih7 (x + 1) (upd tg2 x (nI i)) (i + 1) f7 (⟨by rw [← nI_1]; exact hs7, k8⟩) (⟨k9, k10⟩) (fun q hh => by rw [hq7 q (by omega), hq5 q (by omega), hfr q (by omega)]) (⟨by omega, by omega⟩) (by rw [tz_ct_y (by simp [tz_tp, h20]), hx]) (fun k hk => tz_find_step hx ht (by simp [tz_tp, h20]) k hk) (by omega)
  exact loop7 _ 0 tg 1 f1 (⟨hs1, k2⟩) (⟨k3, k4⟩) (fun q hh => by rw [hq1 q (by omega)]) (⟨by omega, by omega⟩) tz_tp0.symm (fun k hk => absurd hk (Nat.not_lt_zero k)) (Nat.lt_succ_self _)

abbrev rm_U_found : Room := { frames := 0, cells := 0, slots := 0, locals := 0 }
set_option maxHeartbeats 4000000 in
set_option maxRecDepth 100000 in
theorem ct_U_found {l : Launch} {A : Nat → Prop} {D : va_G} {cs : Nat → ClassId} {sz : Nat} {f : tz_PH} {u tn : Nat} {tg : Nat → Int32} (hU : tz_Tu cs f u tn tg) : tz_CN l tyU_found prog_11_method_3_code 1 (some (.int)) rm_U_found 0 0 A D cs sz [.ref u] f (some (.int (nI tn))) (fun f' => f' = f) := by
  refine tz_C.ofB (lv0 := [(0, .ref u)]) (plainFor_of_name (by decide)) (Nat.le_of_ble_eq_true rfl) rfl ?_
  intro p_ e_ s_ m_ ar_ be_ me_ c_ Q_ C_ hr_ hk_ hnm_ hz_ hQ_
  refine tz_aload_n C_ 0 rfl rfl td_U_found_0 ?_
  refine tz_get C_ tci_U 1 (by decide) tw_191 hU.1 rfl td_U_found_1 ?_
  refine tz_riret C_ hr_ hk_ hQ_ rfl td_U_found_4 ?_
  exact ⟨rfl, rfl⟩

def tz_pl (n : Nat) (g : Nat → Int32) (i : Int32) : Int32 := if 0 ≤ i ∧ i < nI n then g i.toNatClampNeg else tz_NO

abbrev rm_U_placeAt : Room := { frames := 0, cells := 0, slots := 0, locals := 0 }
set_option maxHeartbeats 4000000 in
set_option maxRecDepth 100000 in
theorem ct_U_placeAt {l : Launch} {A : Nat → Prop} {D : va_G} {cs : Nat → ClassId} {sz : Nat} {f : tz_PH} {u tn : Nat} {tg : Nat → Int32} (hU : tz_Tu cs f u tn tg) (hn : tn ≤ 120) {i : Int32} : tz_CN l tyU_placeAt prog_11_method_4_code 2 (some (.int)) rm_U_placeAt 0 0 A D cs sz [.ref u, .int i] f (some (.int (tz_pl tn tg i))) (fun f' => f' = f) := by
  refine tz_C.ofB (lv0 := [(0, .ref u), (1, .int i)]) (plainFor_of_name (by decide)) (Nat.le_of_ble_eq_true rfl) rfl ?_
  intro p_ e_ s_ m_ ar_ be_ me_ c_ Q_ C_ hr_ hk_ hnm_ hz_ hQ_
  refine tz_iload_n C_ 1 rfl rfl td_U_placeAt_0 ?_
  refine tz_if_lt C_ td_U_placeAt_1 (fun h1 => ?_) (fun h1 => ?_)
  · skip
    refine tz_ldc C_ tw_391 td_U_placeAt_30 ?_
    refine tz_riret C_ hr_ hk_ hQ_ rfl td_U_placeAt_32 ?_
    exact ⟨tz_ri (by grind [tz_pl]), rfl⟩
  · skip
    refine tz_iload_n C_ 1 rfl rfl td_U_placeAt_4 ?_
    refine tz_aload_n C_ 0 rfl rfl td_U_placeAt_5 ?_
    refine tz_get C_ tci_U 1 (by decide) tw_191 hU.1 rfl td_U_placeAt_6 ?_
    refine tz_icmp_ge C_ td_U_placeAt_9 (fun h9 => ?_) (fun h9 => ?_)
    · skip
      refine tz_ldc C_ tw_391 td_U_placeAt_30 ?_
      refine tz_riret C_ hr_ hk_ hQ_ rfl td_U_placeAt_32 ?_
      exact ⟨tz_ri (by grind [tz_pl]), rfl⟩
    · skip
      refine tz_iload_n C_ 1 rfl rfl td_U_placeAt_12 ?_
      refine tz_aload_n C_ 0 rfl rfl td_U_placeAt_13 ?_
      refine tz_get C_ tci_U 0 (by decide) tw_190 hU.1 rfl td_U_placeAt_14 ?_
      refine tz_alenI C_ hU.2 (v := 120) (by decide) td_U_placeAt_17 ?_
      refine tz_icmp_ge C_ td_U_placeAt_18 (fun h18 => ?_) (fun h18 => ?_)
      · skip
        exact absurd (tz_lt120 hn (tz_nle_lt h9)) (Int32.not_lt.mpr h18)
      · skip
        refine tz_aload_n C_ 0 rfl rfl td_U_placeAt_21 ?_
        refine tz_get C_ tci_U 0 (by decide) tw_190 hU.1 rfl td_U_placeAt_22 ?_
        refine tz_iload_n C_ 1 rfl rfl td_U_placeAt_25 ?_
        refine tz_iald C_ hU.2 (tz_inI h1 (tz_lt_nI120 (tz_lt120 hn (tz_nle_lt h9))) (by decide)) td_U_placeAt_26 ?_
        refine tz_goto C_ td_U_placeAt_27 ?_
        refine tz_riret C_ hr_ hk_ hQ_ rfl td_U_placeAt_32 ?_
        exact ⟨tz_ri (by grind [tz_pl]), rfl⟩

def tz_lat (n : Nat) (g : Nat → Int32) (x : Int32) : Nat → Int32 → Int32
  | 0, r => r
  | k + 1, r => if x < tz_pl n g (nI (n - (k + 1))) then r else tz_lat n g x k (nI (n - (k + 1)))


theorem tz_lat_s {n i : Nat} {g : Nat → Int32} {v x : Int32} (hi : i < n) (h : ¬ v < tz_pl n g (nI i)) : tz_lat n g v (n - i) x = tz_lat n g v (n - (i + 1)) (nI i) := by
  have e : n - i = (n - (i + 1)) + 1 := by omega
  have e2 : n - (n - (i + 1) + 1) = i := by omega
  rw [e, tz_lat, e2, if_neg h]
theorem tz_lat_x {n i : Nat} {g : Nat → Int32} {v x : Int32} (hi : i < n) (h : v < tz_pl n g (nI i)) : tz_lat n g v (n - i) x = x := by
  have e : n - i = (n - (i + 1)) + 1 := by omega
  have e2 : n - (n - (i + 1) + 1) = i := by omega
  rw [e, tz_lat, e2, if_pos h]
theorem tz_lat_e {n i : Nat} {g : Nat → Int32} {v x : Int32} (hi : n ≤ i) : tz_lat n g v (n - i) x = x := by
  have e : n - i = 0 := by omega
  rw [e, tz_lat]

abbrev rm_U_latestUpTo : Room := { frames := 1, cells := 0, slots := 0, locals := 21 }
set_option maxHeartbeats 4000000 in
set_option maxRecDepth 100000 in
theorem ct_U_latestUpTo {l : Launch} {A : Nat → Prop} {D : va_G} {cs : Nat → ClassId} {sz : Nat} {f : tz_PH} {u tn : Nat} {tg : Nat → Int32} (hU : tz_Tu cs f u tn tg) (hn : tn ≤ 120) {v : Int32} : tz_CN l tyU_latestUpTo prog_11_method_5_code 4 (some (.int)) rm_U_latestUpTo 0 0 A D cs sz [.ref u, .int v] f (some (.int (tz_lat tn tg v tn (-1)))) (fun f' => f' = f) := by
  refine tz_C.ofB (lv0 := [(0, .ref u), (1, .int v)]) (plainFor_of_name (by decide)) (Nat.le_of_ble_eq_true rfl) rfl ?_
  intro p_ e_ s_ m_ ar_ be_ me_ c_ Q_ C_ hr_ hk_ hnm_ hz_ hQ_
  refine tz_iconst C_ (v := -1) (by decide) td_U_latestUpTo_0 ?_
  refine tz_istore_n C_ (lv' := [(0, .ref u), (1, .int v), (2, .int (-1))]) [1, 2, 0] rfl (by decide) rfl td_U_latestUpTo_1 ?_
  refine tz_iconst C_ (v := 0) (by decide) td_U_latestUpTo_2 ?_
  refine tz_istore_n C_ (lv' := [(0, .ref u), (1, .int v), (2, .int (-1)), (3, .int 0)]) [1, 2, 3, 0] rfl (by decide) rfl td_U_latestUpTo_3 ?_
  have loop4 : ∀ (kk4 : Nat) (x : Int32) (i : Nat), (i ≤ tn) → (tz_lat tn tg v (tn - i) x = tz_lat tn tg v tn (-1)) → (tn - i) < kk4 → tz_V p_ l e_ rm_U_latestUpTo s_ m_ ar_ be_ me_ c_ Q_ A D 4 f sz 0 0 4 [(0, .ref u), (1, .int v), (2, .int x), (3, .int (nI i))] [] := by
    intro kk4
    induction kk4 with
    | zero => intro x i hi hc hm4; omega
    | succ kk4 ih4 =>
      intro x i hi hc hm4
      refine tz_iload_n C_ 3 rfl rfl td_U_latestUpTo_4 ?_
      refine tz_aload_n C_ 0 rfl rfl td_U_latestUpTo_5 ?_
      refine tz_get C_ tci_U 1 (by decide) tw_191 hU.1 rfl td_U_latestUpTo_6 ?_
      refine tz_icmp_ge C_ td_U_latestUpTo_9 (fun h9 => ?_) (fun h9 => ?_)
      · skip
        replace h9 := (nI_leI (a := tn) (b := i) (by omega) (by omega)).mp h9
        refine tz_iload_n C_ 2 rfl rfl td_U_latestUpTo_29 ?_
        refine tz_riret C_ hr_ hk_ hQ_ rfl td_U_latestUpTo_30 ?_
        refine ⟨tz_ri ?_, rfl⟩
        rw [← hc]
        exact (tz_lat_e (by omega)).symm
      · skip
        replace h9 := mt (nI_leI (a := tn) (b := i) (by omega) (by omega)).mpr h9
        refine tz_aload_n C_ 0 rfl rfl td_U_latestUpTo_12 ?_
        refine tz_iload_n C_ 3 rfl rfl td_U_latestUpTo_13 ?_
        refine tz_rV C_ tmi_U_placeAt tw_388 tw_389 tw_639 hU.1 rfl (As := [.int (nI i)]) (by exact (ct_U_placeAt (tn := tn) (tg := tg) ⟨hU.1, hU.2⟩ (by omega))) rfl (rest := []) rfl (by decide) (Nat.le_of_ble_eq_true rfl) td_U_latestUpTo_14 (st1 := [.int (tz_pl tn tg (nI i))]) rfl ?_
        refine tz_iload_n C_ 1 rfl rfl td_U_latestUpTo_17 ?_
        refine tz_icmp_gt C_ td_U_latestUpTo_18 (fun h18 => ?_) (fun h18 => ?_)
        · skip
          refine tz_iload_n C_ 2 rfl rfl td_U_latestUpTo_29 ?_
          refine tz_riret C_ hr_ hk_ hQ_ rfl td_U_latestUpTo_30 ?_
          refine ⟨tz_ri ?_, rfl⟩
          rw [← hc]
          exact (tz_lat_x (by omega) h18).symm
        · skip
          refine tz_iload_n C_ 3 rfl rfl td_U_latestUpTo_21 ?_
          refine tz_istore_n C_ (lv' := [(0, .ref u), (1, .int v), (2, .int (nI i)), (3, .int (nI i))]) [1, 2, 0, 3] rfl (by decide) rfl td_U_latestUpTo_22 ?_
          refine tz_iinc C_ (k := 1) (v := nI (i + 1)) (lv' := [(0, .ref u), (1, .int v), (2, .int (nI i)), (3, .int (nI (i + 1)))]) 3 rfl (nI_1 i) [1, 2, 3, 0] (by decide) rfl td_U_latestUpTo_23 ?_
          refine tz_goto C_ td_U_latestUpTo_26 ?_
          exact ih4 (nI i) (i + 1) (by omega) (by rw [← hc]; exact (tz_lat_s (by omega) h18).symm) (by omega)
  exact loop4 _ (-1) 0 (Nat.zero_le _) rfl (Nat.lt_succ_self _)
