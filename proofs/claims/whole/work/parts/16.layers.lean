
def tz_Ly (cs : Nat → ClassId) (f : tz_PH) (a n : Nat) (o : Nat → Option Nat) : Prop := f a = some (tz_obj 3 [.ref (a + 1), .int (nI n)]) ∧ f (a + 1) = some (tz_refs cs 4 8 o)
/-- what lies in the order's row is null or a Layer -/
def tz_okL (L0 : Nat) (f : tz_PH) (o : Nat → Option Nat) : Prop := ∀ k, k < 8 → ∀ b, o k = some b → L0 ≤ b ∧ ∃ v : tz_V4, f b = some (tz_lay v)
/-- the first n are Layers of these values -/
def tz_Lv (L0 : Nat) (f : tz_PH) (o : Nat → Option Nat) (n : Nat) (lay : Nat → tz_V4) : Prop := ∀ k, k < n → ∃ b, o k = some b ∧ L0 ≤ b ∧ f b = some (tz_lay (lay k))
def tz_oat (n : Nat) (o : Nat → Option Nat) (i : Int32) : Option Nat := if 0 ≤ i ∧ i < nI n then o i.toNatClampNeg else none
theorem tz_oat_N {n k : Nat} {o : Nat → Option Nat} (hn : n ≤ 8) (h : k < n) : tz_oat n o (nI k) = o k := by
  unfold tz_oat
  rw [if_pos ⟨nI_pos' (by omega), nI_lt h (by omega)⟩, nI_clamp (by omega)]
theorem tz_lt8 {n : Nat} {i : Int32} (hn : n ≤ 8) (h : i < nI n) : i < 8 := by
  have h1 := Int32.lt_iff_toInt_lt.mp h
  rw [nI_toInt (by omega)] at h1
  apply Int32.lt_iff_toInt_lt.mpr
  have z : (8 : Int32).toInt = 8 := rfl
  rw [z]; omega
theorem tz_okL.fr {L0 : Nat} {f f' : tz_PH} {o : Nat → Option Nat} (h : tz_okL L0 f o) (hq : ∀ q, L0 ≤ q → f' q = f q) : tz_okL L0 f' o := fun k hk b hb => by
  obtain ⟨hl, v, hv⟩ := h k hk b hb
  exact ⟨hl, v, (hq b hl).trans hv⟩
theorem tz_okL.cg {L0 : Nat} {f : tz_PH} {o o' : Nat → Option Nat} (h : tz_okL L0 f o) (ho : ∀ k, k < 8 → o' k = o k) : tz_okL L0 f o' := fun k hk b hb => h k hk b (by rw [← ho k hk]; exact hb)
theorem tz_Lv.fr {L0 : Nat} {f f' : tz_PH} {o : Nat → Option Nat} {n : Nat} {lay : Nat → tz_V4} (h : tz_Lv L0 f o n lay) (hq : ∀ q, L0 ≤ q → f' q = f q) : tz_Lv L0 f' o n lay := fun k hk => by
  obtain ⟨b, hb, hl, hv⟩ := h k hk
  exact ⟨b, hb, hl, (hq b hl).trans hv⟩
theorem tz_Lv.cg {L0 : Nat} {f : tz_PH} {o o' : Nat → Option Nat} {n : Nat} {lay : Nat → tz_V4} (h : tz_Lv L0 f o n lay) (ho : ∀ k, k < n → o' k = o k) : tz_Lv L0 f o' n lay := fun k hk => by
  obtain ⟨b, hb, hl, hv⟩ := h k hk
  exact ⟨b, (ho k hk).trans hb, hl, hv⟩
theorem tz_lay_ne {cs : Nat → ClassId} {f : tz_PH} {q a t n : Nat} {v : tz_V4} {o : Nat → Option Nat} (h : f q = some (tz_lay v)) (ha : f a = some (tz_refs cs t n o)) : q ≠ a := fun e => by rw [e, ha] at h; cases h
theorem tz_lay_neO {f : tz_PH} {q a ci : Nat} {v : tz_V4} {fs : List Value} (h : f q = some (tz_lay v)) (ha : f a = some (tz_obj ci fs)) (hc : ci ≠ 2) : q ≠ a := fun e => by rw [e, ha] at h; cases h; exact hc rfl

abbrev rm_S_inAll : Room := { frames := 0, cells := 0, slots := 0, locals := 0 }
set_option maxHeartbeats 4000000 in
set_option maxRecDepth 100000 in
theorem ct_S_inAll {l : Launch} {A : Nat → Prop} {D : va_G} {cs : Nat → ClassId} {sz : Nat} {f : tz_PH} {a n : Nat} {o : Nat → Option Nat} (hL : tz_Ly cs f a n o) : tz_CN l tyS_inAll prog_5_method_2_code 1 (some (.int)) rm_S_inAll 0 0 A D cs sz [.ref a] f (some (.int (nI n))) (fun f' => f' = f) := by
  refine tz_C.ofB (lv0 := [(0, .ref a)]) (plainFor_of_name (by decide)) (Nat.le_of_ble_eq_true rfl) rfl ?_
  intro p_ e_ s_ m_ ar_ be_ me_ c_ Q_ C_ hr_ hk_ hnm_ hz_ hQ_
  refine tz_aload_n C_ 0 rfl rfl td_S_inAll_0 ?_
  refine tz_get C_ tci_S 1 (by decide) tw_82 hL.1 rfl td_S_inAll_1 ?_
  refine tz_riret C_ hr_ hk_ hQ_ rfl td_S_inAll_4 ?_
  exact ⟨rfl, rfl⟩

abbrev rm_S_at : Room := { frames := 0, cells := 0, slots := 0, locals := 0 }
set_option maxHeartbeats 4000000 in
set_option maxRecDepth 100000 in
theorem ct_S_at {l : Launch} {A : Nat → Prop} {D : va_G} {cs : Nat → ClassId} {sz : Nat} {f : tz_PH} {a n : Nat} {o : Nat → Option Nat} (hL : tz_Ly cs f a n o) (hn : n ≤ 8) {i : Int32} : tz_CN l tyS_at prog_5_method_3_code 2 (some (.object "TapeBench$Layer")) rm_S_at 0 0 A D cs sz [.ref a, .int i] f (some (va_rf (tz_oat n o i))) (fun f' => f' = f) := by
  refine tz_C.ofB (lv0 := [(0, .ref a), (1, .int i)]) (plainFor_of_name (by decide)) (Nat.le_of_ble_eq_true rfl) rfl ?_
  intro p_ e_ s_ m_ ar_ be_ me_ c_ Q_ C_ hr_ hk_ hnm_ hz_ hQ_
  refine tz_iload_n C_ 1 rfl rfl td_S_at_0 ?_
  refine tz_if_lt C_ td_S_at_1 (fun h1 => ?_) (fun h1 => ?_)
  · skip
    refine tz_null C_ td_S_at_30 ?_
    refine tz_raret C_ (r := none) hr_ hk_ hQ_ rfl td_S_at_31 ?_
    exact ⟨tz_rq (by grind [tz_oat]), rfl⟩
  · skip
    refine tz_iload_n C_ 1 rfl rfl td_S_at_4 ?_
    refine tz_aload_n C_ 0 rfl rfl td_S_at_5 ?_
    refine tz_get C_ tci_S 1 (by decide) tw_82 hL.1 rfl td_S_at_6 ?_
    refine tz_icmp_ge C_ td_S_at_9 (fun h9 => ?_) (fun h9 => ?_)
    · skip
      refine tz_null C_ td_S_at_30 ?_
      refine tz_raret C_ (r := none) hr_ hk_ hQ_ rfl td_S_at_31 ?_
      exact ⟨tz_rq (by grind [tz_oat]), rfl⟩
    · skip
      refine tz_iload_n C_ 1 rfl rfl td_S_at_12 ?_
      refine tz_aload_n C_ 0 rfl rfl td_S_at_13 ?_
      refine tz_get C_ tci_S 0 (by decide) tw_81 hL.1 rfl td_S_at_14 ?_
      refine tz_alenR C_ (t := 4) rfl hL.2 (v := 8) (by decide) td_S_at_17 ?_
      refine tz_icmp_ge C_ td_S_at_18 (fun h18 => ?_) (fun h18 => ?_)
      · skip
        exact absurd (tz_lt8 hn (tz_nle_lt h9)) (Int32.not_lt.mpr h18)
      · skip
        refine tz_aload_n C_ 0 rfl rfl td_S_at_21 ?_
        refine tz_get C_ tci_S 0 (by decide) tw_81 hL.1 rfl td_S_at_22 ?_
        refine tz_iload_n C_ 1 rfl rfl td_S_at_25 ?_
        refine tz_aald C_ (t := 4) rfl hL.2 (tz_inI h1 (show i < nI 8 from tz_lt8 hn (tz_nle_lt h9)) (by decide)) td_S_at_26 ?_
        refine tz_goto C_ td_S_at_27 ?_
        refine tz_raret C_ (r := (o (Int32.toNatClampNeg i))) hr_ hk_ hQ_ rfl td_S_at_31 ?_
        exact ⟨tz_rq (by grind [tz_oat]), rfl⟩

theorem ct_S_atN {l : Launch} {A : Nat → Prop} {D : va_G} {cs : Nat → ClassId} {sz : Nat} {f : tz_PH} {a n k : Nat} {o : Nat → Option Nat} (hL : tz_Ly cs f a n o) (hn : n ≤ 8) (h : k < n) : tz_CN l tyS_at prog_5_method_3_code 2 (some (.object "TapeBench$Layer")) rm_S_at 0 0 A D cs sz [.ref a, .int (nI k)] f (some (va_rf (o k))) (fun f' => f' = f) := by
  have h1 := ct_S_at (l := l) (A := A) (D := D) (sz := sz) (i := nI k) hL hn
  rw [tz_oat_N hn h] at h1
  exact h1

abbrev rm_S_onesOn : Room := { frames := 1, cells := 0, slots := 0, locals := 21 }
set_option maxHeartbeats 4000000 in
set_option maxRecDepth 100000 in
theorem ct_S_onesOn {l : Launch} {A : Nat → Prop} {D : va_G} {cs : Nat → ClassId} {sz : Nat} {f : tz_PH} {a n : Nat} {o : Nat → Option Nat} (hL : tz_Ly cs f a n o) (hn : n ≤ 8) {L0 : Nat} {lay : Nat → tz_V4} (hV : tz_Lv L0 f o n lay) : tz_CN l tyS_onesOn prog_5_method_4_code 4 (some (.int)) rm_S_onesOn 0 0 A D cs sz [.ref a] f (some (.int (nI (tz_ct (fun k => decide (¬ (lay k).2.2.2 = 0)) n)))) (fun f' => f' = f) := by
  refine tz_C.ofB (lv0 := [(0, .ref a)]) (plainFor_of_name (by decide)) (Nat.le_of_ble_eq_true rfl) rfl ?_
  intro p_ e_ s_ m_ ar_ be_ me_ c_ Q_ C_ hr_ hk_ hnm_ hz_ hQ_
  refine tz_iconst C_ (v := 0) (by decide) td_S_onesOn_0 ?_
  refine tz_istore_n C_ (lv' := [(0, .ref a), (1, .int 0)]) [1, 0] rfl (by decide) rfl td_S_onesOn_1 ?_
  refine tz_iconst C_ (v := 0) (by decide) td_S_onesOn_2 ?_
  refine tz_istore_n C_ (lv' := [(0, .ref a), (1, .int 0), (2, .int 0)]) [1, 2, 0] rfl (by decide) rfl td_S_onesOn_3 ?_
  have loop4 : ∀ (kk4 : Nat) (x : Nat) (i : Nat), (i ≤ n) → (x = tz_ct (fun k => decide (¬ (lay k).2.2.2 = 0)) i) → (n - i) < kk4 → tz_V p_ l e_ rm_S_onesOn s_ m_ ar_ be_ me_ c_ Q_ A D 4 f sz 0 0 4 [(0, .ref a), (1, .int (nI x)), (2, .int (nI i))] [] := by
    intro kk4
    induction kk4 with
    | zero => intro x i hi hc hm4; omega
    | succ kk4 ih4 =>
      intro x i hi hc hm4
      refine tz_iload_n C_ 2 rfl rfl td_S_onesOn_4 ?_
      refine tz_aload_n C_ 0 rfl rfl td_S_onesOn_5 ?_
      refine tz_get C_ tci_S 1 (by decide) tw_82 hL.1 rfl td_S_onesOn_6 ?_
      refine tz_icmp_ge C_ td_S_onesOn_9 (fun h9 => ?_) (fun h9 => ?_)
      · skip
        replace h9 := (nI_leI (a := n) (b := i) (by omega) (by omega)).mp h9
        refine tz_iload_n C_ 1 rfl rfl td_S_onesOn_38 ?_
        refine tz_riret C_ hr_ hk_ hQ_ rfl td_S_onesOn_39 ?_
        have e9 : i = n := by omega
        subst e9
        exact ⟨tz_ri (by rw [hc]), rfl⟩
      · skip
        replace h9 := mt (nI_leI (a := n) (b := i) (by omega) (by omega)).mpr h9
        refine tz_aload_n C_ 0 rfl rfl td_S_onesOn_12 ?_
        refine tz_iload_n C_ 2 rfl rfl td_S_onesOn_13 ?_
        refine tz_rV C_ tmi_S_at tw_522 tw_523 tw_529 hL.1 rfl (As := [.int (nI i)]) (by exact (ct_S_atN (n := n) (o := o) ⟨hL.1, hL.2⟩ (by omega) (by omega))) rfl (rest := []) rfl (by decide) (Nat.le_of_ble_eq_true rfl) td_S_onesOn_14 (st1 := [va_rf (o i)]) rfl ?_
        refine tz_astore_nQ C_ (lv' := [(0, .ref a), (1, .int (nI x)), (2, .int (nI i)), (3, va_rf (o i))]) [1, 2, 3, 0] rfl (by decide) rfl td_S_onesOn_17 ?_
        refine tz_aload_nQ C_ 3 rfl rfl td_S_onesOn_18 ?_
        refine tz_ifnull C_ td_S_onesOn_19 (fun h19 => ?_) (fun q19 h19 => ?_)
        · skip
          obtain ⟨b19, hb19, -⟩ := hV i (by omega)
          rw [h19] at hb19; cases hb19
        · skip
          obtain ⟨b19, hb19, -, hv19⟩ := hV i (by omega)
          have e19 : b19 = q19 := Option.some.inj (hb19.symm.trans h19)
          rw [e19] at hv19
          rw [h19]
          refine tz_aload_n C_ 3 rfl rfl td_S_onesOn_22 ?_
          refine tz_get C_ tci_L 3 (by decide) tw_502 hv19 rfl td_S_onesOn_23 ?_
          refine tz_if_eq C_ td_S_onesOn_26 (fun h26 => ?_) (fun h26 => ?_)
          · skip
            refine tz_iinc C_ (k := 1) (v := nI (i + 1)) (lv' := [(0, .ref a), (1, .int (nI x)), (2, .int (nI (i + 1))), (3, .ref q19)]) 2 rfl (nI_1 i) [1, 2, 0, 3] (by decide) rfl td_S_onesOn_32 ?_
            refine tz_goto C_ td_S_onesOn_35 ?_
            refine tz_lvs [0, 1, 2] rfl ?_
            exact ih4 x (i + 1) (by omega) (by rw [tz_ct_s, hc]; simp [h26]) (by omega)
          · skip
            refine tz_iinc C_ (k := 1) (v := nI (x + 1)) (lv' := [(0, .ref a), (1, .int (nI (x + 1))), (2, .int (nI i)), (3, .ref q19)]) 1 rfl (nI_1 x) [1, 0, 2, 3] (by decide) rfl td_S_onesOn_29 ?_
            refine tz_iinc C_ (k := 1) (v := nI (i + 1)) (lv' := [(0, .ref a), (1, .int (nI (x + 1))), (2, .int (nI (i + 1))), (3, .ref q19)]) 2 rfl (nI_1 i) [1, 2, 0, 3] (by decide) rfl td_S_onesOn_32 ?_
            refine tz_goto C_ td_S_onesOn_35 ?_
            refine tz_lvs [0, 1, 2] rfl ?_
            exact ih4 (x + 1) (i + 1) (by omega) (by rw [tz_ct_s, hc]; simp [h26]) (by omega)
  exact loop4 _ 0 0 (Nat.zero_le _) rfl (Nat.lt_succ_self _)


def tz_insj (o : Nat → Option Nat) (n j : Nat) : Nat → Option Nat := fun k => if j < k ∧ k ≤ n then o (k - 1) else o k
def tz_ins (o : Nat → Option Nat) (n t b : Nat) : Nat → Option Nat := va_up (tz_insj o n t) t (some b)
theorem tz_insj_n (o : Nat → Option Nat) (n : Nat) : tz_insj o n n = o := by
  funext k; unfold tz_insj; rw [if_neg (by omega)]
theorem tz_insj_p {o : Nat → Option Nat} {n j : Nat} (h : 0 < j) : tz_insj o n j (j - 1) = o (j - 1) := by
  unfold tz_insj; rw [if_neg (by omega)]
theorem tz_insj_s {o : Nat → Option Nat} {n j : Nat} (h : 0 < j) (hn : j ≤ n) : va_up (tz_insj o n j) j (tz_insj o n j (j - 1)) = tz_insj o n (j - 1) := by
  funext k
  rw [tz_insj_p h]
  unfold va_up tz_insj
  by_cases e : k = j
  · subst e
    rw [if_pos rfl, if_pos (by omega)]
  · rw [if_neg e]
    by_cases h1 : j < k ∧ k ≤ n
    · rw [if_pos h1, if_pos (by omega)]
    · rw [if_neg h1, if_neg (by omega)]
def tz_remj (o : Nat → Option Nat) (t i : Nat) : Nat → Option Nat := fun k => if t ≤ k ∧ k < i then o (k + 1) else o k
theorem tz_remj_0 (o : Nat → Option Nat) (t : Nat) : tz_remj o t t = o := by
  funext k; unfold tz_remj; rw [if_neg (by omega)]
theorem tz_remj_p {o : Nat → Option Nat} {t i : Nat} : tz_remj o t i (i + 1) = o (i + 1) := by
  unfold tz_remj; rw [if_neg (by omega)]
theorem tz_remj_s {o : Nat → Option Nat} {t i : Nat} (h : t ≤ i) : va_up (tz_remj o t i) i (tz_remj o t i (i + 1)) = tz_remj o t (i + 1) := by
  funext k
  rw [tz_remj_p]
  unfold va_up tz_remj
  by_cases e : k = i
  · subst e
    rw [if_pos rfl, if_pos (by omega)]
  · rw [if_neg e]
    by_cases h1 : t ≤ k ∧ k < i
    · rw [if_pos h1, if_pos (by omega)]
    · rw [if_neg h1, if_neg (by omega)]
def tz_ofl (h g : Nat → Option Nat) (i : Nat) : Nat → Option Nat := fun k => if k < i then h k else g k
theorem tz_ofl_0 (h g : Nat → Option Nat) : tz_ofl h g 0 = g := by funext k; simp [tz_ofl]
theorem tz_ofl_s (h g : Nat → Option Nat) (i : Nat) : va_up (tz_ofl h g i) i (h i) = tz_ofl h g (i + 1) := by
  funext k
  simp only [va_up, tz_ofl]
  by_cases e : k = i
  · subst e; simp
  · rw [if_neg e]
    by_cases h1 : k < i
    · rw [if_pos h1, if_pos (by omega)]
    · rw [if_neg h1, if_neg (by omega)]

abbrev rm_S_insert : Room := { frames := 0, cells := 0, slots := 0, locals := 0 }
set_option maxHeartbeats 4000000 in
set_option maxRecDepth 100000 in
theorem ct_S_insert {l : Launch} {A : Nat → Prop} {D : va_G} {cs : Nat → ClassId} {sz : Nat} {f : tz_PH} {a n : Nat} {o : Nat → Option Nat} (hL : tz_Ly cs f a n o) (hn : n < 8) {L0 : Nat} (hL0 : a + 2 ≤ L0) (hok : tz_okL L0 f o) {t b : Nat} {v : tz_V4} (ht : t ≤ n) (hbL : L0 ≤ b) (hb : f b = some (tz_lay v)) : tz_CN l tyS_insert prog_5_method_5_code 4 (none) rm_S_insert 0 0 A D cs sz [.ref a, .int (nI t), .ref b] f (none) (fun f' => tz_Ly cs f' a (n + 1) (tz_ins o n t b) ∧ ∀ q, (q < a ∨ a + 2 ≤ q) → f' q = f q) := by
  refine tz_C.ofB (lv0 := [(0, .ref a), (1, .int (nI t)), (2, .ref b)]) (plainFor_of_name (by decide)) (Nat.le_of_ble_eq_true rfl) rfl ?_
  intro p_ e_ s_ m_ ar_ be_ me_ c_ Q_ C_ hr_ hk_ hnm_ hz_ hQ_
  refine tz_aload_n C_ 0 rfl rfl td_S_insert_0 ?_
  refine tz_get C_ tci_S 1 (by decide) tw_82 hL.1 rfl td_S_insert_1 ?_
  refine tz_aload_n C_ 0 rfl rfl td_S_insert_4 ?_
  refine tz_get C_ tci_S 0 (by decide) tw_81 hL.1 rfl td_S_insert_5 ?_
  refine tz_alenR C_ (t := 4) rfl hL.2 (v := 8) (by decide) td_S_insert_8 ?_
  refine tz_icmp_ge C_ td_S_insert_9 (fun h9 => ?_) (fun h9 => ?_)
  · skip
    replace h9 := (nI_leI (a := 8) (b := n) (by omega) (by omega)).mp h9
    omega
  · skip
    replace h9 := mt (nI_leI (a := 8) (b := n) (by omega) (by omega)).mpr h9
    refine tz_iload_n C_ 1 rfl rfl td_S_insert_12 ?_
    refine tz_if_lt C_ td_S_insert_13 (fun h13 => absurd h13 (nI_pos (by omega))) (fun _ => ?_)
    refine tz_iload_n C_ 1 rfl rfl td_S_insert_16 ?_
    refine tz_aload_n C_ 0 rfl rfl td_S_insert_17 ?_
    refine tz_get C_ tci_S 1 (by decide) tw_82 hL.1 rfl td_S_insert_18 ?_
    refine tz_icmp_le C_ td_S_insert_21 (fun h21 => ?_) (fun h21 => ?_)
    · skip
      replace h21 := (nI_leI (a := t) (b := n) (by omega) (by omega)).mp h21
      refine tz_aload_n C_ 0 rfl rfl td_S_insert_25 ?_
      refine tz_get C_ tci_S 1 (by decide) tw_82 hL.1 rfl td_S_insert_26 ?_
      refine tz_istore_n C_ (lv' := [(0, .ref a), (1, .int (nI t)), (2, .ref b), (3, .int (nI n))]) [1, 2, 3, 0] rfl (by decide) rfl td_S_insert_29 ?_
      have loop30 : ∀ (kk30 : Nat) (j : Nat) (f30 : tz_PH), (tz_Ly cs f30 a n (tz_insj o n j)) → (f30 b = some (tz_lay v)) → (∀ q, q ≠ a + 1 → f30 q = f q) → (t ≤ j ∧ j ≤ n) → (j - t) < kk30 → tz_V p_ l e_ rm_S_insert s_ m_ ar_ be_ me_ c_ Q_ A D 4 f30 sz 0 0 30 [(0, .ref a), (1, .int (nI t)), (2, .ref b), (3, .int (nI j))] [] := by
        intro kk30
        induction kk30 with
        | zero => intro j f30 hL3 hb3 hfr hj hm30; omega
        | succ kk30 ih30 =>
          intro j f30 hL3 hb3 hfr hj hm30
          have hok3 : tz_okL L0 f30 o := hok.fr (fun q h9 => hfr q (by omega))
          refine tz_iload_n C_ 3 rfl rfl td_S_insert_30 ?_
          refine tz_iload_n C_ 1 rfl rfl td_S_insert_31 ?_
          refine tz_icmp_le C_ td_S_insert_32 (fun h32 => ?_) (fun h32 => ?_)
          · skip
            replace h32 := (nI_leI (a := j) (b := t) (by omega) (by omega)).mp h32
            refine tz_aload_n C_ 0 rfl rfl td_S_insert_55 ?_
            refine tz_get C_ tci_S 0 (by decide) tw_81 hL3.1 rfl td_S_insert_56 ?_
            refine tz_iload_n C_ 1 rfl rfl td_S_insert_59 ?_
            refine tz_aload_n C_ 2 rfl rfl td_S_insert_60 ?_
            refine tz_waastN C_ (t := 4) rfl hL3.2 hb3 rfl (by omega) (by decide) td_S_insert_61 (fun f1 hs1 hq1 => ?_)
            refine tz_aload_n C_ 0 rfl rfl td_S_insert_62 ?_
            refine tz_dup C_ rfl td_S_insert_63 ?_
            have k2 : f1 a = some (tz_obj 3 [.ref (a + 1), .int (nI n)]) := ((hq1 _ (by omega)).trans hL3.1)
            refine tz_get C_ tci_S 1 (by decide) tw_82 k2 rfl td_S_insert_64 ?_
            refine tz_iconst C_ (v := 1) (by decide) td_S_insert_67 ?_
            refine tz_iadd C_ td_S_insert_68 ?_
            refine tz_wput C_ tci_S 1 (by decide) tw_82 rfl k2 (Nat.le_of_ble_eq_true rfl) ⟨rfl, rfl⟩ (fs' := [.ref (a + 1), .int ((nI n) + 1)]) rfl td_S_insert_69 (fun f3 hs3 hq3 => ?_)
            refine tz_rvret C_ hr_ hk_ hQ_ rfl td_S_insert_72 ?_
            have k4 : f3 (a + 1) = some (tz_refs cs 4 8 (va_up (tz_insj o n j) t (some b))) := ((hq3 _ (by omega)).trans hs1)
            have e9 : j = t := by omega
            subst e9
            exact ⟨rfl, ⟨by rw [← nI_1]; exact hs3, k4⟩, (fun q hh => by rw [hq3 q (by omega), hq1 q (by omega), hfr q (by omega)])⟩
          · skip
            replace h32 := mt (nI_leI (a := j) (b := t) (by omega) (by omega)).mpr h32
            refine tz_aload_n C_ 0 rfl rfl td_S_insert_35 ?_
            refine tz_get C_ tci_S 0 (by decide) tw_81 hL3.1 rfl td_S_insert_36 ?_
            refine tz_iload_n C_ 3 rfl rfl td_S_insert_39 ?_
            refine tz_aload_n C_ 0 rfl rfl td_S_insert_40 ?_
            refine tz_get C_ tci_S 0 (by decide) tw_81 hL3.1 rfl td_S_insert_41 ?_
            refine tz_iload_n C_ 3 rfl rfl td_S_insert_44 ?_
            refine tz_iconst C_ (v := 1) (by decide) td_S_insert_45 ?_
            refine tz_isub C_ td_S_insert_46 ?_
            rw [show ((nI j) - 1 : Int32) = nI (j - 1) from pk_sub (a := j) (b := 1) (by omega)]
            refine tz_aaldN C_ (t := 4) rfl hL3.2 (by omega) (by decide) td_S_insert_47 ?_
            refine tz_waastQN C_ (t := 4) rfl hL3.2 (rb := (tz_insj o n j) ((j - 1))) (fun b9 hb9 => by rw [tz_insj_p (by omega)] at hb9; obtain ⟨-, v9, h9⟩ := hok3 _ (by omega) _ hb9; exact ⟨_, h9⟩) rfl (by omega) (by decide) td_S_insert_48 (fun f5 hs5 hq5 => ?_)
            refine tz_iinc C_ (k := -1) (v := nI (j - 1)) (lv' := [(0, .ref a), (1, .int (nI t)), (2, .ref b), (3, .int (nI (j - 1)))]) 3 rfl (tz_dec (by omega)) [1, 2, 3, 0] (by decide) rfl td_S_insert_49 ?_
            refine tz_goto C_ td_S_insert_52 ?_
            have k6 : f5 a = some (tz_obj 3 [.ref (a + 1), .int (nI n)]) := ((hq5 _ (by omega)).trans hL3.1)
            have k7 : f5 b = some (tz_obj 2 [.int v.1, .int v.2.1, .int v.2.2.1, .int v.2.2.2]) := ((hq5 _ (by omega)).trans hb3)
            exact ih30 (j - 1) f5 (by rw [← tz_insj_s (by omega) (by omega)]; exact ⟨k6, hs5⟩) k7 (fun q hh => by rw [hq5 q (by omega), hfr q (by omega)]) (⟨by omega, by omega⟩) (by omega)
      exact loop30 _ n f (by rw [tz_insj_n]; exact ⟨hL.1, hL.2⟩) hb (fun _ _ => rfl) (⟨ht, Nat.le_refl _⟩) (Nat.lt_succ_self _)
    · skip
      replace h21 := mt (nI_leI (a := t) (b := n) (by omega) (by omega)).mpr h21
      omega

abbrev rm_S_remove : Room := { frames := 1, cells := 0, slots := 0, locals := 21 }
set_option maxHeartbeats 4000000 in
set_option maxRecDepth 100000 in
theorem ct_S_remove {l : Launch} {A : Nat → Prop} {D : va_G} {cs : Nat → ClassId} {sz : Nat} {f : tz_PH} {a n : Nat} {o : Nat → Option Nat} (hL : tz_Ly cs f a n o) (hn : n ≤ 8) {L0 : Nat} (hL0 : a + 2 ≤ L0) (hok : tz_okL L0 f o) {t b : Nat} (ht : t < n) (hb : o t = some b) : tz_CN l tyS_remove prog_5_method_6_code 3 (none) rm_S_remove 0 0 A D cs sz [.ref a, .int (nI t)] f (none) (fun f' => tz_Ly cs f' a (n - 1) (tz_remj o t (n - 1)) ∧ ∀ q, (q < a ∨ a + 2 ≤ q) → f' q = f q) := by
  refine tz_C.ofB (lv0 := [(0, .ref a), (1, .int (nI t))]) (plainFor_of_name (by decide)) (Nat.le_of_ble_eq_true rfl) rfl ?_
  intro p_ e_ s_ m_ ar_ be_ me_ c_ Q_ C_ hr_ hk_ hnm_ hz_ hQ_
  refine tz_aload_n C_ 0 rfl rfl td_S_remove_0 ?_
  refine tz_iload_n C_ 1 rfl rfl td_S_remove_1 ?_
  refine tz_rV C_ tmi_S_at tw_522 tw_523 tw_529 hL.1 rfl (As := [.int (nI t)]) (by exact (ct_S_atN (n := n) (o := o) ⟨hL.1, hL.2⟩ (by omega) (by omega))) rfl (rest := []) rfl (by decide) (Nat.le_of_ble_eq_true rfl) td_S_remove_2 (st1 := [va_rf (o t)]) rfl ?_
  refine tz_ifnonnull C_ td_S_remove_5 (fun q5 h5 => ?_) (fun h5 => ?_)
  · skip
    refine tz_iload_n C_ 1 rfl rfl td_S_remove_9 ?_
    refine tz_istore_n C_ (lv' := [(0, .ref a), (1, .int (nI t)), (2, .int (nI t))]) [1, 2, 0] rfl (by decide) rfl td_S_remove_10 ?_
    have loop11 : ∀ (kk11 : Nat) (i : Nat) (f11 : tz_PH), (tz_Ly cs f11 a n (tz_remj o t i)) → (∀ q, q ≠ a + 1 → f11 q = f q) → (t ≤ i ∧ i + 1 ≤ n) → (n - i) < kk11 → tz_V p_ l e_ rm_S_remove s_ m_ ar_ be_ me_ c_ Q_ A D 3 f11 sz 0 0 11 [(0, .ref a), (1, .int (nI t)), (2, .int (nI i))] [] := by
      intro kk11
      induction kk11 with
      | zero => intro i f11 hL3 hfr hj hm11; omega
      | succ kk11 ih11 =>
        intro i f11 hL3 hfr hj hm11
        have hok3 : tz_okL L0 f11 o := hok.fr (fun q h9 => hfr q (by omega))
        refine tz_iload_n C_ 2 rfl rfl td_S_remove_11 ?_
        refine tz_aload_n C_ 0 rfl rfl td_S_remove_12 ?_
        refine tz_get C_ tci_S 1 (by decide) tw_82 hL3.1 rfl td_S_remove_13 ?_
        refine tz_iconst C_ (v := 1) (by decide) td_S_remove_16 ?_
        refine tz_isub C_ td_S_remove_17 ?_
        rw [show ((nI n) - 1 : Int32) = nI (n - 1) from pk_sub (a := n) (b := 1) (by omega)]
        refine tz_icmp_ge C_ td_S_remove_18 (fun h18 => ?_) (fun h18 => ?_)
        · skip
          replace h18 := (nI_leI (a := n - 1) (b := i) (by omega) (by omega)).mp h18
          refine tz_aload_n C_ 0 rfl rfl td_S_remove_41 ?_
          refine tz_dup C_ rfl td_S_remove_42 ?_
          refine tz_get C_ tci_S 1 (by decide) tw_82 hL3.1 rfl td_S_remove_43 ?_
          refine tz_iconst C_ (v := 1) (by decide) td_S_remove_46 ?_
          refine tz_isub C_ td_S_remove_47 ?_
          rw [show ((nI n) - 1 : Int32) = nI (n - 1) from pk_sub (a := n) (b := 1) (by omega)]
          refine tz_wput C_ tci_S 1 (by decide) tw_82 rfl hL3.1 (Nat.le_of_ble_eq_true rfl) ⟨rfl, rfl⟩ (fs' := [.ref (a + 1), .int (nI (n - 1))]) rfl td_S_remove_48 (fun f1 hs1 hq1 => ?_)
          refine tz_rvret C_ hr_ hk_ hQ_ rfl td_S_remove_51 ?_
          have k2 : f1 (a + 1) = some (tz_refs cs 4 8 (tz_remj o t i)) := ((hq1 _ (by omega)).trans hL3.2)
          have e9 : n - 1 = i := by omega
          exact ⟨rfl, ⟨hs1, by rw [e9]; exact k2⟩, (fun q hh => by rw [hq1 q (by omega), hfr q (by omega)])⟩
        · skip
          replace h18 := mt (nI_leI (a := n - 1) (b := i) (by omega) (by omega)).mpr h18
          refine tz_aload_n C_ 0 rfl rfl td_S_remove_21 ?_
          refine tz_get C_ tci_S 0 (by decide) tw_81 hL3.1 rfl td_S_remove_22 ?_
          refine tz_iload_n C_ 2 rfl rfl td_S_remove_25 ?_
          refine tz_aload_n C_ 0 rfl rfl td_S_remove_26 ?_
          refine tz_get C_ tci_S 0 (by decide) tw_81 hL3.1 rfl td_S_remove_27 ?_
          refine tz_iload_n C_ 2 rfl rfl td_S_remove_30 ?_
          refine tz_iconst C_ (v := 1) (by decide) td_S_remove_31 ?_
          refine tz_iadd C_ td_S_remove_32 ?_
          rw [show ((nI i) + 1 : Int32) = nI (i + 1) from nI_add (i) (1)]
          refine tz_aaldN C_ (t := 4) rfl hL3.2 (by omega) (by decide) td_S_remove_33 ?_
          refine tz_waastQN C_ (t := 4) rfl hL3.2 (rb := (tz_remj o t i) ((i + 1))) (fun b9 hb9 => by rw [tz_remj_p] at hb9; obtain ⟨-, v9, h9⟩ := hok3 _ (by omega) _ hb9; exact ⟨_, h9⟩) rfl (by omega) (by decide) td_S_remove_34 (fun f3 hs3 hq3 => ?_)
          refine tz_iinc C_ (k := 1) (v := nI (i + 1)) (lv' := [(0, .ref a), (1, .int (nI t)), (2, .int (nI (i + 1)))]) 2 rfl (nI_1 i) [1, 2, 0] (by decide) rfl td_S_remove_35 ?_
          refine tz_goto C_ td_S_remove_38 ?_
          have k4 : f3 a = some (tz_obj 3 [.ref (a + 1), .int (nI n)]) := ((hq3 _ (by omega)).trans hL3.1)
          exact ih11 (i + 1) f3 (by rw [← tz_remj_s (by omega)]; exact ⟨k4, hs3⟩) (fun q hh => by rw [hq3 q (by omega), hfr q (by omega)]) (⟨by omega, by omega⟩) (by omega)
    exact loop11 _ t f (by rw [tz_remj_0]; exact ⟨hL.1, hL.2⟩) (fun _ _ => rfl) (⟨by omega, by omega⟩) (Nat.lt_succ_self _)
  · skip
    rw [hb] at h5; cases h5

abbrev rm_S_replace : Room := { frames := 1, cells := 0, slots := 0, locals := 21 }
set_option maxHeartbeats 4000000 in
set_option maxRecDepth 100000 in
theorem ct_S_replace {l : Launch} {A : Nat → Prop} {D : va_G} {cs : Nat → ClassId} {sz : Nat} {f : tz_PH} {a n : Nat} {o : Nat → Option Nat} (hL : tz_Ly cs f a n o) (hn : n ≤ 8) {L0 : Nat} (hL0 : a + 2 ≤ L0) {t b b0 : Nat} {v : tz_V4} (ht : t < n) (hb : o t = some b0) (hbL : L0 ≤ b) (hv : f b = some (tz_lay v)) : tz_CN l tyS_replace prog_5_method_7_code 3 (none) rm_S_replace 0 0 A D cs sz [.ref a, .int (nI t), .ref b] f (none) (fun f' => tz_Ly cs f' a n (va_up o t (some b)) ∧ ∀ q, (q < a ∨ a + 2 ≤ q) → f' q = f q) := by
  refine tz_C.ofB (lv0 := [(0, .ref a), (1, .int (nI t)), (2, .ref b)]) (plainFor_of_name (by decide)) (Nat.le_of_ble_eq_true rfl) rfl ?_
  intro p_ e_ s_ m_ ar_ be_ me_ c_ Q_ C_ hr_ hk_ hnm_ hz_ hQ_
  refine tz_aload_n C_ 0 rfl rfl td_S_replace_0 ?_
  refine tz_iload_n C_ 1 rfl rfl td_S_replace_1 ?_
  refine tz_rV C_ tmi_S_at tw_522 tw_523 tw_529 hL.1 rfl (As := [.int (nI t)]) (by exact (ct_S_atN (n := n) (o := o) ⟨hL.1, hL.2⟩ (by omega) (by omega))) rfl (rest := []) rfl (by decide) (Nat.le_of_ble_eq_true rfl) td_S_replace_2 (st1 := [va_rf (o t)]) rfl ?_
  refine tz_ifnull C_ td_S_replace_5 (fun h5 => ?_) (fun q5 h5 => ?_)
  · skip
    rw [hb] at h5; cases h5
  · skip
    refine tz_aload_n C_ 0 rfl rfl td_S_replace_8 ?_
    refine tz_get C_ tci_S 0 (by decide) tw_81 hL.1 rfl td_S_replace_9 ?_
    refine tz_iload_n C_ 1 rfl rfl td_S_replace_12 ?_
    refine tz_aload_n C_ 2 rfl rfl td_S_replace_13 ?_
    refine tz_waastN C_ (t := 4) rfl hL.2 hv rfl (by omega) (by decide) td_S_replace_14 (fun f1 hs1 hq1 => ?_)
    refine tz_rvret C_ hr_ hk_ hQ_ rfl td_S_replace_15 ?_
    have k2 : f1 a = some (tz_obj 3 [.ref (a + 1), .int (nI n)]) := ((hq1 _ (by omega)).trans hL.1)
    exact ⟨rfl, ⟨k2, hs1⟩, (fun q hh => by rw [hq1 q (by omega)])⟩

abbrev rm_S_become : Room := { frames := 0, cells := 0, slots := 0, locals := 0 }
set_option maxHeartbeats 4000000 in
set_option maxRecDepth 100000 in
theorem ct_S_become {l : Launch} {A : Nat → Prop} {D : va_G} {cs : Nat → ClassId} {sz : Nat} {f : tz_PH} {a n : Nat} {o : Nat → Option Nat} (hL : tz_Ly cs f a n o) {a2 n2 : Nat} {o2 : Nat → Option Nat} (hL2 : tz_Ly cs f a2 n2 o2) {L0 : Nat} (hL0 : a + 2 ≤ L0) (hok : tz_okL L0 f o2) (hab : a2 + 2 ≤ a ∨ a + 2 ≤ a2) : tz_CN l tyS_become prog_5_method_8_code 3 (none) rm_S_become 0 0 A D cs sz [.ref a, .ref a2] f (none) (fun f' => tz_Ly cs f' a n2 (tz_ofl o2 o 8) ∧ ∀ q, (q < a ∨ a + 2 ≤ q) → f' q = f q) := by
  refine tz_C.ofB (lv0 := [(0, .ref a), (1, .ref a2)]) (plainFor_of_name (by decide)) (Nat.le_of_ble_eq_true rfl) rfl ?_
  intro p_ e_ s_ m_ ar_ be_ me_ c_ Q_ C_ hr_ hk_ hnm_ hz_ hQ_
  refine tz_aload_n C_ 0 rfl rfl td_S_become_0 ?_
  refine tz_aload_n C_ 1 rfl rfl td_S_become_1 ?_
  refine tz_get C_ tci_S 1 (by decide) tw_82 hL2.1 rfl td_S_become_2 ?_
  refine tz_wput C_ tci_S 1 (by decide) tw_82 rfl hL.1 (Nat.le_of_ble_eq_true rfl) ⟨rfl, rfl⟩ (fs' := [.ref (a + 1), .int (nI n2)]) rfl td_S_become_5 (fun f1 hs1 hq1 => ?_)
  refine tz_iconst C_ (v := 0) (by decide) td_S_become_8 ?_
  refine tz_istore_n C_ (lv' := [(0, .ref a), (1, .ref a2), (2, .int 0)]) [1, 2, 0] rfl (by decide) rfl td_S_become_9 ?_
  have k2 : f1 (a + 1) = some (tz_refs cs 4 8 o) := ((hq1 _ (by omega)).trans hL.2)
  have k3 : f1 a2 = some (tz_obj 3 [.ref (a2 + 1), .int (nI n2)]) := ((hq1 _ (by omega)).trans hL2.1)
  have k4 : f1 (a2 + 1) = some (tz_refs cs 4 8 o2) := ((hq1 _ (by omega)).trans hL2.2)
  have loop10 : ∀ (kk10 : Nat) (i : Nat) (f10 : tz_PH), (tz_Ly cs f10 a n2 (tz_ofl o2 o i)) → (tz_Ly cs f10 a2 n2 o2) → (∀ q, (q < a ∨ a + 2 ≤ q) → f10 q = f q) → (i ≤ 8) → (8 - i) < kk10 → tz_V p_ l e_ rm_S_become s_ m_ ar_ be_ me_ c_ Q_ A D 3 f10 sz 0 0 10 [(0, .ref a), (1, .ref a2), (2, .int (nI i))] [] := by
    intro kk10
    induction kk10 with
    | zero => intro i f10 hL3 hL4 hfr hj hm10; omega
    | succ kk10 ih10 =>
      intro i f10 hL3 hL4 hfr hj hm10
      have hok3 : tz_okL L0 f10 o2 := hok.fr (fun q h9 => hfr q (by omega))
      refine tz_iload_n C_ 2 rfl rfl td_S_become_10 ?_
      refine tz_aload_n C_ 0 rfl rfl td_S_become_11 ?_
      refine tz_get C_ tci_S 0 (by decide) tw_81 hL3.1 rfl td_S_become_12 ?_
      refine tz_alenR C_ (t := 4) rfl hL3.2 (v := 8) (by decide) td_S_become_15 ?_
      refine tz_icmp_ge C_ td_S_become_16 (fun h16 => ?_) (fun h16 => ?_)
      · skip
        replace h16 := (nI_leI (a := 8) (b := i) (by omega) (by omega)).mp h16
        refine tz_rvret C_ hr_ hk_ hQ_ rfl td_S_become_37 ?_
        have e9 : i = 8 := by omega
        subst e9
        exact ⟨rfl, hL3, hfr⟩
      · skip
        replace h16 := mt (nI_leI (a := 8) (b := i) (by omega) (by omega)).mpr h16
        refine tz_aload_n C_ 0 rfl rfl td_S_become_19 ?_
        refine tz_get C_ tci_S 0 (by decide) tw_81 hL3.1 rfl td_S_become_20 ?_
        refine tz_iload_n C_ 2 rfl rfl td_S_become_23 ?_
        refine tz_aload_n C_ 1 rfl rfl td_S_become_24 ?_
        refine tz_get C_ tci_S 0 (by decide) tw_81 hL4.1 rfl td_S_become_25 ?_
        refine tz_iload_n C_ 2 rfl rfl td_S_become_28 ?_
        refine tz_aaldN C_ (t := 4) rfl hL4.2 (by omega) (by decide) td_S_become_29 ?_
        refine tz_waastQN C_ (t := 4) rfl hL3.2 (rb := o2 i) (fun b9 hb9 => by obtain ⟨-, v9, h9⟩ := hok3 _ (by omega) _ hb9; exact ⟨_, h9⟩) rfl (by omega) (by decide) td_S_become_30 (fun f5 hs5 hq5 => ?_)
        refine tz_iinc C_ (k := 1) (v := nI (i + 1)) (lv' := [(0, .ref a), (1, .ref a2), (2, .int (nI (i + 1)))]) 2 rfl (nI_1 i) [1, 2, 0] (by decide) rfl td_S_become_31 ?_
        refine tz_goto C_ td_S_become_34 ?_
        have k6 : f5 a = some (tz_obj 3 [.ref (a + 1), .int (nI n2)]) := ((hq5 _ (by omega)).trans hL3.1)
        have k7 : f5 a2 = some (tz_obj 3 [.ref (a2 + 1), .int (nI n2)]) := ((hq5 _ (by omega)).trans hL4.1)
        have k8 : f5 (a2 + 1) = some (tz_refs cs 4 8 o2) := ((hq5 _ (by omega)).trans hL4.2)
        exact ih10 (i + 1) f5 (by rw [← tz_ofl_s]; exact ⟨k6, hs5⟩) (⟨k7, k8⟩) (fun q hh => by rw [hq5 q (by omega), hfr q (by omega)]) (by omega) (by omega)
  exact loop10 _ 0 f1 (by rw [tz_ofl_0]; exact ⟨hs1, k2⟩) (⟨k3, k4⟩) (fun q hh => by rw [hq1 q (by omega)]) (by omega) (Nat.lt_succ_self _)
