
/-! ===== the model ===== -/
def tz_mo (v : Int32) : Int32 := if v = tz_LO then 1000000 else v
def tz_er (ro : Nat → Int32) (n : Nat) (g : Nat → Int32) : Prop := ∀ j, j < n → ro j = tz_mo (g j)
def tz_okr (n : Nat) (g : Nat → Int32) : Prop := ∀ j, j < n → tz_okv (g j)
theorem tz_mo_lo {v : Int32} (h : tz_okv v) : tz_mo v = 1000000 ↔ v = tz_LO := by
  unfold tz_mo
  split
  · rename_i e; exact ⟨fun _ => e, fun _ => rfl⟩
  · rename_i e
    refine ⟨fun z => ?_, fun z => absurd z e⟩
    rcases h with h | h
    · exact h
    · subst z; exact absurd h.2 (by decide)
theorem tz_er_lo {ro g : Nat → Int32} {n j : Nat} (h : tz_er ro n g) (hk : tz_okr n g) (hj : j < n) : ro j = 1000000 ↔ g j = tz_LO := by
  rw [h j hj]; exact tz_mo_lo (hk j hj)
theorem tz_er_v {ro g : Nat → Int32} {n j : Nat} (h : tz_er ro n g) (hj : j < n) (hv : ¬ g j = tz_LO) : ro j = g j := by
  rw [h j hj, tz_mo, if_neg hv]
def tz_cpf (h g : Nat → Int32) (a i : Nat) : Nat → Int32 := fun q => if a ≤ q ∧ q < a + i then h (q - a) else g q
theorem tz_cpf_0 (h g : Nat → Int32) (a : Nat) : tz_cpf h g a 0 = g := by
  funext q; unfold tz_cpf; rw [if_neg (by omega)]
theorem tz_cpf_s {h g : Nat → Int32} {a i : Nat} {x : Int32} (hx : x = h i) : upd (tz_cpf h g a i) (a + i) x = tz_cpf h g a (i + 1) := by
  funext q
  simp only [upd, tz_cpf]
  by_cases e : q = a + i
  · subst e
    rw [if_pos rfl, if_pos (by omega), show a + i - a = i by omega, hx]
  · rw [if_neg e]
    by_cases h1 : a ≤ q ∧ q < a + i
    · rw [if_pos h1, if_pos (by omega)]
    · rw [if_neg h1, if_neg (by omega)]
theorem tz_cpf_in {h g : Nat → Int32} {a i j : Nat} (hj : j < i) : tz_cpf h g a i (a + j) = h j := by
  unfold tz_cpf; rw [if_pos (by omega), show a + j - a = j by omega]
theorem tz_cpf_out {h g : Nat → Int32} {a i q : Nat} (hq : q < a ∨ a + i ≤ q) : tz_cpf h g a i q = g q := by
  unfold tz_cpf; rw [if_neg (by omega)]
def tz_MB (cs : Nat → ClassId) (f : tz_PH) (M kp : Nat) (fn ms ns tg : Int32) (nw pa bi nu sh ro ma ca : Nat → Int32) : Prop :=
  f M = some (tz_obj 11 [.ref (M + 1), .ref (M + 2), .int (nI kp), .int fn, .ref (M + 3), .ref (M + 4), .ref (M + 5), .int ms, .ref (M + 6), .int ns, .ref (M + 7), .ref (M + 8), .int tg]) ∧ f (M + 1) = some (tz_ints cs 532 nw) ∧ f (M + 2) = some (tz_ints cs 10640 pa) ∧ f (M + 3) = some (tz_ints cs 4 bi) ∧ f (M + 4) = some (tz_ints cs 4 nu) ∧ f (M + 5) = some (tz_ints cs 480 sh) ∧ f (M + 6) = some (tz_ints cs 120 ro) ∧ f (M + 7) = some (tz_ints cs 120 ma) ∧ f (M + 8) = some (tz_ints cs 120 ca)
/-- 532 numbers that stand for a state -/
def tz_en (b : Nat → Int32) (t : tz_TS) : Prop := (∀ p, p < 4 → b p = nI (t.1 p).1) ∧ (∀ p, p < 4 → ∀ j, j < (t.1 p).1 → b (4 + 120 * p + j) = tz_mo ((t.1 p).2 j)) ∧ b 484 = nI t.2.1 ∧ (∀ k, k < t.2.1 → b (488 + k) = (t.2.2.1 k).1 ∧ b (496 + k) = (t.2.2.1 k).2.1 ∧ b (504 + k) = (t.2.2.1 k).2.2.1 ∧ b (512 + k) = (t.2.2.1 k).2.2.2) ∧ ∀ k, k < 6 → b (520 + k) = t.2.2.2.1 k ∧ b (526 + k) = t.2.2.2.2 k
def tz_enQ (bi nu sh : Nat → Int32) (Sb : Nat → Int32 × Nat × (Nat → Int32)) : Prop := ∀ s, s < 4 → bi s = (Sb s).1 ∧ nu s = nI (Sb s).2.1 ∧ ∀ j, j < (Sb s).2.1 → sh (120 * s + j) = (Sb s).2.2 j
def tz_enH (pa : Nat → Int32) (kp : Nat) (ts : Nat → tz_TS) : Prop := ∀ j, j < kp → tz_en (fun i => pa (532 * j + i)) (ts j)
/-- the object at M stands for the state s -/
def tz_AM (cs : Nat → ClassId) (f : tz_PH) (M : Nat) (s : tz_SG) : Prop := ∃ (ms ns tg : Int32) (nw pa bi nu sh ro ma ca : Nat → Int32), tz_MB cs f M s.2.1 s.2.2.2 ms ns tg nw pa bi nu sh ro ma ca ∧ tz_en nw (tz_cur s) ∧ tz_enH pa s.2.1 s.1 ∧ tz_enQ bi nu sh s.2.2.1
theorem tz_le3 {p : Int32} : p ≤ 3 ↔ p < 4 := by
  rw [Int32.le_iff_toInt_le, Int32.lt_iff_toInt_lt]
  have z3 : (3 : Int32).toInt = 3 := rfl
  have z4 : (4 : Int32).toInt = 4 := rfl
  rw [z3, z4]; omega
theorem tz_le5 {p : Int32} : p ≤ 5 ↔ p < 6 := by
  rw [Int32.le_iff_toInt_le, Int32.lt_iff_toInt_lt]
  have z3 : (5 : Int32).toInt = 5 := rfl
  have z4 : (6 : Int32).toInt = 6 := rfl
  rw [z3, z4]; omega
theorem tz_leN {i : Int32} {n : Nat} (hn : n ≤ 100000) : i ≤ nI n - 1 ↔ i < nI n := by
  have e1 : (nI n - 1).toInt = (n : Int) - 1 := by
    by_cases h : n = 0
    · subst h; decide
    · rw [show (nI n - 1 : Int32) = nI (n - 1) from pk_sub (a := n) (b := 1) (by omega), nI_toInt (by omega)]
      omega
  rw [Int32.le_iff_toInt_le, Int32.lt_iff_toInt_lt, e1, nI_toInt (by omega)]
  omega
theorem tz_pk_in {p : Int32} (h : 0 ≤ p ∧ p < 4) : ∃ k, k < 4 ∧ p = nI k := by
  obtain ⟨j, hj, e⟩ := vp_in_of (x := p) (n := 4) (tz_inI (tz_le_nlt h.1) (show p < nI 4 from h.2) (by decide)) (by decide)
  exact ⟨j, hj, e⟩
theorem tz_pk_out {p : Int32} (h : ¬ (0 ≤ p ∧ p < 4)) : tz_pk p = none := by unfold tz_pk; rw [if_neg h]
abbrev tz_has (t : tz_TS) (p i : Int32) : Prop := (0 ≤ p ∧ p < 4) ∧ 0 ≤ i ∧ i < nI (t.1 p.toNatClampNeg).1

abbrev rm_M_finding : Room := { frames := 0, cells := 0, slots := 0, locals := 0 }
set_option maxHeartbeats 4000000 in
set_option maxRecDepth 100000 in
theorem ct_M_finding {l : Launch} {A : Nat → Prop} {D : va_G} {cs : Nat → ClassId} {sz : Nat} {f : tz_PH} {M kp : Nat} {fn ms ns tg v : Int32} (hM : f M = some (tz_obj 11 [.ref (M + 1), .ref (M + 2), .int (nI kp), .int fn, .ref (M + 3), .ref (M + 4), .ref (M + 5), .int ms, .ref (M + 6), .int ns, .ref (M + 7), .ref (M + 8), .int tg])) : tz_CN l tyM_finding prog_13_method_2_code 2 (some (.int)) rm_M_finding 0 0 A D cs sz [.ref M, .int v] f (some (.int v)) (fun f' => f' M = some (tz_obj 11 [.ref (M + 1), .ref (M + 2), .int (nI kp), .int (fn + 1), .ref (M + 3), .ref (M + 4), .ref (M + 5), .int ms, .ref (M + 6), .int ns, .ref (M + 7), .ref (M + 8), .int tg]) ∧ ∀ q, q ≠ M → f' q = f q) := by
  refine tz_C.ofB (lv0 := [(0, .ref M), (1, .int v)]) (plainFor_of_name (by decide)) (Nat.le_of_ble_eq_true rfl) rfl ?_
  intro p_ e_ s_ m_ ar_ be_ me_ c_ Q_ C_ hr_ hk_ hnm_ hz_ hQ_
  refine tz_aload_n C_ 0 rfl rfl td_M_finding_0 ?_
  refine tz_dup C_ rfl td_M_finding_1 ?_
  refine tz_get C_ tci_M 3 (by decide) tw_756 hM rfl td_M_finding_2 ?_
  refine tz_iconst C_ (v := 1) (by decide) td_M_finding_5 ?_
  refine tz_iadd C_ td_M_finding_6 ?_
  refine tz_wput C_ tci_M 3 (by decide) tw_756 rfl hM (Nat.le_of_ble_eq_true rfl) ⟨rfl, rfl⟩ (fs' := [.ref (M + 1), .ref (M + 2), .int (nI kp), .int (fn + 1), .ref (M + 3), .ref (M + 4), .ref (M + 5), .int ms, .ref (M + 6), .int ns, .ref (M + 7), .ref (M + 8), .int tg]) rfl td_M_finding_7 (fun f1 hs1 hq1 => ?_)
  refine tz_iload_n C_ 1 rfl rfl td_M_finding_10 ?_
  refine tz_riret C_ hr_ hk_ hQ_ rfl td_M_finding_11 ?_
  exact ⟨rfl, hs1, (fun q hh => by rw [hq1 q (by omega)])⟩

abbrev rm_M_in : Room := { frames := 0, cells := 0, slots := 0, locals := 0 }
set_option maxHeartbeats 4000000 in
set_option maxRecDepth 100000 in
theorem ct_M_in {l : Launch} {A : Nat → Prop} {D : va_G} {cs : Nat → ClassId} {sz : Nat} {f : tz_PH} {x y z : Int32} : tz_CN l tyM_in prog_13_method_3_code 3 (some (.boolean)) rm_M_in 0 0 A D cs sz [.int x, .int y, .int z] f (some (.int (tz_p (y ≤ x ∧ x ≤ z)))) (fun f' => f' = f) := by
  refine tz_C.ofB (lv0 := [(0, .int x), (1, .int y), (2, .int z)]) (plainFor_of_name (by decide)) (Nat.le_of_ble_eq_true rfl) rfl ?_
  intro p_ e_ s_ m_ ar_ be_ me_ c_ Q_ C_ hr_ hk_ hnm_ hz_ hQ_
  refine tz_iload_n C_ 0 rfl rfl td_M_in_0 ?_
  refine tz_iload_n C_ 1 rfl rfl td_M_in_1 ?_
  refine tz_icmp_lt C_ td_M_in_2 (fun h2 => ?_) (fun h2 => ?_)
  · skip
    refine tz_iconst C_ (v := 0) (by decide) td_M_in_14 ?_
    refine tz_rzret C_ hr_ hk_ hQ_ (by first | exact Or.inl rfl | exact Or.inr rfl | exact tz_p01) rfl td_M_in_15 ?_
    exact ⟨tz_ri (by grind [tz_p]), rfl⟩
  · skip
    refine tz_iload_n C_ 0 rfl rfl td_M_in_5 ?_
    refine tz_iload_n C_ 2 rfl rfl td_M_in_6 ?_
    refine tz_icmp_gt C_ td_M_in_7 (fun h7 => ?_) (fun h7 => ?_)
    · skip
      refine tz_iconst C_ (v := 0) (by decide) td_M_in_14 ?_
      refine tz_rzret C_ hr_ hk_ hQ_ (by first | exact Or.inl rfl | exact Or.inr rfl | exact tz_p01) rfl td_M_in_15 ?_
      exact ⟨tz_ri (by grind [tz_p]), rfl⟩
    · skip
      refine tz_iconst C_ (v := 1) (by decide) td_M_in_10 ?_
      refine tz_goto C_ td_M_in_11 ?_
      refine tz_rzret C_ hr_ hk_ hQ_ (by first | exact Or.inl rfl | exact Or.inr rfl | exact tz_p01) rfl td_M_in_15 ?_
      exact ⟨tz_ri (by grind [tz_p]), rfl⟩

abbrev rm_M_isPass : Room := { frames := 1, cells := 0, slots := 0, locals := 22 }
set_option maxHeartbeats 4000000 in
set_option maxRecDepth 100000 in
theorem ct_M_isPass {l : Launch} {A : Nat → Prop} {D : va_G} {cs : Nat → ClassId} {sz : Nat} {f : tz_PH} {p : Int32} : tz_CN l tyM_isPass prog_13_method_4_code 1 (some (.boolean)) rm_M_isPass 0 0 A D cs sz [.int p] f (some (.int (tz_p (0 ≤ p ∧ p < 4)))) (fun f' => f' = f) := by
  refine tz_C.ofB (lv0 := [(0, .int p)]) (plainFor_of_name (by decide)) (Nat.le_of_ble_eq_true rfl) rfl ?_
  intro p_ e_ s_ m_ ar_ be_ me_ c_ Q_ C_ hr_ hk_ hnm_ hz_ hQ_
  refine tz_iload_n C_ 0 rfl rfl td_M_isPass_0 ?_
  refine tz_iconst C_ (v := 0) (by decide) td_M_isPass_1 ?_
  refine tz_iconst C_ (v := 3) (by decide) td_M_isPass_2 ?_
  refine tz_rS C_ tmi_M_in tw_810 tw_809 (As := [.int p, .int 0, .int 3]) (by exact ct_M_in) rfl (rest := []) rfl (by decide) (Nat.le_of_ble_eq_true rfl) td_M_isPass_3 (st1 := [.int (tz_p (0 ≤ p ∧ p ≤ 3))]) rfl ?_
  refine tz_rzret C_ hr_ hk_ hQ_ (by first | exact Or.inl rfl | exact Or.inr rfl | exact tz_p01) rfl td_M_isPass_6 ?_
  exact ⟨tz_ri (by simp only [tz_le3]), rfl⟩

abbrev rm_M_isSheet : Room := { frames := 1, cells := 0, slots := 0, locals := 22 }
set_option maxHeartbeats 4000000 in
set_option maxRecDepth 100000 in
theorem ct_M_isSheet {l : Launch} {A : Nat → Prop} {D : va_G} {cs : Nat → ClassId} {sz : Nat} {f : tz_PH} {p : Int32} : tz_CN l tyM_isSheet prog_13_method_22_code 1 (some (.boolean)) rm_M_isSheet 0 0 A D cs sz [.int p] f (some (.int (tz_p (0 ≤ p ∧ p < 4)))) (fun f' => f' = f) := by
  refine tz_C.ofB (lv0 := [(0, .int p)]) (plainFor_of_name (by decide)) (Nat.le_of_ble_eq_true rfl) rfl ?_
  intro p_ e_ s_ m_ ar_ be_ me_ c_ Q_ C_ hr_ hk_ hnm_ hz_ hQ_
  refine tz_iload_n C_ 0 rfl rfl td_M_isSheet_0 ?_
  refine tz_iconst C_ (v := 0) (by decide) td_M_isSheet_1 ?_
  refine tz_iconst C_ (v := 3) (by decide) td_M_isSheet_2 ?_
  refine tz_rS C_ tmi_M_in tw_810 tw_809 (As := [.int p, .int 0, .int 3]) (by exact ct_M_in) rfl (rest := []) rfl (by decide) (Nat.le_of_ble_eq_true rfl) td_M_isSheet_3 (st1 := [.int (tz_p (0 ≤ p ∧ p ≤ 3))]) rfl ?_
  refine tz_rzret C_ hr_ hk_ hQ_ (by first | exact Or.inl rfl | exact Or.inr rfl | exact tz_p01) rfl td_M_isSheet_6 ?_
  exact ⟨tz_ri (by simp only [tz_le3]), rfl⟩

abbrev rm_M_isSample : Room := { frames := 2, cells := 0, slots := 0, locals := 42 }
set_option maxHeartbeats 4000000 in
set_option maxRecDepth 100000 in
theorem ct_M_isSample {l : Launch} {A : Nat → Prop} {D : va_G} {cs : Nat → ClassId} {sz : Nat} {f : tz_PH} {M kp : Nat} {fn ms ns tg : Int32} {nw pa bi nu sh ro ma ca : Nat → Int32} (hM : tz_MB cs f M kp fn ms ns tg nw pa bi nu sh ro ma ca) {t : tz_TS} (hE : tz_en nw t) (hW : tz_WT t) {p i : Int32} : tz_CN l tyM_isSample prog_13_method_5_code 3 (some (.boolean)) rm_M_isSample 0 0 A D cs sz [.ref M, .int p, .int i] f (some (.int (tz_p (tz_has t p i)))) (fun f' => f' = f) := by
  refine tz_C.ofB (lv0 := [(0, .ref M), (1, .int p), (2, .int i)]) (plainFor_of_name (by decide)) (Nat.le_of_ble_eq_true rfl) rfl ?_
  intro p_ e_ s_ m_ ar_ be_ me_ c_ Q_ C_ hr_ hk_ hnm_ hz_ hQ_
  refine tz_iload_n C_ 1 rfl rfl td_M_isSample_0 ?_
  refine tz_rS C_ tmi_M_isPass tw_807 tw_806 (As := [.int p]) (by exact ct_M_isPass) rfl (rest := []) rfl (by decide) (Nat.le_of_ble_eq_true rfl) td_M_isSample_1 (st1 := [.int (tz_p (0 ≤ p ∧ p < 4))]) rfl ?_
  refine tz_if_eq C_ td_M_isSample_4 (fun h4 => ?_) (fun h4 => ?_)
  · skip
    replace h4 := tz_p0.mp h4
    refine tz_iconst C_ (v := 0) (by decide) td_M_isSample_29 ?_
    refine tz_rzret C_ hr_ hk_ hQ_ (by first | exact Or.inl rfl | exact Or.inr rfl | exact tz_p01) rfl td_M_isSample_30 ?_
    exact ⟨tz_ri (by unfold tz_p; rw [if_neg (fun z => h4 z.1)]), rfl⟩
  · skip
    replace h4 := tz_p1.mp h4
    obtain ⟨k, hk, ek⟩ := tz_pk_in h4
    subst ek
    refine tz_iload_n C_ 2 rfl rfl td_M_isSample_7 ?_
    refine tz_iconst C_ (v := 0) (by decide) td_M_isSample_8 ?_
    refine tz_aload_n C_ 0 rfl rfl td_M_isSample_9 ?_
    refine tz_get C_ tci_M 0 (by decide) tw_753 hM.1 rfl td_M_isSample_10 ?_
    refine tz_iconst C_ (v := 0) (by decide) td_M_isSample_13 ?_
    refine tz_iload_n C_ 1 rfl rfl td_M_isSample_14 ?_
    refine tz_iadd C_ td_M_isSample_15 ?_
    rw [show (0 + (nI k) : Int32) = nI k from Int32.zero_add _]
    refine tz_ialdN C_ hM.2.1 (by omega) (by decide) td_M_isSample_16 ?_
    refine tz_iconst C_ (v := 1) (by decide) td_M_isSample_17 ?_
    refine tz_isub C_ td_M_isSample_18 ?_
    refine tz_rS C_ tmi_M_in tw_810 tw_809 (As := [.int i, .int 0, .int ((nw k) - 1)]) (by exact ct_M_in) rfl (rest := []) rfl (by decide) (Nat.le_of_ble_eq_true rfl) td_M_isSample_19 (st1 := [.int (tz_p (0 ≤ i ∧ i ≤ ((nw k) - 1)))]) rfl ?_
    refine tz_if_eq C_ td_M_isSample_22 (fun h22 => ?_) (fun h22 => ?_)
    · skip
      replace h22 := tz_p0.mp h22
      refine tz_iconst C_ (v := 0) (by decide) td_M_isSample_29 ?_
      refine tz_rzret C_ hr_ hk_ hQ_ (by first | exact Or.inl rfl | exact Or.inr rfl | exact tz_p01) rfl td_M_isSample_30 ?_
      have hn9 := (hW.1 k hk).1
      rw [hE.1 k hk, tz_leN (by omega)] at h22
      exact ⟨tz_ri (by unfold tz_p tz_has; rw [nI_clamp (by omega)]; grind), rfl⟩
    · skip
      replace h22 := tz_p1.mp h22
      refine tz_iconst C_ (v := 1) (by decide) td_M_isSample_25 ?_
      refine tz_goto C_ td_M_isSample_26 ?_
      refine tz_rzret C_ hr_ hk_ hQ_ (by first | exact Or.inl rfl | exact Or.inr rfl | exact tz_p01) rfl td_M_isSample_30 ?_
      have hn9 := (hW.1 k hk).1
      rw [hE.1 k hk, tz_leN (by omega)] at h22
      exact ⟨tz_ri (by unfold tz_p tz_has; rw [nI_clamp (by omega)]; grind), rfl⟩

abbrev rm_M_at : Room := { frames := 0, cells := 0, slots := 0, locals := 0 }
set_option maxHeartbeats 4000000 in
set_option maxRecDepth 100000 in
theorem ct_M_at {l : Launch} {A : Nat → Prop} {D : va_G} {cs : Nat → ClassId} {sz : Nat} {f : tz_PH} {M kp : Nat} {fn ms ns tg : Int32} {nw pa bi nu sh ro ma ca : Nat → Int32} (hM : tz_MB cs f M kp fn ms ns tg nw pa bi nu sh ro ma ca) {t : tz_TS} (hE : tz_en nw t) (hW : tz_WT t) {k j : Nat} (hk : k < 4) (hj : j < (t.1 k).1) : tz_CN l tyM_at prog_13_method_6_code 3 (some (.int)) rm_M_at 0 0 A D cs sz [.ref M, .int (nI k), .int (nI j)] f (some (.int (tz_mo ((t.1 k).2 j)))) (fun f' => f' = f) := by
  refine tz_C.ofB (lv0 := [(0, .ref M), (1, .int (nI k)), (2, .int (nI j))]) (plainFor_of_name (by decide)) (Nat.le_of_ble_eq_true rfl) rfl ?_
  intro p_ e_ s_ m_ ar_ be_ me_ c_ Q_ C_ hr_ hk_ hnm_ hz_ hQ_
  have hn9 := (hW.1 k hk).1
  refine tz_aload_n C_ 0 rfl rfl td_M_at_0 ?_
  refine tz_get C_ tci_M 0 (by decide) tw_753 hM.1 rfl td_M_at_1 ?_
  refine tz_iconst C_ (v := 4) (by decide) td_M_at_4 ?_
  refine tz_bipush C_ (v := 120) (by decide) td_M_at_5 ?_
  refine tz_iload_n C_ 1 rfl rfl td_M_at_7 ?_
  refine tz_imul C_ td_M_at_8 ?_
  rw [show (120 * (nI k) : Int32) = nI (120 * k) from pk_mul (120) (k)]
  refine tz_iadd C_ td_M_at_9 ?_
  rw [show (4 + (nI (120 * k)) : Int32) = nI (4 + (120 * k)) from nI_add (4) (120 * k)]
  refine tz_iload_n C_ 2 rfl rfl td_M_at_10 ?_
  refine tz_iadd C_ td_M_at_11 ?_
  rw [show ((nI (4 + (120 * k))) + (nI j) : Int32) = nI (4 + (120 * k) + j) from nI_add (4 + (120 * k)) (j)]
  refine tz_ialdN C_ hM.2.1 (by omega) (by decide) td_M_at_12 ?_
  refine tz_riret C_ hr_ hk_ hQ_ rfl td_M_at_13 ?_
  exact ⟨tz_ri (hE.2.1 k hk j hj), rfl⟩
