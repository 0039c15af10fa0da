
def tz_upto (o : Nat → Option Nat) (i : Nat) : Nat → Option Nat := fun q => if q < i then o q else none
theorem tz_upto_s {o : Nat → Option Nat} {i : Nat} {x : Option Nat} (hx : x = o i) : va_up (tz_upto o i) i x = tz_upto o (i + 1) := by
  funext q
  simp only [va_up, tz_upto]
  by_cases e : q = i
  · subst e; rw [if_pos rfl, if_pos (by omega), hx]
  · rw [if_neg e]
    by_cases h : q < i
    · rw [if_pos h, if_pos (by omega)]
    · rw [if_neg h, if_neg (by omega)]
theorem tz_upto_0 (o : Nat → Option Nat) : tz_upto o 0 = fun _ => none := by
  funext q; unfold tz_upto; rw [if_neg (by omega)]
theorem tz_upto_n {o : Nat → Option Nat} {n i : Nat} (h : n ≤ i) : ∀ k, k < n → tz_upto o i k = o k := by
  intro k hk; unfold tz_upto; rw [if_pos (by omega)]

abbrev rm_R_init : Room := { frames := 1, cells := 1, slots := 120, locals := 12 }
set_option maxHeartbeats 4000000 in
set_option maxRecDepth 100000 in
theorem ct_R_init {l : Launch} {A : Nat → Prop} {D : va_G} {cs : Nat → ClassId} {sz : Nat} {f : tz_PH} {a : Nat} (hz0 : sz = a + 1) (h0 : f a = some (tz_obj 5 [.null, .int 0])) (hA : ∀ q, sz ≤ q → A q) : tz_CN l tyR_init prog_7_method_1_code 1 (none) rm_R_init 1 120 A D cs sz [.ref a] f (none) (fun f' => tz_Row cs f' a 0 (fun _ => 0) ∧ ∀ q, (q < a ∨ a + 2 ≤ q) → f' q = f q) := by
  refine tz_C.ofB (lv0 := [(0, .ref a)]) (plainFor_of_name (by decide)) (Nat.le_of_ble_eq_true rfl) rfl ?_
  intro p_ e_ s_ m_ ar_ be_ me_ c_ Q_ C_ hr_ hk_ hnm_ hz_ hQ_
  subst hz0
  refine tz_aload_n C_ 0 rfl rfl td_R_init_0 ?_
  refine tz_objInit C_ tw_92 tw_63 tw_64 (by decide) td_R_init_1 ?_
  refine tz_aload_n C_ 0 rfl rfl td_R_init_4 ?_
  refine tz_bipush C_ (v := 120) (by decide) td_R_init_5 ?_
  refine tz_wnewI C_ tw_100 (hA _ (by omega)) (nA := 120) (by decide) (by decide) td_R_init_7 (sz' := a + 2) (cells' := 1) (slots' := 120) ⟨rfl, rfl, rfl⟩ (fun f1 hs1 hq1 => ?_)
  have k2 : f1 a = some (tz_obj 5 [.null, .int 0]) := ((hq1 _ (by omega)).trans h0)
  refine tz_wputF C_ hnm_ tci_R 0 (by decide) tw_93 ⟨rfl, rfl⟩ k2 (Nat.le_of_ble_eq_true rfl) ⟨rfl, rfl⟩ (fs' := [.ref (a + 1), .int 0]) rfl td_R_init_9 (fun f3 hs3 hq3 => ?_)
  refine tz_aload_n C_ 0 rfl rfl td_R_init_12 ?_
  refine tz_iconst C_ (v := 0) (by decide) td_R_init_13 ?_
  refine tz_wput C_ tci_R 1 (by decide) tw_94 rfl hs3 (Nat.le_of_ble_eq_true rfl) ⟨rfl, rfl⟩ (fs' := [.ref (a + 1), .int 0]) rfl td_R_init_14 (fun f4 hs4 hq4 => ?_)
  refine tz_rvret C_ hr_ hk_ hQ_ rfl td_R_init_17 ?_
  have k5 : f4 (a + 1) = some (tz_ints cs 120 (fun _ => 0)) := ((hq4 _ (by omega)).trans ((hq3 _ (by omega)).trans hs1))
  exact ⟨rfl, ⟨hs4, k5⟩, (fun q hh => by rw [hq4 q (by omega), hq3 q (by omega), hq1 q (by omega)])⟩

abbrev rm_U_init : Room := { frames := 1, cells := 1, slots := 120, locals := 12 }
set_option maxHeartbeats 4000000 in
set_option maxRecDepth 100000 in
theorem ct_U_init {l : Launch} {A : Nat → Prop} {D : va_G} {cs : Nat → ClassId} {sz : Nat} {f : tz_PH} {a : Nat} (hz0 : sz = a + 1) (h0 : f a = some (tz_obj 9 [.null, .int 0])) (hA : ∀ q, sz ≤ q → A q) : tz_CN l tyU_init prog_11_method_1_code 1 (none) rm_U_init 1 120 A D cs sz [.ref a] f (none) (fun f' => tz_Tu cs f' a 0 (fun _ => 0) ∧ ∀ q, (q < a ∨ a + 2 ≤ q) → f' q = f q) := by
  refine tz_C.ofB (lv0 := [(0, .ref a)]) (plainFor_of_name (by decide)) (Nat.le_of_ble_eq_true rfl) rfl ?_
  intro p_ e_ s_ m_ ar_ be_ me_ c_ Q_ C_ hr_ hk_ hnm_ hz_ hQ_
  subst hz0
  refine tz_aload_n C_ 0 rfl rfl td_U_init_0 ?_
  refine tz_objInit C_ tw_189 tw_63 tw_64 (by decide) td_U_init_1 ?_
  refine tz_aload_n C_ 0 rfl rfl td_U_init_4 ?_
  refine tz_bipush C_ (v := 120) (by decide) td_U_init_5 ?_
  refine tz_wnewI C_ tw_100 (hA _ (by omega)) (nA := 120) (by decide) (by decide) td_U_init_7 (sz' := a + 2) (cells' := 1) (slots' := 120) ⟨rfl, rfl, rfl⟩ (fun f1 hs1 hq1 => ?_)
  have k2 : f1 a = some (tz_obj 9 [.null, .int 0]) := ((hq1 _ (by omega)).trans h0)
  refine tz_wputF C_ hnm_ tci_U 0 (by decide) tw_190 ⟨rfl, rfl⟩ k2 (Nat.le_of_ble_eq_true rfl) ⟨rfl, rfl⟩ (fs' := [.ref (a + 1), .int 0]) rfl td_U_init_9 (fun f3 hs3 hq3 => ?_)
  refine tz_aload_n C_ 0 rfl rfl td_U_init_12 ?_
  refine tz_iconst C_ (v := 0) (by decide) td_U_init_13 ?_
  refine tz_wput C_ tci_U 1 (by decide) tw_191 rfl hs3 (Nat.le_of_ble_eq_true rfl) ⟨rfl, rfl⟩ (fs' := [.ref (a + 1), .int 0]) rfl td_U_init_14 (fun f4 hs4 hq4 => ?_)
  refine tz_rvret C_ hr_ hk_ hQ_ rfl td_U_init_17 ?_
  have k5 : f4 (a + 1) = some (tz_ints cs 120 (fun _ => 0)) := ((hq4 _ (by omega)).trans ((hq3 _ (by omega)).trans hs1))
  exact ⟨rfl, ⟨hs4, k5⟩, (fun q hh => by rw [hq4 q (by omega), hq3 q (by omega), hq1 q (by omega)])⟩

abbrev rm_Q_init : Room := { frames := 1, cells := 1, slots := 120, locals := 12 }
set_option maxHeartbeats 4000000 in
set_option maxRecDepth 100000 in
theorem ct_Q_init {l : Launch} {A : Nat → Prop} {D : va_G} {cs : Nat → ClassId} {sz : Nat} {f : tz_PH} {a : Nat} (hz0 : sz = a + 1) (h0 : f a = some (tz_obj 6 [.null, .int 0, .int 0])) (hA : ∀ q, sz ≤ q → A q) : tz_CN l tyQ_init prog_8_method_1_code 1 (none) rm_Q_init 1 120 A D cs sz [.ref a] f (none) (fun f' => tz_Sh cs f' a 0 0 (fun _ => 0) ∧ ∀ q, (q < a ∨ a + 2 ≤ q) → f' q = f q) := by
  refine tz_C.ofB (lv0 := [(0, .ref a)]) (plainFor_of_name (by decide)) (Nat.le_of_ble_eq_true rfl) rfl ?_
  intro p_ e_ s_ m_ ar_ be_ me_ c_ Q_ C_ hr_ hk_ hnm_ hz_ hQ_
  subst hz0
  refine tz_aload_n C_ 0 rfl rfl td_Q_init_0 ?_
  refine tz_objInit C_ tw_173 tw_63 tw_64 (by decide) td_Q_init_1 ?_
  refine tz_aload_n C_ 0 rfl rfl td_Q_init_4 ?_
  refine tz_bipush C_ (v := 120) (by decide) td_Q_init_5 ?_
  refine tz_wnewI C_ tw_100 (hA _ (by omega)) (nA := 120) (by decide) (by decide) td_Q_init_7 (sz' := a + 2) (cells' := 1) (slots' := 120) ⟨rfl, rfl, rfl⟩ (fun f1 hs1 hq1 => ?_)
  have k2 : f1 a = some (tz_obj 6 [.null, .int 0, .int 0]) := ((hq1 _ (by omega)).trans h0)
  refine tz_wputF C_ hnm_ tci_Q 0 (by decide) tw_174 ⟨rfl, rfl⟩ k2 (Nat.le_of_ble_eq_true rfl) ⟨rfl, rfl⟩ (fs' := [.ref (a + 1), .int 0, .int 0]) rfl td_Q_init_9 (fun f3 hs3 hq3 => ?_)
  refine tz_aload_n C_ 0 rfl rfl td_Q_init_12 ?_
  refine tz_iconst C_ (v := 0) (by decide) td_Q_init_13 ?_
  refine tz_wput C_ tci_Q 1 (by decide) tw_175 rfl hs3 (Nat.le_of_ble_eq_true rfl) ⟨rfl, rfl⟩ (fs' := [.ref (a + 1), .int 0, .int 0]) rfl td_Q_init_14 (fun f4 hs4 hq4 => ?_)
  refine tz_aload_n C_ 0 rfl rfl td_Q_init_17 ?_
  refine tz_iconst C_ (v := 0) (by decide) td_Q_init_18 ?_
  refine tz_wput C_ tci_Q 2 (by decide) tw_176 rfl hs4 (Nat.le_of_ble_eq_true rfl) ⟨rfl, rfl⟩ (fs' := [.ref (a + 1), .int 0, .int 0]) rfl td_Q_init_19 (fun f5 hs5 hq5 => ?_)
  refine tz_rvret C_ hr_ hk_ hQ_ rfl td_Q_init_22 ?_
  have k6 : f5 (a + 1) = some (tz_ints cs 120 (fun _ => 0)) := ((hq5 _ (by omega)).trans ((hq4 _ (by omega)).trans ((hq3 _ (by omega)).trans hs1)))
  exact ⟨rfl, ⟨hs5, k6⟩, (fun q hh => by rw [hq5 q (by omega), hq4 q (by omega), hq3 q (by omega), hq1 q (by omega)])⟩

abbrev rm_S_init : Room := { frames := 1, cells := 1, slots := 8, locals := 12 }
set_option maxHeartbeats 4000000 in
set_option maxRecDepth 100000 in
theorem ct_S_init {l : Launch} {A : Nat → Prop} {D : va_G} {cs : Nat → ClassId} {sz : Nat} {f : tz_PH} {a : Nat} (hz0 : sz = a + 1) (h0 : f a = some (tz_obj 3 [.null, .int 0])) (hA : ∀ q, sz ≤ q → A q) : tz_CN l tyS_init prog_5_method_1_code 1 (none) rm_S_init 1 8 A D cs sz [.ref a] f (none) (fun f' => tz_Ly cs f' a 0 (fun _ => none) ∧ ∀ q, (q < a ∨ a + 2 ≤ q) → f' q = f q) := by
  refine tz_C.ofB (lv0 := [(0, .ref a)]) (plainFor_of_name (by decide)) (Nat.le_of_ble_eq_true rfl) rfl ?_
  intro p_ e_ s_ m_ ar_ be_ me_ c_ Q_ C_ hr_ hk_ hnm_ hz_ hQ_
  subst hz0
  refine tz_aload_n C_ 0 rfl rfl td_S_init_0 ?_
  refine tz_objInit C_ tw_78 tw_63 tw_64 (by decide) td_S_init_1 ?_
  refine tz_aload_n C_ 0 rfl rfl td_S_init_4 ?_
  refine tz_bipush C_ (v := 8) (by decide) td_S_init_5 ?_
  refine tz_wnewR C_ (t := 4) rfl tw_79 tw_80 (hA _ (by omega)) (nA := 8) (by decide) (by decide) td_S_init_7 (sz' := a + 2) (cells' := 1) (slots' := 8) ⟨rfl, rfl, rfl⟩ (fun f1 hs1 hq1 => ?_)
  have k2 : f1 a = some (tz_obj 3 [.null, .int 0]) := ((hq1 _ (by omega)).trans h0)
  refine tz_wputF C_ hnm_ tci_S 0 (by decide) tw_81 ⟨rfl, rfl⟩ k2 (Nat.le_of_ble_eq_true rfl) ⟨rfl, rfl⟩ (fs' := [.ref (a + 1), .int 0]) rfl td_S_init_10 (fun f3 hs3 hq3 => ?_)
  refine tz_aload_n C_ 0 rfl rfl td_S_init_13 ?_
  refine tz_iconst C_ (v := 0) (by decide) td_S_init_14 ?_
  refine tz_wput C_ tci_S 1 (by decide) tw_82 rfl hs3 (Nat.le_of_ble_eq_true rfl) ⟨rfl, rfl⟩ (fs' := [.ref (a + 1), .int 0]) rfl td_S_init_15 (fun f4 hs4 hq4 => ?_)
  refine tz_rvret C_ hr_ hk_ hQ_ rfl td_S_init_18 ?_
  have k5 : f4 (a + 1) = some (tz_refs cs 4 8 (fun _ => none)) := ((hq4 _ (by omega)).trans ((hq3 _ (by omega)).trans hs1))
  exact ⟨rfl, ⟨hs4, k5⟩, (fun q hh => by rw [hq4 q (by omega), hq3 q (by omega), hq1 q (by omega)])⟩

abbrev rm_A_init : Room := { frames := 1, cells := 0, slots := 0, locals := 12 }
set_option maxHeartbeats 4000000 in
set_option maxRecDepth 100000 in
theorem ct_A_init {l : Launch} {A : Nat → Prop} {D : va_G} {cs : Nat → ClassId} {sz : Nat} {f : tz_PH} {a : Nat} (hz0 : sz = a + 1) (h0 : f a = some (tz_obj 0 [.int 0, .int 0])) (hA : ∀ q, sz ≤ q → A q) : tz_CN l tyA_init prog_2_method_1_code 1 (none) rm_A_init 0 0 A D cs sz [.ref a] f (none) (fun f' => tz_Al f' a 0 0 ∧ ∀ q, (q < a ∨ a + 1 ≤ q) → f' q = f q) := by
  refine tz_C.ofB (lv0 := [(0, .ref a)]) (plainFor_of_name (by decide)) (Nat.le_of_ble_eq_true rfl) rfl ?_
  intro p_ e_ s_ m_ ar_ be_ me_ c_ Q_ C_ hr_ hk_ hnm_ hz_ hQ_
  subst hz0
  refine tz_aload_n C_ 0 rfl rfl td_A_init_0 ?_
  refine tz_objInit C_ tw_202 tw_63 tw_64 (by decide) td_A_init_1 ?_
  refine tz_aload_n C_ 0 rfl rfl td_A_init_4 ?_
  refine tz_iconst C_ (v := 0) (by decide) td_A_init_5 ?_
  refine tz_wput C_ tci_A 0 (by decide) tw_203 rfl h0 (Nat.le_of_ble_eq_true rfl) ⟨rfl, rfl⟩ (fs' := [.int 0, .int 0]) rfl td_A_init_6 (fun f1 hs1 hq1 => ?_)
  refine tz_aload_n C_ 0 rfl rfl td_A_init_9 ?_
  refine tz_iconst C_ (v := 0) (by decide) td_A_init_10 ?_
  refine tz_wput C_ tci_A 1 (by decide) tw_204 rfl hs1 (Nat.le_of_ble_eq_true rfl) ⟨rfl, rfl⟩ (fs' := [.int 0, .int 0]) rfl td_A_init_11 (fun f2 hs2 hq2 => ?_)
  refine tz_rvret C_ hr_ hk_ hQ_ rfl td_A_init_14 ?_
  exact ⟨rfl, hs2, (fun q hh => by rw [hq2 q (by omega), hq1 q (by omega)])⟩

abbrev rm_E_init : Room := { frames := 2, cells := 6, slots := 144, locals := 32 }
set_option maxHeartbeats 4000000 in
set_option maxRecDepth 100000 in
theorem ct_E_init {l : Launch} {A : Nat → Prop} {D : va_G} {cs : Nat → ClassId} {sz : Nat} {f : tz_PH} {a : Nat} (hz0 : sz = a + 1) (h0 : f a = some (tz_obj 7 [.null, .null, .null, .null, .int 0])) (hA : ∀ q, sz ≤ q → A q) : tz_CN l tyE_init prog_9_method_1_code 1 (none) rm_E_init 6 144 A D cs sz [.ref a] f (none) (fun f' => tz_Step cs f' a (-1) 0 (fun _ => 0) 0 (fun _ => none) (fun _ => 0) (fun _ => 0) ∧ ∀ q, (q < a ∨ a + 7 ≤ q) → f' q = f q) := by
  refine tz_C.ofB (lv0 := [(0, .ref a)]) (plainFor_of_name (by decide)) (Nat.le_of_ble_eq_true rfl) rfl ?_
  intro p_ e_ s_ m_ ar_ be_ me_ c_ Q_ C_ hr_ hk_ hnm_ hz_ hQ_
  subst hz0
  refine tz_aload_n C_ 0 rfl rfl td_E_init_0 ?_
  refine tz_objInit C_ tw_136 tw_63 tw_64 (by decide) td_E_init_1 ?_
  refine tz_aload_n C_ 0 rfl rfl td_E_init_4 ?_
  refine tz_wnew C_ tci_R tw_137 tw_88 tw_45 (hA _ (by omega)) (fs := [.null, .int 0]) (fun j hj => by rcases (show j = 0 ∨ j = 1 by omega) with rfl | rfl <;> rfl) (by decide) td_E_init_5 (sz' := a + 2) (cells' := 1) (slots' := 2) ⟨rfl, rfl, rfl⟩ (fun f1 hs1 hq1 => ?_)
  refine tz_dup C_ rfl td_E_init_8 ?_
  refine tz_cIN C_ tmi_R_init rfl tw_90 tw_138 (As := []) (by exact (ct_R_init (a := a + 1) rfl hs1 (fun q hq => hA q (by omega)))) rfl (rest := [.ref (a + 1), .ref a]) rfl (by decide) (Nat.le_of_ble_eq_true rfl) td_E_init_9 (sz' := a + 3) (cells' := 2) (slots' := 122) ⟨rfl, rfl, rfl⟩ (fun f2 hF2 => ?_)
  obtain ⟨hP3, hq3⟩ := hF2
  have k4 : f2 a = some (tz_obj 7 [.null, .null, .null, .null, .int 0]) := ((hq3 _ (by omega)).trans ((hq1 _ (by omega)).trans h0))
  refine tz_wputF C_ hnm_ tci_E 0 (by decide) tw_141 ⟨rfl, rfl⟩ k4 (Nat.le_of_ble_eq_true rfl) ⟨rfl, rfl⟩ (fs' := [.ref (a + 1), .null, .null, .null, .int 0]) rfl td_E_init_12 (fun f5 hs5 hq5 => ?_)
  refine tz_aload_n C_ 0 rfl rfl td_E_init_15 ?_
  refine tz_wnew C_ tci_S tw_139 tw_74 tw_44 (hA _ (by omega)) (fs := [.null, .int 0]) (fun j hj => by rcases (show j = 0 ∨ j = 1 by omega) with rfl | rfl <;> rfl) (by decide) td_E_init_16 (sz' := a + 4) (cells' := 3) (slots' := 124) ⟨rfl, rfl, rfl⟩ (fun f6 hs6 hq6 => ?_)
  refine tz_dup C_ rfl td_E_init_19 ?_
  refine tz_cIN C_ tmi_S_init rfl tw_76 tw_140 (As := []) (by exact (ct_S_init (a := a + 3) rfl hs6 (fun q hq => hA q (by omega)))) rfl (rest := [.ref (a + 3), .ref a]) rfl (by decide) (Nat.le_of_ble_eq_true rfl) td_E_init_20 (sz' := a + 5) (cells' := 4) (slots' := 132) ⟨rfl, rfl, rfl⟩ (fun f7 hF7 => ?_)
  obtain ⟨hP8, hq8⟩ := hF7
  have k9 : f7 a = some (tz_obj 7 [.ref (a + 1), .null, .null, .null, .int 0]) := ((hq8 _ (by omega)).trans ((hq6 _ (by omega)).trans hs5))
  refine tz_wputF C_ hnm_ tci_E 1 (by decide) tw_142 ⟨rfl, rfl⟩ k9 (Nat.le_of_ble_eq_true rfl) ⟨rfl, rfl⟩ (fs' := [.ref (a + 1), .ref (a + 3), .null, .null, .int 0]) rfl td_E_init_23 (fun f10 hs10 hq10 => ?_)
  refine tz_aload_n C_ 0 rfl rfl td_E_init_26 ?_
  refine tz_bipush C_ (v := 6) (by decide) td_E_init_27 ?_
  refine tz_wnewI C_ tw_100 (hA _ (by omega)) (nA := 6) (by decide) (by decide) td_E_init_29 (sz' := a + 6) (cells' := 5) (slots' := 138) ⟨rfl, rfl, rfl⟩ (fun f11 hs11 hq11 => ?_)
  have k12 : f11 a = some (tz_obj 7 [.ref (a + 1), .ref (a + 3), .null, .null, .int 0]) := ((hq11 _ (by omega)).trans hs10)
  refine tz_wputF C_ hnm_ tci_E 2 (by decide) tw_143 ⟨rfl, rfl⟩ k12 (Nat.le_of_ble_eq_true rfl) ⟨rfl, rfl⟩ (fs' := [.ref (a + 1), .ref (a + 3), .ref (a + 5), .null, .int 0]) rfl td_E_init_31 (fun f13 hs13 hq13 => ?_)
  refine tz_aload_n C_ 0 rfl rfl td_E_init_34 ?_
  refine tz_bipush C_ (v := 6) (by decide) td_E_init_35 ?_
  refine tz_wnewI C_ tw_100 (hA _ (by omega)) (nA := 6) (by decide) (by decide) td_E_init_37 (sz' := a + 7) (cells' := 6) (slots' := 144) ⟨rfl, rfl, rfl⟩ (fun f14 hs14 hq14 => ?_)
  have k15 : f14 a = some (tz_obj 7 [.ref (a + 1), .ref (a + 3), .ref (a + 5), .null, .int 0]) := ((hq14 _ (by omega)).trans hs13)
  refine tz_wputF C_ hnm_ tci_E 3 (by decide) tw_144 ⟨rfl, rfl⟩ k15 (Nat.le_of_ble_eq_true rfl) ⟨rfl, rfl⟩ (fs' := [.ref (a + 1), .ref (a + 3), .ref (a + 5), .ref (a + 6), .int 0]) rfl td_E_init_39 (fun f16 hs16 hq16 => ?_)
  refine tz_aload_n C_ 0 rfl rfl td_E_init_42 ?_
  refine tz_iconst C_ (v := -1) (by decide) td_E_init_43 ?_
  refine tz_wput C_ tci_E 4 (by decide) tw_145 rfl hs16 (Nat.le_of_ble_eq_true rfl) ⟨rfl, rfl⟩ (fs' := [.ref (a + 1), .ref (a + 3), .ref (a + 5), .ref (a + 6), .int (-1)]) rfl td_E_init_44 (fun f17 hs17 hq17 => ?_)
  refine tz_rvret C_ hr_ hk_ hQ_ rfl td_E_init_47 ?_
  have kp18 : tz_Row cs f17 (a + 1) 0 (fun _ => 0) := hP3.fr (fun q h1_ h2_ => ((hq17 q (by omega)).trans ((hq16 q (by omega)).trans ((hq14 q (by omega)).trans ((hq13 q (by omega)).trans ((hq11 q (by omega)).trans ((hq10 q (by omega)).trans ((hq8 q (by omega)).trans ((hq6 q (by omega)).trans (hq5 q (by omega)))))))))))
  have kp19 : tz_Ly cs f17 (a + 3) 0 (fun _ => none) := hP8.fr (fun q h1_ h2_ => ((hq17 q (by omega)).trans ((hq16 q (by omega)).trans ((hq14 q (by omega)).trans ((hq13 q (by omega)).trans ((hq11 q (by omega)).trans (hq10 q (by omega))))))))
  have k20 : f17 (a + 5) = some (tz_ints cs 6 (fun _ => 0)) := ((hq17 _ (by omega)).trans ((hq16 _ (by omega)).trans ((hq14 _ (by omega)).trans ((hq13 _ (by omega)).trans hs11))))
  have k21 : f17 (a + 6) = some (tz_ints cs 6 (fun _ => 0)) := ((hq17 _ (by omega)).trans ((hq16 _ (by omega)).trans hs14))
  exact ⟨rfl, ⟨hs17, kp18, kp19, k20, k21⟩, (fun q hh => by rw [hq17 q (by omega), hq16 q (by omega), hq14 q (by omega), hq13 q (by omega), hq11 q (by omega), hq10 q (by omega), hq8 q (by omega), hq6 q (by omega), hq5 q (by omega), hq3 q (by omega), hq1 q (by omega)])⟩

abbrev rm_P_init : Room := { frames := 2, cells := 7, slots := 368, locals := 32 }
set_option maxHeartbeats 4000000 in
set_option maxRecDepth 100000 in
theorem ct_P_init {l : Launch} {A : Nat → Prop} {D : va_G} {cs : Nat → ClassId} {sz : Nat} {f : tz_PH} {a : Nat} (hz0 : sz = a + 1) (h0 : f a = some (tz_obj 4 [.null, .null, .null, .null, .int 0])) (hA : ∀ q, sz ≤ q → A q) : tz_CN l tyP_init prog_6_method_1_code 1 (none) rm_P_init 7 368 A D cs sz [.ref a] f (none) (fun f' => tz_Pl cs f' a (a + 4) (a + 6) (-1) 0 0 0 (fun _ => 0) 0 (fun _ => 0) 0 (fun _ => 0) ∧ ∀ q, (q < a ∨ a + 8 ≤ q) → f' q = f q) := by
  refine tz_C.ofB (lv0 := [(0, .ref a)]) (plainFor_of_name (by decide)) (Nat.le_of_ble_eq_true rfl) rfl ?_
  intro p_ e_ s_ m_ ar_ be_ me_ c_ Q_ C_ hr_ hk_ hnm_ hz_ hQ_
  subst hz0
  refine tz_aload_n C_ 0 rfl rfl td_P_init_0 ?_
  refine tz_objInit C_ tw_215 tw_63 tw_64 (by decide) td_P_init_1 ?_
  refine tz_aload_n C_ 0 rfl rfl td_P_init_4 ?_
  refine tz_wnew C_ tci_A tw_216 tw_198 tw_51 (hA _ (by omega)) (fs := [.int 0, .int 0]) (fun j hj => by rcases (show j = 0 ∨ j = 1 by omega) with rfl | rfl <;> rfl) (by decide) td_P_init_5 (sz' := a + 2) (cells' := 1) (slots' := 2) ⟨rfl, rfl, rfl⟩ (fun f1 hs1 hq1 => ?_)
  refine tz_dup C_ rfl td_P_init_8 ?_
  refine tz_cIN C_ tmi_A_init rfl tw_200 tw_217 (As := []) (by exact (ct_A_init (a := a + 1) rfl hs1 (fun q hq => hA q (by omega)))) rfl (rest := [.ref (a + 1), .ref a]) rfl (by decide) (Nat.le_of_ble_eq_true rfl) td_P_init_9 (sz' := a + 2) (cells' := 1) (slots' := 2) ⟨rfl, rfl, rfl⟩ (fun f2 hF2 => ?_)
  obtain ⟨hP3, hq3⟩ := hF2
  have k4 : f2 a = some (tz_obj 4 [.null, .null, .null, .null, .int 0]) := ((hq3 _ (by omega)).trans ((hq1 _ (by omega)).trans h0))
  refine tz_wputF C_ hnm_ tci_P 0 (by decide) tw_222 ⟨rfl, rfl⟩ k4 (Nat.le_of_ble_eq_true rfl) ⟨rfl, rfl⟩ (fs' := [.ref (a + 1), .null, .null, .null, .int 0]) rfl td_P_init_12 (fun f5 hs5 hq5 => ?_)
  refine tz_aload_n C_ 0 rfl rfl td_P_init_15 ?_
  refine tz_wnew C_ tci_U tw_218 tw_185 tw_50 (hA _ (by omega)) (fs := [.null, .int 0]) (fun j hj => by rcases (show j = 0 ∨ j = 1 by omega) with rfl | rfl <;> rfl) (by decide) td_P_init_16 (sz' := a + 3) (cells' := 2) (slots' := 4) ⟨rfl, rfl, rfl⟩ (fun f6 hs6 hq6 => ?_)
  refine tz_dup C_ rfl td_P_init_19 ?_
  refine tz_cIN C_ tmi_U_init rfl tw_187 tw_219 (As := []) (by exact (ct_U_init (a := a + 2) rfl hs6 (fun q hq => hA q (by omega)))) rfl (rest := [.ref (a + 2), .ref a]) rfl (by decide) (Nat.le_of_ble_eq_true rfl) td_P_init_20 (sz' := a + 4) (cells' := 3) (slots' := 124) ⟨rfl, rfl, rfl⟩ (fun f7 hF7 => ?_)
  obtain ⟨hP8, hq8⟩ := hF7
  have k9 : f7 a = some (tz_obj 4 [.ref (a + 1), .null, .null, .null, .int 0]) := ((hq8 _ (by omega)).trans ((hq6 _ (by omega)).trans hs5))
  refine tz_wputF C_ hnm_ tci_P 1 (by decide) tw_223 ⟨rfl, rfl⟩ k9 (Nat.le_of_ble_eq_true rfl) ⟨rfl, rfl⟩ (fs' := [.ref (a + 1), .ref (a + 2), .null, .null, .int 0]) rfl td_P_init_23 (fun f10 hs10 hq10 => ?_)
  refine tz_aload_n C_ 0 rfl rfl td_P_init_26 ?_
  refine tz_wnew C_ tci_R tw_220 tw_88 tw_45 (hA _ (by omega)) (fs := [.null, .int 0]) (fun j hj => by rcases (show j = 0 ∨ j = 1 by omega) with rfl | rfl <;> rfl) (by decide) td_P_init_27 (sz' := a + 5) (cells' := 4) (slots' := 126) ⟨rfl, rfl, rfl⟩ (fun f11 hs11 hq11 => ?_)
  refine tz_dup C_ rfl td_P_init_30 ?_
  refine tz_cIN C_ tmi_R_init rfl tw_90 tw_221 (As := []) (by exact (ct_R_init (a := a + 4) rfl hs11 (fun q hq => hA q (by omega)))) rfl (rest := [.ref (a + 4), .ref a]) rfl (by decide) (Nat.le_of_ble_eq_true rfl) td_P_init_31 (sz' := a + 6) (cells' := 5) (slots' := 246) ⟨rfl, rfl, rfl⟩ (fun f12 hF12 => ?_)
  obtain ⟨hP13, hq13⟩ := hF12
  have k14 : f12 a = some (tz_obj 4 [.ref (a + 1), .ref (a + 2), .null, .null, .int 0]) := ((hq13 _ (by omega)).trans ((hq11 _ (by omega)).trans hs10))
  refine tz_wput C_ tci_P 2 (by decide) tw_224 rfl k14 (Nat.le_of_ble_eq_true rfl) ⟨rfl, rfl⟩ (fs' := [.ref (a + 1), .ref (a + 2), .ref (a + 4), .null, .int 0]) rfl td_P_init_34 (fun f15 hs15 hq15 => ?_)
  refine tz_aload_n C_ 0 rfl rfl td_P_init_37 ?_
  refine tz_wnew C_ tci_R tw_220 tw_88 tw_45 (hA _ (by omega)) (fs := [.null, .int 0]) (fun j hj => by rcases (show j = 0 ∨ j = 1 by omega) with rfl | rfl <;> rfl) (by decide) td_P_init_38 (sz' := a + 7) (cells' := 6) (slots' := 248) ⟨rfl, rfl, rfl⟩ (fun f16 hs16 hq16 => ?_)
  refine tz_dup C_ rfl td_P_init_41 ?_
  refine tz_cIN C_ tmi_R_init rfl tw_90 tw_221 (As := []) (by exact (ct_R_init (a := a + 6) rfl hs16 (fun q hq => hA q (by omega)))) rfl (rest := [.ref (a + 6), .ref a]) rfl (by decide) (Nat.le_of_ble_eq_true rfl) td_P_init_42 (sz' := a + 8) (cells' := 7) (slots' := 368) ⟨rfl, rfl, rfl⟩ (fun f17 hF17 => ?_)
  obtain ⟨hP18, hq18⟩ := hF17
  have k19 : f17 a = some (tz_obj 4 [.ref (a + 1), .ref (a + 2), .ref (a + 4), .null, .int 0]) := ((hq18 _ (by omega)).trans ((hq16 _ (by omega)).trans hs15))
  refine tz_wput C_ tci_P 3 (by decide) tw_225 rfl k19 (Nat.le_of_ble_eq_true rfl) ⟨rfl, rfl⟩ (fs' := [.ref (a + 1), .ref (a + 2), .ref (a + 4), .ref (a + 6), .int 0]) rfl td_P_init_45 (fun f20 hs20 hq20 => ?_)
  refine tz_aload_n C_ 0 rfl rfl td_P_init_48 ?_
  refine tz_iconst C_ (v := -1) (by decide) td_P_init_49 ?_
  refine tz_wput C_ tci_P 4 (by decide) tw_226 rfl hs20 (Nat.le_of_ble_eq_true rfl) ⟨rfl, rfl⟩ (fs' := [.ref (a + 1), .ref (a + 2), .ref (a + 4), .ref (a + 6), .int (-1)]) rfl td_P_init_50 (fun f21 hs21 hq21 => ?_)
  refine tz_rvret C_ hr_ hk_ hQ_ rfl td_P_init_53 ?_
  have k22 : f21 (a + 1) = some (tz_obj 0 [.int 0, .int 0]) := ((hq21 _ (by omega)).trans ((hq20 _ (by omega)).trans ((hq18 _ (by omega)).trans ((hq16 _ (by omega)).trans ((hq15 _ (by omega)).trans ((hq13 _ (by omega)).trans ((hq11 _ (by omega)).trans ((hq10 _ (by omega)).trans ((hq8 _ (by omega)).trans ((hq6 _ (by omega)).trans ((hq5 _ (by omega)).trans hP3)))))))))))
  have kp23 : tz_Tu cs f21 (a + 2) 0 (fun _ => 0) := hP8.fr (fun q h1_ h2_ => ((hq21 q (by omega)).trans ((hq20 q (by omega)).trans ((hq18 q (by omega)).trans ((hq16 q (by omega)).trans ((hq15 q (by omega)).trans ((hq13 q (by omega)).trans ((hq11 q (by omega)).trans (hq10 q (by omega))))))))))
  have kp24 : tz_Row cs f21 (a + 4) 0 (fun _ => 0) := hP13.fr (fun q h1_ h2_ => ((hq21 q (by omega)).trans ((hq20 q (by omega)).trans ((hq18 q (by omega)).trans ((hq16 q (by omega)).trans (hq15 q (by omega)))))))
  have kp25 : tz_Row cs f21 (a + 6) 0 (fun _ => 0) := hP18.fr (fun q h1_ h2_ => ((hq21 q (by omega)).trans (hq20 q (by omega))))
  exact ⟨rfl, ⟨hs21, k22, kp23, kp24, kp25, Or.inl ⟨rfl, rfl⟩⟩, (fun q hh => by rw [hq21 q (by omega), hq20 q (by omega), hq18 q (by omega), hq16 q (by omega), hq15 q (by omega), hq13 q (by omega), hq11 q (by omega), hq10 q (by omega), hq8 q (by omega), hq6 q (by omega), hq5 q (by omega), hq3 q (by omega), hq1 q (by omega)])⟩

abbrev rm_T_init : Room := { frames := 2, cells := 13, slots := 514, locals := 32 }
set_option maxHeartbeats 4000000 in
set_option maxRecDepth 100000 in
theorem ct_T_init {l : Launch} {A : Nat → Prop} {D : va_G} {cs : Nat → ClassId} {sz : Nat} {f : tz_PH} {a : Nat} (hz0 : sz = a + 1) (h0 : f a = some (tz_obj 8 [.null, .null, .null, .null])) (hA : ∀ q, sz ≤ q → A q) : tz_CN l tyT_init prog_10_method_1_code 2 (none) rm_T_init 13 514 A D cs sz [.ref a] f (none) (fun f' => tz_Tape cs f' a (fun _ => (0, (fun _ => 0))) 0 (fun _ => none) (fun _ => 0) (tz_fl (fun _ => -1) (fun _ => 0) 6) ∧ ∀ q, (q < a ∨ a + 14 ≤ q) → f' q = f q) := by
  refine tz_C.ofB (lv0 := [(0, .ref a)]) (plainFor_of_name (by decide)) (Nat.le_of_ble_eq_true rfl) rfl ?_
  intro p_ e_ s_ m_ ar_ be_ me_ c_ Q_ C_ hr_ hk_ hnm_ hz_ hQ_
  subst hz0
  refine tz_aload_n C_ 0 rfl rfl td_T_init_0 ?_
  refine tz_objInit C_ tw_70 tw_63 tw_64 (by decide) td_T_init_1 ?_
  refine tz_aload_n C_ 0 rfl rfl td_T_init_4 ?_
  refine tz_iconst C_ (v := 4) (by decide) td_T_init_5 ?_
  refine tz_wnewR C_ (t := 1) rfl tw_71 tw_72 (hA _ (by omega)) (nA := 4) (by decide) (by decide) td_T_init_6 (sz' := a + 2) (cells' := 1) (slots' := 4) ⟨rfl, rfl, rfl⟩ (fun f1 hs1 hq1 => ?_)
  have k2 : f1 a = some (tz_obj 8 [.null, .null, .null, .null]) := ((hq1 _ (by omega)).trans h0)
  refine tz_wputF C_ hnm_ tci_T 0 (by decide) tw_104 ⟨rfl, rfl⟩ k2 (Nat.le_of_ble_eq_true rfl) ⟨rfl, rfl⟩ (fs' := [.ref (a + 1), .null, .null, .null]) rfl td_T_init_9 (fun f3 hs3 hq3 => ?_)
  refine tz_aload_n C_ 0 rfl rfl td_T_init_12 ?_
  refine tz_wnew C_ tci_S tw_73 tw_74 tw_44 (hA _ (by omega)) (fs := [.null, .int 0]) (fun j hj => by rcases (show j = 0 ∨ j = 1 by omega) with rfl | rfl <;> rfl) (by decide) td_T_init_13 (sz' := a + 3) (cells' := 2) (slots' := 6) ⟨rfl, rfl, rfl⟩ (fun f4 hs4 hq4 => ?_)
  refine tz_dup C_ rfl td_T_init_16 ?_
  refine tz_cIN C_ tmi_S_init rfl tw_76 tw_75 (As := []) (by exact (ct_S_init (a := a + 2) rfl hs4 (fun q hq => hA q (by omega)))) rfl (rest := [.ref (a + 2), .ref a]) rfl (by decide) (Nat.le_of_ble_eq_true rfl) td_T_init_17 (sz' := a + 4) (cells' := 3) (slots' := 14) ⟨rfl, rfl, rfl⟩ (fun f5 hF5 => ?_)
  obtain ⟨hP6, hq6⟩ := hF5
  have k7 : f5 a = some (tz_obj 8 [.ref (a + 1), .null, .null, .null]) := ((hq6 _ (by omega)).trans ((hq4 _ (by omega)).trans hs3))
  refine tz_wputF C_ hnm_ tci_T 1 (by decide) tw_105 ⟨rfl, rfl⟩ k7 (Nat.le_of_ble_eq_true rfl) ⟨rfl, rfl⟩ (fs' := [.ref (a + 1), .ref (a + 2), .null, .null]) rfl td_T_init_20 (fun f8 hs8 hq8 => ?_)
  refine tz_aload_n C_ 0 rfl rfl td_T_init_23 ?_
  refine tz_bipush C_ (v := 6) (by decide) td_T_init_24 ?_
  refine tz_wnewI C_ tw_100 (hA _ (by omega)) (nA := 6) (by decide) (by decide) td_T_init_26 (sz' := a + 5) (cells' := 4) (slots' := 20) ⟨rfl, rfl, rfl⟩ (fun f9 hs9 hq9 => ?_)
  have k10 : f9 a = some (tz_obj 8 [.ref (a + 1), .ref (a + 2), .null, .null]) := ((hq9 _ (by omega)).trans hs8)
  refine tz_wputF C_ hnm_ tci_T 2 (by decide) tw_109 ⟨rfl, rfl⟩ k10 (Nat.le_of_ble_eq_true rfl) ⟨rfl, rfl⟩ (fs' := [.ref (a + 1), .ref (a + 2), .ref (a + 4), .null]) rfl td_T_init_28 (fun f11 hs11 hq11 => ?_)
  refine tz_aload_n C_ 0 rfl rfl td_T_init_31 ?_
  refine tz_bipush C_ (v := 6) (by decide) td_T_init_32 ?_
  refine tz_wnewI C_ tw_100 (hA _ (by omega)) (nA := 6) (by decide) (by decide) td_T_init_34 (sz' := a + 6) (cells' := 5) (slots' := 26) ⟨rfl, rfl, rfl⟩ (fun f12 hs12 hq12 => ?_)
  have k13 : f12 a = some (tz_obj 8 [.ref (a + 1), .ref (a + 2), .ref (a + 4), .null]) := ((hq12 _ (by omega)).trans hs11)
  refine tz_wputF C_ hnm_ tci_T 3 (by decide) tw_112 ⟨rfl, rfl⟩ k13 (Nat.le_of_ble_eq_true rfl) ⟨rfl, rfl⟩ (fs' := [.ref (a + 1), .ref (a + 2), .ref (a + 4), .ref (a + 5)]) rfl td_T_init_36 (fun f14 hs14 hq14 => ?_)
  refine tz_iconst C_ (v := 0) (by decide) td_T_init_39 ?_
  refine tz_istore_n C_ (lv' := [(0, .ref a), (1, .int 0)]) [1, 0] rfl (by decide) rfl td_T_init_40 ?_
  have k15 : f14 (a + 1) = some (tz_refs cs 1 4 (fun _ => none)) := ((hq14 _ (by omega)).trans ((hq12 _ (by omega)).trans ((hq11 _ (by omega)).trans ((hq9 _ (by omega)).trans ((hq8 _ (by omega)).trans ((hq6 _ (by omega)).trans ((hq4 _ (by omega)).trans ((hq3 _ (by omega)).trans hs1))))))))
  have kp16 : tz_Ly cs f14 (a + 2) 0 (fun _ => none) := hP6.fr (fun q h1_ h2_ => ((hq14 q (by omega)).trans ((hq12 q (by omega)).trans ((hq11 q (by omega)).trans ((hq9 q (by omega)).trans (hq8 q (by omega)))))))
  have k17 : f14 (a + 4) = some (tz_ints cs 6 (fun _ => 0)) := ((hq14 _ (by omega)).trans ((hq12 _ (by omega)).trans ((hq11 _ (by omega)).trans hs9)))
  have k18 : f14 (a + 5) = some (tz_ints cs 6 (fun _ => 0)) := ((hq14 _ (by omega)).trans hs12)
  have loop41 : ∀ (kk41 : Nat) (i : Nat) (fL : tz_PH), (fL (a + 1) = some (tz_refs cs 1 4 (tz_upto (tz_rad a) i))) → (∀ p, p < i → tz_Row cs fL (a + 6 + 2 * p) 0 (fun _ => 0)) → (∀ q, (q < a ∨ a + 14 ≤ q) → fL q = f q) → (i ≤ 4) → (fL a = some (tz_obj 8 [.ref (a + 1), .ref (a + 2), .ref (a + 4), .ref (a + 5)])) → (tz_Ly cs fL (a + 2) 0 (fun _ => none)) → (fL (a + 4) = some (tz_ints cs 6 (fun _ => 0))) → (fL (a + 5) = some (tz_ints cs 6 (fun _ => 0))) → (4 - i) < kk41 → tz_V p_ l e_ rm_T_init s_ m_ ar_ be_ me_ c_ Q_ A D 2 fL (a + 6 + 2 * i) (5 + 2 * i) (26 + 122 * i) 41 [(0, .ref a), (1, .int (nI i))] [] := by
    intro kk41
    induction kk41 with
    | zero => intro i fL hU hrows hfr hi hT0 hT2 hT4 hT5 hm41; omega
    | succ kk41 ih41 =>
      intro i fL hU hrows hfr hi hT0 hT2 hT4 hT5 hm41
      refine tz_iload_n C_ 1 rfl rfl td_T_init_41 ?_
      refine tz_iconst C_ (v := 4) (by decide) td_T_init_42 ?_
      refine tz_icmp_ge C_ td_T_init_43 (fun h43 => ?_) (fun h43 => ?_)
      · skip
        replace h43 := (nI_leI (a := 4) (b := i) (by omega) (by omega)).mp h43
        have e9 : i = 4 := by omega
        subst e9
        refine tz_same hU (tz_ref_ext (g' := tz_rad a) (tz_upto_n (by omega))) (fun fS hsS hqS => ?_)
        refine tz_aload_n C_ 0 rfl rfl td_T_init_65 ?_
        have k19 : fS a = some (tz_obj 8 [.ref (a + 1), .ref (a + 2), .ref (a + 4), .ref (a + 5)]) := ((hqS _ (by omega)).trans hT0)
        refine tz_get C_ tci_T 3 (by decide) tw_112 k19 rfl td_T_init_66 ?_
        refine tz_iconst C_ (v := -1) (by decide) td_T_init_69 ?_
        have k20 : fS (a + 5) = some (tz_ints cs 6 (fun _ => 0)) := ((hqS _ (by omega)).trans hT5)
        refine tz_cS C_ tmi_K_fill tw_102 tw_101 (As := [.ref (a + 5), .int (-1)]) (by exact (ct_K_fill k20 (by decide))) rfl (rest := []) rfl (by decide) (Nat.le_of_ble_eq_true rfl) td_T_init_70 (st1 := []) rfl (fun f21 hF21 => ?_)
        obtain ⟨hP22, hq22⟩ := hF21
        refine tz_rvret C_ hr_ hk_ hQ_ rfl td_T_init_73 ?_
        have k23 : f21 a = some (tz_obj 8 [.ref (a + 1), .ref (a + 2), .ref (a + 4), .ref (a + 5)]) := ((hq22 _ (by omega)).trans k19)
        have k24 : f21 (a + 1) = some (tz_refs cs 1 4 (tz_rad a)) := ((hq22 _ (by omega)).trans hsS)
        have kp25 : tz_Ly cs f21 (a + 2) 0 (fun _ => none) := hT2.fr (fun q h1_ h2_ => ((hq22 q (by omega)).trans (hqS q (by omega))))
        have k26 : f21 (a + 4) = some (tz_ints cs 6 (fun _ => 0)) := ((hq22 _ (by omega)).trans ((hqS _ (by omega)).trans hT4))
        exact ⟨rfl, ⟨k23, k24, kp25, k26, hP22, fun p hp => (hrows p (by omega)).fr (fun q a1 a2 => ((hq22 q (by omega)).trans (hqS q (by omega))))⟩, (fun q hh => by rw [hq22 q (by omega), hqS q (by omega), hfr q (by omega)])⟩
      · skip
        replace h43 := mt (nI_leI (a := 4) (b := i) (by omega) (by omega)).mpr h43
        refine tz_aload_n C_ 0 rfl rfl td_T_init_46 ?_
        refine tz_get C_ tci_T 0 (by decide) tw_104 hT0 rfl td_T_init_47 ?_
        refine tz_iload_n C_ 1 rfl rfl td_T_init_50 ?_
        refine tz_wnew C_ tci_R tw_71 tw_88 tw_45 (hA _ (by omega)) (fs := [.null, .int 0]) (fun j hj => by rcases (show j = 0 ∨ j = 1 by omega) with rfl | rfl <;> rfl) ⟨by show _ ≤ (13 : Nat); omega, by show _ ≤ (514 : Nat); omega⟩ td_T_init_51 (sz' := a + 6 + 2 * i + 1) (cells' := 5 + 2 * i + 1) (slots' := 26 + 122 * i + 2) ⟨rfl, rfl, rfl⟩ (fun f27 hs27 hq27 => ?_)
        refine tz_dup C_ rfl td_T_init_54 ?_
        refine tz_cIN C_ tmi_R_init rfl tw_90 tw_89 (As := []) (by exact (ct_R_init (a := a + 6 + 2 * i) rfl hs27 (fun q hq => hA q (by omega)))) rfl (rest := [.ref (a + 6 + 2 * i), .int (nI i), .ref (a + 1)]) rfl ⟨rfl, rfl, by show 5 + 2 * i + 1 + 1 ≤ (13 : Nat); omega, by show 26 + 122 * i + 2 + 120 ≤ (514 : Nat); omega, by decide, by decide⟩ (Nat.le_of_ble_eq_true rfl) td_T_init_55 (sz' := a + 6 + 2 * i + 2) (cells' := 5 + 2 * i + 2) (slots' := 26 + 122 * i + 122) ⟨rfl, rfl, rfl⟩ (fun f28 hF28 => ?_)
        obtain ⟨hP29, hq29⟩ := hF28
        have k30 : f28 (a + 1) = some (tz_refs cs 1 4 (tz_upto (tz_rad a) i)) := ((hq29 _ (by omega)).trans ((hq27 _ (by omega)).trans hU))
        refine tz_waastN C_ (t := 1) rfl k30 hP29.1 rfl (by omega) (by decide) td_T_init_58 (fun f31 hs31 hq31 => ?_)
        refine tz_iinc C_ (k := 1) (v := nI (i + 1)) (lv' := [(0, .ref a), (1, .int (nI (i + 1)))]) 1 rfl (nI_1 i) [1, 0] (by decide) rfl td_T_init_59 ?_
        refine tz_goto C_ td_T_init_62 ?_
        have kp32 : tz_Row cs f31 (a + 6 + 2 * i) 0 (fun _ => 0) := hP29.fr (fun q h1_ h2_ => (hq31 q (by omega)))
        have k33 : f31 a = some (tz_obj 8 [.ref (a + 1), .ref (a + 2), .ref (a + 4), .ref (a + 5)]) := ((hq31 _ (by omega)).trans ((hq29 _ (by omega)).trans ((hq27 _ (by omega)).trans hT0)))
        have kp34 : tz_Ly cs f31 (a + 2) 0 (fun _ => none) := hT2.fr (fun q h1_ h2_ => ((hq31 q (by omega)).trans ((hq29 q (by omega)).trans (hq27 q (by omega)))))
        have k35 : f31 (a + 4) = some (tz_ints cs 6 (fun _ => 0)) := ((hq31 _ (by omega)).trans ((hq29 _ (by omega)).trans ((hq27 _ (by omega)).trans hT4)))
        have k36 : f31 (a + 5) = some (tz_ints cs 6 (fun _ => 0)) := ((hq31 _ (by omega)).trans ((hq29 _ (by omega)).trans ((hq27 _ (by omega)).trans hT5)))
        exact ih41 (i + 1) f31 (by rw [← tz_upto_s (o := tz_rad a) (i := i) (x := some (a + 6 + 2 * i)) rfl]; exact hs31) (fun p hp => if e : p = i then (by rw [e]; exact kp32) else (hrows p (by omega)).fr (fun q a1 a2 => ((hq31 q (by omega)).trans ((hq29 q (by omega)).trans (hq27 q (by omega)))))) (fun q hh => by rw [hq31 q (by omega), hq29 q (by omega), hq27 q (by omega), hfr q (by omega)]) (by omega) k33 kp34 k35 k36 (by omega)
  exact loop41 _ 0 f14 (by rw [tz_upto_0]; exact k15) (fun p hp => absurd hp (by omega)) (fun q hh => by rw [hq14 q (by omega), hq12 q (by omega), hq11 q (by omega), hq9 q (by omega), hq8 q (by omega), hq6 q (by omega), hq4 q (by omega), hq3 q (by omega), hq1 q (by omega)]) (Nat.zero_le _) hs14 kp16 k17 k18 (Nat.lt_succ_self _)

abbrev rm_H_init : Room := { frames := 3, cells := 141, slots := 3000, locals := 52 }
set_option maxHeartbeats 4000000 in
set_option maxRecDepth 100000 in
theorem ct_H_init {l : Launch} {A : Nat → Prop} {D : va_G} {cs : Nat → ClassId} {sz : Nat} {f : tz_PH} {a : Nat} (hz0 : sz = a + 1) (h0 : f a = some (tz_obj 1 [.null, .int 0, .int 0])) (hA : ∀ q, sz ≤ q → A q) : tz_CN l tyH_init prog_3_method_1_code 2 (none) rm_H_init 141 3000 A D cs sz [.ref a] f (none) (fun f' => tz_Hist cs f' a 0 0 (fun _ => ((-1 : Int32), 0, (fun _ => 0), 0, (fun _ => none), (fun _ => 0), (fun _ => 0))) ∧ ∀ q, (q < a ∨ a + 142 ≤ q) → f' q = f q) := by
  refine tz_C.ofB (lv0 := [(0, .ref a)]) (plainFor_of_name (by decide)) (Nat.le_of_ble_eq_true rfl) rfl ?_
  intro p_ e_ s_ m_ ar_ be_ me_ c_ Q_ C_ hr_ hk_ hnm_ hz_ hQ_
  subst hz0
  refine tz_aload_n C_ 0 rfl rfl td_H_init_0 ?_
  refine tz_objInit C_ tw_129 tw_63 tw_64 (by decide) td_H_init_1 ?_
  refine tz_aload_n C_ 0 rfl rfl td_H_init_4 ?_
  refine tz_bipush C_ (v := 20) (by decide) td_H_init_5 ?_
  refine tz_wnewR C_ (t := 2) rfl tw_130 tw_131 (hA _ (by omega)) (nA := 20) (by decide) (by decide) td_H_init_7 (sz' := a + 2) (cells' := 1) (slots' := 20) ⟨rfl, rfl, rfl⟩ (fun f1 hs1 hq1 => ?_)
  have k2 : f1 a = some (tz_obj 1 [.null, .int 0, .int 0]) := ((hq1 _ (by omega)).trans h0)
  refine tz_wputF C_ hnm_ tci_H 0 (by decide) tw_157 ⟨rfl, rfl⟩ k2 (Nat.le_of_ble_eq_true rfl) ⟨rfl, rfl⟩ (fs' := [.ref (a + 1), .int 0, .int 0]) rfl td_H_init_10 (fun f3 hs3 hq3 => ?_)
  refine tz_aload_n C_ 0 rfl rfl td_H_init_13 ?_
  refine tz_iconst C_ (v := 0) (by decide) td_H_init_14 ?_
  refine tz_wput C_ tci_H 1 (by decide) tw_158 rfl hs3 (Nat.le_of_ble_eq_true rfl) ⟨rfl, rfl⟩ (fs' := [.ref (a + 1), .int 0, .int 0]) rfl td_H_init_15 (fun f4 hs4 hq4 => ?_)
  refine tz_aload_n C_ 0 rfl rfl td_H_init_18 ?_
  refine tz_iconst C_ (v := 0) (by decide) td_H_init_19 ?_
  refine tz_wput C_ tci_H 2 (by decide) tw_159 rfl hs4 (Nat.le_of_ble_eq_true rfl) ⟨rfl, rfl⟩ (fs' := [.ref (a + 1), .int 0, .int 0]) rfl td_H_init_20 (fun f5 hs5 hq5 => ?_)
  refine tz_iconst C_ (v := 0) (by decide) td_H_init_23 ?_
  refine tz_istore_n C_ (lv' := [(0, .ref a), (1, .int 0)]) [1, 0] rfl (by decide) rfl td_H_init_24 ?_
  have k6 : f5 (a + 1) = some (tz_refs cs 2 20 (fun _ => none)) := ((hq5 _ (by omega)).trans ((hq4 _ (by omega)).trans ((hq3 _ (by omega)).trans hs1)))
  have loop25 : ∀ (kk25 : Nat) (i : Nat) (fL : tz_PH), (fL (a + 1) = some (tz_refs cs 2 20 (tz_upto (tz_sad a) i))) → (∀ p, p < i → tz_Step cs fL (a + 2 + 7 * p) (-1) 0 (fun _ => 0) 0 (fun _ => none) (fun _ => 0) (fun _ => 0)) → (∀ q, (q < a ∨ a + 142 ≤ q) → fL q = f q) → (i ≤ 20) → (fL a = some (tz_obj 1 [.ref (a + 1), .int 0, .int 0])) → (20 - i) < kk25 → tz_V p_ l e_ rm_H_init s_ m_ ar_ be_ me_ c_ Q_ A D 2 fL (a + 2 + 7 * i) (1 + 7 * i) (20 + 149 * i) 25 [(0, .ref a), (1, .int (nI i))] [] := by
    intro kk25
    induction kk25 with
    | zero => intro i fL hU hrows hfr hi hT0 hm25; omega
    | succ kk25 ih25 =>
      intro i fL hU hrows hfr hi hT0 hm25
      refine tz_iload_n C_ 1 rfl rfl td_H_init_25 ?_
      refine tz_bipush C_ (v := 20) (by decide) td_H_init_26 ?_
      refine tz_icmp_ge C_ td_H_init_28 (fun h28 => ?_) (fun h28 => ?_)
      · skip
        replace h28 := (nI_leI (a := 20) (b := i) (by omega) (by omega)).mp h28
        have e9 : i = 20 := by omega
        subst e9
        refine tz_same hU (tz_ref_ext (g' := tz_sad a) (tz_upto_n (by omega))) (fun fS hsS hqS => ?_)
        refine tz_rvret C_ hr_ hk_ hQ_ rfl td_H_init_50 ?_
        have k7 : fS a = some (tz_obj 1 [.ref (a + 1), .int 0, .int 0]) := ((hqS _ (by omega)).trans hT0)
        exact ⟨rfl, ⟨k7, hsS, fun p hp => (hrows p (by omega)).fr (fun q a1 a2 => (hqS q (by omega)))⟩, (fun q hh => by rw [hqS q (by omega), hfr q (by omega)])⟩
      · skip
        replace h28 := mt (nI_leI (a := 20) (b := i) (by omega) (by omega)).mpr h28
        refine tz_aload_n C_ 0 rfl rfl td_H_init_31 ?_
        refine tz_get C_ tci_H 0 (by decide) tw_157 hT0 rfl td_H_init_32 ?_
        refine tz_iload_n C_ 1 rfl rfl td_H_init_35 ?_
        refine tz_wnew C_ tci_E tw_130 tw_132 tw_48 (hA _ (by omega)) (fs := [.null, .null, .null, .null, .int 0]) (fun j hj => by rcases (show j = 0 ∨ j = 1 ∨ j = 2 ∨ j = 3 ∨ j = 4 by omega) with rfl | rfl | rfl | rfl | rfl <;> rfl) ⟨by show _ ≤ (141 : Nat); omega, by show _ ≤ (3000 : Nat); omega⟩ td_H_init_36 (sz' := a + 2 + 7 * i + 1) (cells' := 1 + 7 * i + 1) (slots' := 20 + 149 * i + 5) ⟨rfl, rfl, rfl⟩ (fun f8 hs8 hq8 => ?_)
        refine tz_dup C_ rfl td_H_init_39 ?_
        refine tz_cIN C_ tmi_E_init rfl tw_134 tw_133 (As := []) (by exact (ct_E_init (a := a + 2 + 7 * i) rfl hs8 (fun q hq => hA q (by omega)))) rfl (rest := [.ref (a + 2 + 7 * i), .int (nI i), .ref (a + 1)]) rfl ⟨rfl, rfl, by show 1 + 7 * i + 1 + 6 ≤ (141 : Nat); omega, by show 20 + 149 * i + 5 + 144 ≤ (3000 : Nat); omega, by decide, by decide⟩ (Nat.le_of_ble_eq_true rfl) td_H_init_40 (sz' := a + 2 + 7 * i + 7) (cells' := 1 + 7 * i + 7) (slots' := 20 + 149 * i + 149) ⟨rfl, rfl, rfl⟩ (fun f9 hF9 => ?_)
        obtain ⟨hP10, hq10⟩ := hF9
        have k11 : f9 (a + 1) = some (tz_refs cs 2 20 (tz_upto (tz_sad a) i)) := ((hq10 _ (by omega)).trans ((hq8 _ (by omega)).trans hU))
        refine tz_waastN C_ (t := 2) rfl k11 hP10.1 rfl (by omega) (by decide) td_H_init_43 (fun f12 hs12 hq12 => ?_)
        refine tz_iinc C_ (k := 1) (v := nI (i + 1)) (lv' := [(0, .ref a), (1, .int (nI (i + 1)))]) 1 rfl (nI_1 i) [1, 0] (by decide) rfl td_H_init_44 ?_
        refine tz_goto C_ td_H_init_47 ?_
        have kp13 : tz_Step cs f12 (a + 2 + 7 * i) (-1) 0 (fun _ => 0) 0 (fun _ => none) (fun _ => 0) (fun _ => 0) := hP10.fr (fun q h1_ h2_ => (hq12 q (by omega)))
        have k14 : f12 a = some (tz_obj 1 [.ref (a + 1), .int 0, .int 0]) := ((hq12 _ (by omega)).trans ((hq10 _ (by omega)).trans ((hq8 _ (by omega)).trans hT0)))
        exact ih25 (i + 1) f12 (by rw [← tz_upto_s (o := tz_sad a) (i := i) (x := some (a + 2 + 7 * i)) rfl]; exact hs12) (fun p hp => if e : p = i then (by rw [e]; exact kp13) else (hrows p (by omega)).fr (fun q a1 a2 => ((hq12 q (by omega)).trans ((hq10 q (by omega)).trans (hq8 q (by omega)))))) (fun q hh => by rw [hq12 q (by omega), hq10 q (by omega), hq8 q (by omega), hfr q (by omega)]) (by omega) k14 (by omega)
  exact loop25 _ 0 f5 (by rw [tz_upto_0]; exact k6) (fun p hp => absurd hp (by omega)) (fun q hh => by rw [hq5 q (by omega), hq4 q (by omega), hq3 q (by omega), hq1 q (by omega)]) (Nat.zero_le _) hs5 (Nat.lt_succ_self _)
