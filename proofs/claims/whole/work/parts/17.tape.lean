
def tz_rad (t : Nat) : Nat → Option Nat := fun p => some (t + 6 + 2 * p)
def tz_rof (t : Nat) (p : Int32) : Option Nat := if 0 ≤ p ∧ p < 4 then some (t + 6 + 2 * p.toNatClampNeg) else none
abbrev tz_RR : Type := Nat → Nat × (Nat → Int32)
def tz_Tape (cs : Nat → ClassId) (f : tz_PH) (t : Nat) (R : tz_RR) (nl : Nat) (o : Nat → Option Nat) (mp ml : Nat → Int32) : Prop :=
  f t = some (tz_obj 8 [.ref (t + 1), .ref (t + 2), .ref (t + 4), .ref (t + 5)]) ∧ f (t + 1) = some (tz_refs cs 1 4 (tz_rad t)) ∧ tz_Ly cs f (t + 2) nl o ∧ f (t + 4) = some (tz_ints cs 6 mp) ∧ f (t + 5) = some (tz_ints cs 6 ml) ∧ ∀ p, p < 4 → tz_Row cs f (t + 6 + 2 * p) (R p).1 (R p).2
theorem tz_Ly.fr {cs : Nat → ClassId} {f f' : tz_PH} {a n : Nat} {o : Nat → Option Nat} (h : tz_Ly cs f a n o) (hq : ∀ q, a ≤ q → q < a + 2 → f' q = f q) : tz_Ly cs f' a n o := ⟨(hq _ (by omega) (by omega)).trans h.1, (hq _ (by omega) (by omega)).trans h.2⟩
theorem tz_Tape.fr {cs : Nat → ClassId} {f f' : tz_PH} {t nl : Nat} {R : tz_RR} {o : Nat → Option Nat} {mp ml : Nat → Int32} (h : tz_Tape cs f t R nl o mp ml) (hq : ∀ q, t ≤ q → q < t + 14 → f' q = f q) : tz_Tape cs f' t R nl o mp ml := by
  obtain ⟨h1, h2, h3, h4, h5, h6⟩ := h
  exact ⟨(hq _ (by omega) (by omega)).trans h1, (hq _ (by omega) (by omega)).trans h2, h3.fr (fun q a b => hq q (by omega) (by omega)), (hq _ (by omega) (by omega)).trans h4, (hq _ (by omega) (by omega)).trans h5, fun p hp => (h6 p hp).fr (fun q a b => hq q (by omega) (by omega))⟩
theorem tz_rof_some {t q : Nat} {p : Int32} (h : tz_rof t p = some q) : ∃ k, k < 4 ∧ p = nI k ∧ q = t + 6 + 2 * k := by
  unfold tz_rof at h
  split at h
  · rename_i hp
    obtain ⟨j, hj, e⟩ := vp_in_of (x := p) (n := 4) (tz_inI (tz_le_nlt hp.1) (show p < nI 4 from hp.2) (by decide)) (by decide)
    refine ⟨j, hj, e, ?_⟩
    have h2 := Option.some.inj h
    rw [e, nI_clamp (by omega)] at h2
    exact h2.symm
  · cases h
theorem tz_rof_none {t : Nat} {p : Int32} (h : tz_rof t p = none) : ¬ (0 ≤ p ∧ p < 4) := by
  unfold tz_rof at h
  split at h
  · cases h
  · assumption
theorem tz_rof_N {t k : Nat} (h : k < 4) : tz_rof t (nI k) = some (t + 6 + 2 * k) := by
  unfold tz_rof
  rw [if_pos ⟨nI_pos' (by omega), show nI k < nI 4 from nI_lt h (by omega)⟩, nI_clamp (by omega)]

abbrev rm_T_rowAt : Room := { frames := 0, cells := 0, slots := 0, locals := 0 }
set_option maxHeartbeats 4000000 in
set_option maxRecDepth 100000 in
theorem ct_T_rowAt {l : Launch} {A : Nat → Prop} {D : va_G} {cs : Nat → ClassId} {sz : Nat} {f : tz_PH} {t nl : Nat} {R : tz_RR} {o : Nat → Option Nat} {mp ml : Nat → Int32} (hT : tz_Tape cs f t R nl o mp ml) {p : Int32} : tz_CN l tyT_rowAt prog_10_method_2_code 2 (some (.object "TapeBench$Row")) rm_T_rowAt 0 0 A D cs sz [.ref t, .int p] f (some (va_rf (tz_rof t p))) (fun f' => f' = f) := by
  refine tz_C.ofB (lv0 := [(0, .ref t), (1, .int p)]) (plainFor_of_name (by decide)) (Nat.le_of_ble_eq_true rfl) rfl ?_
  intro p_ e_ s_ m_ ar_ be_ me_ c_ Q_ C_ hr_ hk_ hnm_ hz_ hQ_
  refine tz_iload_n C_ 1 rfl rfl td_T_rowAt_0 ?_
  refine tz_if_lt C_ td_T_rowAt_1 (fun h1 => ?_) (fun h1 => ?_)
  · skip
    refine tz_null C_ td_T_rowAt_22 ?_
    refine tz_raret C_ (r := none) hr_ hk_ hQ_ rfl td_T_rowAt_23 ?_
    exact ⟨tz_rq (by grind [tz_rof, tz_rad]), rfl⟩
  · skip
    refine tz_iload_n C_ 1 rfl rfl td_T_rowAt_4 ?_
    refine tz_aload_n C_ 0 rfl rfl td_T_rowAt_5 ?_
    refine tz_get C_ tci_T 0 (by decide) tw_104 hT.1 rfl td_T_rowAt_6 ?_
    refine tz_alenR C_ (t := 1) rfl hT.2.1 (v := 4) (by decide) td_T_rowAt_9 ?_
    refine tz_icmp_ge C_ td_T_rowAt_10 (fun h10 => ?_) (fun h10 => ?_)
    · skip
      refine tz_null C_ td_T_rowAt_22 ?_
      refine tz_raret C_ (r := none) hr_ hk_ hQ_ rfl td_T_rowAt_23 ?_
      exact ⟨tz_rq (by grind [tz_rof, tz_rad]), rfl⟩
    · skip
      refine tz_aload_n C_ 0 rfl rfl td_T_rowAt_13 ?_
      refine tz_get C_ tci_T 0 (by decide) tw_104 hT.1 rfl td_T_rowAt_14 ?_
      refine tz_iload_n C_ 1 rfl rfl td_T_rowAt_17 ?_
      refine tz_aald C_ (t := 1) rfl hT.2.1 (tz_inI h1 (show p < nI 4 from tz_nle_lt h10) (by decide)) td_T_rowAt_18 ?_
      refine tz_goto C_ td_T_rowAt_19 ?_
      refine tz_raret C_ (r := ((tz_rad t) (Int32.toNatClampNeg p))) hr_ hk_ hQ_ rfl td_T_rowAt_23 ?_
      exact ⟨tz_rq (by grind [tz_rof, tz_rad]), rfl⟩

abbrev rm_T_marksSomewhere : Room := { frames := 0, cells := 0, slots := 0, locals := 0 }
set_option maxHeartbeats 4000000 in
set_option maxRecDepth 100000 in
theorem ct_T_marksSomewhere {l : Launch} {A : Nat → Prop} {D : va_G} {cs : Nat → ClassId} {sz : Nat} {f : tz_PH} {t nl : Nat} {R : tz_RR} {o : Nat → Option Nat} {mp ml : Nat → Int32} (hT : tz_Tape cs f t R nl o mp ml) : tz_CN l tyT_marksSomewhere prog_10_method_3_code 3 (some (.int)) rm_T_marksSomewhere 0 0 A D cs sz [.ref t] f (some (.int (nI (tz_ct (fun k => decide (¬ ml k = -1)) 6)))) (fun f' => f' = f) := by
  refine tz_C.ofB (lv0 := [(0, .ref t)]) (plainFor_of_name (by decide)) (Nat.le_of_ble_eq_true rfl) rfl ?_
  intro p_ e_ s_ m_ ar_ be_ me_ c_ Q_ C_ hr_ hk_ hnm_ hz_ hQ_
  refine tz_iconst C_ (v := 0) (by decide) td_T_marksSomewhere_0 ?_
  refine tz_istore_n C_ (lv' := [(0, .ref t), (1, .int 0)]) [1, 0] rfl (by decide) rfl td_T_marksSomewhere_1 ?_
  refine tz_iconst C_ (v := 0) (by decide) td_T_marksSomewhere_2 ?_
  refine tz_istore_n C_ (lv' := [(0, .ref t), (1, .int 0), (2, .int 0)]) [1, 2, 0] rfl (by decide) rfl td_T_marksSomewhere_3 ?_
  have loop4 : ∀ (kk4 : Nat) (x : Nat) (i : Nat), (i ≤ 6) → (x = tz_ct (fun k => decide (¬ ml k = -1)) i) → (6 - i) < kk4 → tz_V p_ l e_ rm_T_marksSomewhere s_ m_ ar_ be_ me_ c_ Q_ A D 3 f sz 0 0 4 [(0, .ref t), (1, .int (nI x)), (2, .int (nI i))] [] := by
    intro kk4
    induction kk4 with
    | zero => intro x i hi hc hm4; omega
    | succ kk4 ih4 =>
      intro x i hi hc hm4
      refine tz_iload_n C_ 2 rfl rfl td_T_marksSomewhere_4 ?_
      refine tz_bipush C_ (v := 6) (by decide) td_T_marksSomewhere_5 ?_
      refine tz_icmp_ge C_ td_T_marksSomewhere_7 (fun h7 => ?_) (fun h7 => ?_)
      · skip
        replace h7 := (nI_leI (a := 6) (b := i) (by omega) (by omega)).mp h7
        refine tz_iload_n C_ 1 rfl rfl td_T_marksSomewhere_29 ?_
        refine tz_riret C_ hr_ hk_ hQ_ rfl td_T_marksSomewhere_30 ?_
        have e9 : i = 6 := by omega
        subst e9
        exact ⟨tz_ri (by rw [hc]), rfl⟩
      · skip
        replace h7 := mt (nI_leI (a := 6) (b := i) (by omega) (by omega)).mpr h7
        refine tz_aload_n C_ 0 rfl rfl td_T_marksSomewhere_10 ?_
        refine tz_get C_ tci_T 3 (by decide) tw_112 hT.1 rfl td_T_marksSomewhere_11 ?_
        refine tz_iload_n C_ 2 rfl rfl td_T_marksSomewhere_14 ?_
        refine tz_ialdN C_ hT.2.2.2.2.1 (by omega) (by decide) td_T_marksSomewhere_15 ?_
        refine tz_iconst C_ (v := -1) (by decide) td_T_marksSomewhere_16 ?_
        refine tz_icmp_eq C_ td_T_marksSomewhere_17 (fun h17 => ?_) (fun h17 => ?_)
        · skip
          refine tz_iinc C_ (k := 1) (v := nI (i + 1)) (lv' := [(0, .ref t), (1, .int (nI x)), (2, .int (nI (i + 1)))]) 2 rfl (nI_1 i) [1, 2, 0] (by decide) rfl td_T_marksSomewhere_23 ?_
          refine tz_goto C_ td_T_marksSomewhere_26 ?_
          exact ih4 x (i + 1) (by omega) (by rw [tz_ct_s, hc]; simp [h17]) (by omega)
        · skip
          refine tz_iinc C_ (k := 1) (v := nI (x + 1)) (lv' := [(0, .ref t), (1, .int (nI (x + 1))), (2, .int (nI i))]) 1 rfl (nI_1 x) [1, 0, 2] (by decide) rfl td_T_marksSomewhere_20 ?_
          refine tz_iinc C_ (k := 1) (v := nI (i + 1)) (lv' := [(0, .ref t), (1, .int (nI (x + 1))), (2, .int (nI (i + 1)))]) 2 rfl (nI_1 i) [1, 2, 0] (by decide) rfl td_T_marksSomewhere_23 ?_
          refine tz_goto C_ td_T_marksSomewhere_26 ?_
          exact ih4 (x + 1) (i + 1) (by omega) (by rw [tz_ct_s, hc]; simp [h17]) (by omega)
  exact loop4 _ 0 0 (Nat.zero_le _) rfl (Nat.lt_succ_self _)


abbrev tz_S7 : Type := Int32 × Nat × (Nat → Int32) × Nat × (Nat → Option Nat) × (Nat → Int32) × (Nat → Int32)
def tz_Step (cs : Nat → ClassId) (f : tz_PH) (e : Nat) (p : Int32) (n : Nat) (g : Nat → Int32) (nl : Nat) (o : Nat → Option Nat) (mp ml : Nat → Int32) : Prop :=
  f e = some (tz_obj 7 [.ref (e + 1), .ref (e + 3), .ref (e + 5), .ref (e + 6), .int p]) ∧ tz_Row cs f (e + 1) n g ∧ tz_Ly cs f (e + 3) nl o ∧ f (e + 5) = some (tz_ints cs 6 mp) ∧ f (e + 6) = some (tz_ints cs 6 ml)
theorem tz_Step.fr {cs : Nat → ClassId} {f f' : tz_PH} {e n nl : Nat} {p : Int32} {g : Nat → Int32} {o : Nat → Option Nat} {mp ml : Nat → Int32} (h : tz_Step cs f e p n g nl o mp ml) (hq : ∀ q, e ≤ q → q < e + 7 → f' q = f q) : tz_Step cs f' e p n g nl o mp ml := by
  obtain ⟨h1, h2, h3, h4, h5⟩ := h
  exact ⟨(hq _ (by omega) (by omega)).trans h1, h2.fr (fun q a b => hq q (by omega) (by omega)), h3.fr (fun q a b => hq q (by omega) (by omega)), (hq _ (by omega) (by omega)).trans h4, (hq _ (by omega) (by omega)).trans h5⟩
/-- what a step holds of the tape: (its pass, if it has one), the layers, the marks -/
def tz_held (R : tz_RR) (nl : Nat) (o : Nat → Option Nat) (mp ml : Nat → Int32) (p : Int32) (n : Nat) (g : Nat → Int32) (nl' : Nat) (o' : Nat → Option Nat) (mp' ml' : Nat → Int32) : Prop :=
  (∀ k, k < 4 → p = nI k → n = (R k).1 ∧ ∀ j, j < 120 → g j = (R k).2 j) ∧ nl' = nl ∧ (∀ k, k < 8 → o' k = o k) ∧ (∀ k, k < 6 → mp' k = mp k) ∧ (∀ k, k < 6 → ml' k = ml k)
theorem tz_cpy_in {g g' : Nat → Int32} {k n : Nat} (h : k < n) : va_cpy g g' 0 0 n k = g k := by
  rw [pk_cpy_in (by omega) (by omega)]
  simp

abbrev rm_E_keep : Room := { frames := 2, cells := 0, slots := 0, locals := 39 }
set_option maxHeartbeats 4000000 in
set_option maxRecDepth 100000 in
theorem ct_E_keep {l : Launch} {A : Nat → Prop} {D : va_G} {cs : Nat → ClassId} {sz : Nat} {f : tz_PH} {e ne nle : Nat} {pe : Int32} {ge : Nat → Int32} {oe : Nat → Option Nat} {mpe mle : Nat → Int32} (hE : tz_Step cs f e pe ne ge nle oe mpe mle) {t nl : Nat} {R : tz_RR} {o : Nat → Option Nat} {mp ml : Nat → Int32} (hT : tz_Tape cs f t R nl o mp ml) {p : Int32} {L0 : Nat} (hL0 : e + 7 ≤ L0 ∧ t + 14 ≤ L0) (hok : tz_okL L0 f o) (hsep : e + 7 ≤ t ∨ t + 14 ≤ e) : tz_CN l tyE_keep prog_9_method_2_code 4 (none) rm_E_keep 0 0 A D cs sz [.ref e, .ref t, .int p] f (none) (fun f' => (∃ (n' : Nat) (g' : Nat → Int32) (nl' : Nat) (o' : Nat → Option Nat) (mp' ml' : Nat → Int32), tz_Step cs f' e p n' g' nl' o' mp' ml' ∧ tz_held R nl o mp ml p n' g' nl' o' mp' ml') ∧ ∀ q, (q < e ∨ e + 7 ≤ q) → f' q = f q) := by
  refine tz_C.ofB (lv0 := [(0, .ref e), (1, .ref t), (2, .int p)]) (plainFor_of_name (by decide)) (Nat.le_of_ble_eq_true rfl) rfl ?_
  intro p_ e_ s_ m_ ar_ be_ me_ c_ Q_ C_ hr_ hk_ hnm_ hz_ hQ_
  refine tz_aload_n C_ 0 rfl rfl td_E_keep_0 ?_
  refine tz_iload_n C_ 2 rfl rfl td_E_keep_1 ?_
  refine tz_wput C_ tci_E 4 (by decide) tw_145 rfl hE.1 (Nat.le_of_ble_eq_true rfl) ⟨rfl, rfl⟩ (fs' := [.ref (e + 1), .ref (e + 3), .ref (e + 5), .ref (e + 6), .int p]) rfl td_E_keep_2 (fun f1 hs1 hq1 => ?_)
  refine tz_aload_n C_ 1 rfl rfl td_E_keep_5 ?_
  refine tz_aload_n C_ 0 rfl rfl td_E_keep_6 ?_
  refine tz_get C_ tci_E 4 (by decide) tw_145 hs1 rfl td_E_keep_7 ?_
  have kp2 : tz_Tape cs f1 t R nl o mp ml := hT.fr (fun q h1_ h2_ => (hq1 q (by omega)))
  have k3 : f1 t = some (tz_obj 8 [.ref (t + 1), .ref (t + 2), .ref (t + 4), .ref (t + 5)]) := ((hq1 _ (by omega)).trans hT.1)
  refine tz_rV C_ tmi_T_rowAt tw_270 tw_271 tw_291 k3 rfl (As := [.int p]) (by exact (ct_T_rowAt kp2)) rfl (rest := []) rfl (by decide) (Nat.le_of_ble_eq_true rfl) td_E_keep_10 (st1 := [va_rf (tz_rof t p)]) rfl ?_
  refine tz_astore_nQ C_ (lv' := [(0, .ref e), (1, .ref t), (2, .int p), (3, va_rf (tz_rof t p))]) [1, 2, 3, 0] rfl (by decide) rfl td_E_keep_13 ?_
  refine tz_aload_nQ C_ 3 rfl rfl td_E_keep_14 ?_
  refine tz_ifnull C_ td_E_keep_15 (fun h15 => ?_) (fun q15 h15 => ?_)
  · skip
    rw [h15]
    refine tz_aload_n C_ 0 rfl rfl td_E_keep_26 ?_
    refine tz_get C_ tci_E 1 (by decide) tw_142 hs1 rfl td_E_keep_27 ?_
    refine tz_aload_n C_ 1 rfl rfl td_E_keep_30 ?_
    refine tz_get C_ tci_T 1 (by decide) tw_106 k3 rfl td_E_keep_31 ?_
    have k4 : f1 (e + 3) = some (tz_obj 3 [.ref (e + 3 + 1), .int (nI nle)]) := ((hq1 _ (by omega)).trans hE.2.2.1.1)
    have k5 : f1 (e + 3 + 1) = some (tz_refs cs 4 8 oe) := ((hq1 _ (by omega)).trans hE.2.2.1.2)
    have k6 : f1 (t + 2) = some (tz_obj 3 [.ref (t + 2 + 1), .int (nI nl)]) := ((hq1 _ (by omega)).trans hT.2.2.1.1)
    have k7 : f1 (t + 2 + 1) = some (tz_refs cs 4 8 o) := ((hq1 _ (by omega)).trans hT.2.2.1.2)
    refine tz_cV C_ tmi_S_become tw_300 tw_301 tw_299 k4 rfl (As := [.ref (t + 2)]) (by exact (ct_S_become (n := nle) (o := oe) (n2 := nl) (o2 := o) ⟨k4, k5⟩ ⟨k6, k7⟩ (by omega) (hok.fr (fun q h9 => (hq1 q (by omega)))) (by omega))) rfl (rest := []) rfl (by decide) (Nat.le_of_ble_eq_true rfl) td_E_keep_34 (st1 := []) rfl (fun f8 hF8 => ?_)
    obtain ⟨hP9, hq9⟩ := hF8
    refine tz_aload_n C_ 1 rfl rfl td_E_keep_37 ?_
    have k10 : f8 t = some (tz_obj 8 [.ref (t + 1), .ref (t + 2), .ref (t + 4), .ref (t + 5)]) := ((hq9 _ (by omega)).trans k3)
    refine tz_get C_ tci_T 2 (by decide) tw_110 k10 rfl td_E_keep_38 ?_
    refine tz_iconst C_ (v := 0) (by decide) td_E_keep_41 ?_
    refine tz_aload_n C_ 0 rfl rfl td_E_keep_42 ?_
    have k11 : f8 e = some (tz_obj 7 [.ref (e + 1), .ref (e + 3), .ref (e + 5), .ref (e + 6), .int p]) := ((hq9 _ (by omega)).trans hs1)
    refine tz_get C_ tci_E 2 (by decide) tw_143 k11 rfl td_E_keep_43 ?_
    refine tz_iconst C_ (v := 0) (by decide) td_E_keep_46 ?_
    refine tz_bipush C_ (v := 6) (by decide) td_E_keep_47 ?_
    have k12 : f8 (t + 4) = some (tz_ints cs 6 mp) := ((hq9 _ (by omega)).trans ((hq1 _ (by omega)).trans hT.2.2.2.1))
    have k13 : f8 (e + 5) = some (tz_ints cs 6 mpe) := ((hq9 _ (by omega)).trans ((hq1 _ (by omega)).trans hE.2.2.2.1))
    refine tz_wacopy C_ tw_303 tw_298 tw_297 tw_54 k12 k13 (by decide) (by decide) (by decide) (by decide) (by decide) (by decide) td_E_keep_49 (fun f14 hs14 hq14 => ?_)
    refine tz_aload_n C_ 1 rfl rfl td_E_keep_52 ?_
    have k15 : f14 t = some (tz_obj 8 [.ref (t + 1), .ref (t + 2), .ref (t + 4), .ref (t + 5)]) := ((hq14 _ (by omega)).trans k10)
    refine tz_get C_ tci_T 3 (by decide) tw_113 k15 rfl td_E_keep_53 ?_
    refine tz_iconst C_ (v := 0) (by decide) td_E_keep_56 ?_
    refine tz_aload_n C_ 0 rfl rfl td_E_keep_57 ?_
    have k16 : f14 e = some (tz_obj 7 [.ref (e + 1), .ref (e + 3), .ref (e + 5), .ref (e + 6), .int p]) := ((hq14 _ (by omega)).trans k11)
    refine tz_get C_ tci_E 3 (by decide) tw_144 k16 rfl td_E_keep_58 ?_
    refine tz_iconst C_ (v := 0) (by decide) td_E_keep_61 ?_
    refine tz_bipush C_ (v := 6) (by decide) td_E_keep_62 ?_
    have k17 : f14 (t + 5) = some (tz_ints cs 6 ml) := ((hq14 _ (by omega)).trans ((hq9 _ (by omega)).trans ((hq1 _ (by omega)).trans hT.2.2.2.2.1)))
    have k18 : f14 (e + 6) = some (tz_ints cs 6 mle) := ((hq14 _ (by omega)).trans ((hq9 _ (by omega)).trans ((hq1 _ (by omega)).trans hE.2.2.2.2)))
    refine tz_wacopy C_ tw_303 tw_298 tw_297 tw_54 k17 k18 (by decide) (by decide) (by decide) (by decide) (by decide) (by decide) td_E_keep_64 (fun f19 hs19 hq19 => ?_)
    refine tz_rvret C_ hr_ hk_ hQ_ rfl td_E_keep_67 ?_
    have k20 : f19 e = some (tz_obj 7 [.ref (e + 1), .ref (e + 3), .ref (e + 5), .ref (e + 6), .int p]) := ((hq19 _ (by omega)).trans k16)
    have k21 : f19 (e + 1) = some (tz_obj 5 [.ref (e + 1 + 1), .int (nI ne)]) := ((hq19 _ (by omega)).trans ((hq14 _ (by omega)).trans ((hq9 _ (by omega)).trans ((hq1 _ (by omega)).trans hE.2.1.1))))
    have k22 : f19 (e + 1 + 1) = some (tz_ints cs 120 ge) := ((hq19 _ (by omega)).trans ((hq14 _ (by omega)).trans ((hq9 _ (by omega)).trans ((hq1 _ (by omega)).trans hE.2.1.2))))
    have k23 : f19 (e + 3) = some (tz_obj 3 [.ref (e + 3 + 1), .int (nI nl)]) := ((hq19 _ (by omega)).trans ((hq14 _ (by omega)).trans hP9.1))
    have k24 : f19 (e + 3 + 1) = some (tz_refs cs 4 8 (tz_ofl o oe 8)) := ((hq19 _ (by omega)).trans ((hq14 _ (by omega)).trans hP9.2))
    have k25 : f19 (e + 5) = some (tz_ints cs 6 (va_cpy mp mpe (Int32.toNatClampNeg 0) (Int32.toNatClampNeg 0) (Int32.toNatClampNeg 6))) := ((hq19 _ (by omega)).trans hs14)
    refine ⟨rfl, ⟨_, _, _, _, _, _, ⟨k20, ⟨k21, k22⟩, ⟨k23, k24⟩, k25, hs19⟩, ?_, rfl, fun k hk9 => ?_, fun k hk9 => tz_cpy_in hk9, fun k hk9 => tz_cpy_in hk9⟩, (fun q hh => by rw [hq19 q (by omega), hq14 q (by omega), hq9 q (by omega), hq1 q (by omega)])⟩
    · intro k9 hk9 e9
      exact absurd (by rw [e9]; exact ⟨nI_pos' (by omega), show nI k9 < nI 4 from nI_lt hk9 (by omega)⟩) (tz_rof_none h15)
    · simp only [tz_ofl, if_pos hk9]
  · skip
    obtain ⟨k15, hk15, ek15, eqk15⟩ := tz_rof_some h15
    rw [h15]
    subst eqk15
    refine tz_aload_n C_ 0 rfl rfl td_E_keep_18 ?_
    refine tz_get C_ tci_E 0 (by decide) tw_141 hs1 rfl td_E_keep_19 ?_
    refine tz_aload_n C_ 3 rfl rfl td_E_keep_22 ?_
    have k26 : f1 (e + 1) = some (tz_obj 5 [.ref (e + 1 + 1), .int (nI ne)]) := ((hq1 _ (by omega)).trans hE.2.1.1)
    have k27 : f1 (e + 1 + 1) = some (tz_ints cs 120 ge) := ((hq1 _ (by omega)).trans hE.2.1.2)
    refine tz_cV C_ tmi_R_become tw_293 tw_294 tw_292 k26 rfl (As := [.ref (t + 6 + 2 * k15)]) (by exact (ct_R_become (n := ne) (g := ge) (n2 := (R k15).1) (g2 := (R k15).2) ⟨k26, k27⟩ ⟨(kp2.2.2.2.2.2 k15 hk15).1, (kp2.2.2.2.2.2 k15 hk15).2⟩ (by omega))) rfl (rest := []) rfl (by decide) (Nat.le_of_ble_eq_true rfl) td_E_keep_23 (st1 := []) rfl (fun f28 hF28 => ?_)
    obtain ⟨hP29, hq29⟩ := hF28
    refine tz_aload_n C_ 0 rfl rfl td_E_keep_26 ?_
    have k30 : f28 e = some (tz_obj 7 [.ref (e + 1), .ref (e + 3), .ref (e + 5), .ref (e + 6), .int p]) := ((hq29 _ (by omega)).trans hs1)
    refine tz_get C_ tci_E 1 (by decide) tw_142 k30 rfl td_E_keep_27 ?_
    refine tz_aload_n C_ 1 rfl rfl td_E_keep_30 ?_
    have k31 : f28 t = some (tz_obj 8 [.ref (t + 1), .ref (t + 2), .ref (t + 4), .ref (t + 5)]) := ((hq29 _ (by omega)).trans k3)
    refine tz_get C_ tci_T 1 (by decide) tw_106 k31 rfl td_E_keep_31 ?_
    have k32 : f28 (e + 3) = some (tz_obj 3 [.ref (e + 3 + 1), .int (nI nle)]) := ((hq29 _ (by omega)).trans ((hq1 _ (by omega)).trans hE.2.2.1.1))
    have k33 : f28 (e + 3 + 1) = some (tz_refs cs 4 8 oe) := ((hq29 _ (by omega)).trans ((hq1 _ (by omega)).trans hE.2.2.1.2))
    have k34 : f28 (t + 2) = some (tz_obj 3 [.ref (t + 2 + 1), .int (nI nl)]) := ((hq29 _ (by omega)).trans ((hq1 _ (by omega)).trans hT.2.2.1.1))
    have k35 : f28 (t + 2 + 1) = some (tz_refs cs 4 8 o) := ((hq29 _ (by omega)).trans ((hq1 _ (by omega)).trans hT.2.2.1.2))
    refine tz_cV C_ tmi_S_become tw_300 tw_301 tw_299 k32 rfl (As := [.ref (t + 2)]) (by exact (ct_S_become (n := nle) (o := oe) (n2 := nl) (o2 := o) ⟨k32, k33⟩ ⟨k34, k35⟩ (by omega) (hok.fr (fun q h9 => ((hq29 q (by omega)).trans (hq1 q (by omega))))) (by omega))) rfl (rest := []) rfl (by decide) (Nat.le_of_ble_eq_true rfl) td_E_keep_34 (st1 := []) rfl (fun f36 hF36 => ?_)
    obtain ⟨hP37, hq37⟩ := hF36
    refine tz_aload_n C_ 1 rfl rfl td_E_keep_37 ?_
    have k38 : f36 t = some (tz_obj 8 [.ref (t + 1), .ref (t + 2), .ref (t + 4), .ref (t + 5)]) := ((hq37 _ (by omega)).trans k31)
    refine tz_get C_ tci_T 2 (by decide) tw_110 k38 rfl td_E_keep_38 ?_
    refine tz_iconst C_ (v := 0) (by decide) td_E_keep_41 ?_
    refine tz_aload_n C_ 0 rfl rfl td_E_keep_42 ?_
    have k39 : f36 e = some (tz_obj 7 [.ref (e + 1), .ref (e + 3), .ref (e + 5), .ref (e + 6), .int p]) := ((hq37 _ (by omega)).trans k30)
    refine tz_get C_ tci_E 2 (by decide) tw_143 k39 rfl td_E_keep_43 ?_
    refine tz_iconst C_ (v := 0) (by decide) td_E_keep_46 ?_
    refine tz_bipush C_ (v := 6) (by decide) td_E_keep_47 ?_
    have k40 : f36 (t + 4) = some (tz_ints cs 6 mp) := ((hq37 _ (by omega)).trans ((hq29 _ (by omega)).trans ((hq1 _ (by omega)).trans hT.2.2.2.1)))
    have k41 : f36 (e + 5) = some (tz_ints cs 6 mpe) := ((hq37 _ (by omega)).trans ((hq29 _ (by omega)).trans ((hq1 _ (by omega)).trans hE.2.2.2.1)))
    refine tz_wacopy C_ tw_303 tw_298 tw_297 tw_54 k40 k41 (by decide) (by decide) (by decide) (by decide) (by decide) (by decide) td_E_keep_49 (fun f42 hs42 hq42 => ?_)
    refine tz_aload_n C_ 1 rfl rfl td_E_keep_52 ?_
    have k43 : f42 t = some (tz_obj 8 [.ref (t + 1), .ref (t + 2), .ref (t + 4), .ref (t + 5)]) := ((hq42 _ (by omega)).trans k38)
    refine tz_get C_ tci_T 3 (by decide) tw_113 k43 rfl td_E_keep_53 ?_
    refine tz_iconst C_ (v := 0) (by decide) td_E_keep_56 ?_
    refine tz_aload_n C_ 0 rfl rfl td_E_keep_57 ?_
    have k44 : f42 e = some (tz_obj 7 [.ref (e + 1), .ref (e + 3), .ref (e + 5), .ref (e + 6), .int p]) := ((hq42 _ (by omega)).trans k39)
    refine tz_get C_ tci_E 3 (by decide) tw_144 k44 rfl td_E_keep_58 ?_
    refine tz_iconst C_ (v := 0) (by decide) td_E_keep_61 ?_
    refine tz_bipush C_ (v := 6) (by decide) td_E_keep_62 ?_
    have k45 : f42 (t + 5) = some (tz_ints cs 6 ml) := ((hq42 _ (by omega)).trans ((hq37 _ (by omega)).trans ((hq29 _ (by omega)).trans ((hq1 _ (by omega)).trans hT.2.2.2.2.1))))
    have k46 : f42 (e + 6) = some (tz_ints cs 6 mle) := ((hq42 _ (by omega)).trans ((hq37 _ (by omega)).trans ((hq29 _ (by omega)).trans ((hq1 _ (by omega)).trans hE.2.2.2.2))))
    refine tz_wacopy C_ tw_303 tw_298 tw_297 tw_54 k45 k46 (by decide) (by decide) (by decide) (by decide) (by decide) (by decide) td_E_keep_64 (fun f47 hs47 hq47 => ?_)
    refine tz_rvret C_ hr_ hk_ hQ_ rfl td_E_keep_67 ?_
    have k48 : f47 e = some (tz_obj 7 [.ref (e + 1), .ref (e + 3), .ref (e + 5), .ref (e + 6), .int p]) := ((hq47 _ (by omega)).trans k44)
    have k49 : f47 (e + 1) = some (tz_obj 5 [.ref (e + 1 + 1), .int (nI (R k15).1)]) := ((hq47 _ (by omega)).trans ((hq42 _ (by omega)).trans ((hq37 _ (by omega)).trans hP29.1)))
    have k50 : f47 (e + 1 + 1) = some (tz_ints cs 120 (va_cpy ((R k15).2) ge 0 0 120)) := ((hq47 _ (by omega)).trans ((hq42 _ (by omega)).trans ((hq37 _ (by omega)).trans hP29.2)))
    have k51 : f47 (e + 3) = some (tz_obj 3 [.ref (e + 3 + 1), .int (nI nl)]) := ((hq47 _ (by omega)).trans ((hq42 _ (by omega)).trans hP37.1))
    have k52 : f47 (e + 3 + 1) = some (tz_refs cs 4 8 (tz_ofl o oe 8)) := ((hq47 _ (by omega)).trans ((hq42 _ (by omega)).trans hP37.2))
    have k53 : f47 (e + 5) = some (tz_ints cs 6 (va_cpy mp mpe (Int32.toNatClampNeg 0) (Int32.toNatClampNeg 0) (Int32.toNatClampNeg 6))) := ((hq47 _ (by omega)).trans hs42)
    refine ⟨rfl, ⟨_, _, _, _, _, _, ⟨k48, ⟨k49, k50⟩, ⟨k51, k52⟩, k53, hs47⟩, ?_, rfl, fun k hk9 => ?_, fun k hk9 => tz_cpy_in hk9, fun k hk9 => tz_cpy_in hk9⟩, (fun q hh => by rw [hq47 q (by omega), hq42 q (by omega), hq37 q (by omega), hq29 q (by omega), hq1 q (by omega)])⟩
    · intro k9 hk9 e9
      have e8 : k9 = k15 := (nI_eq (by omega) (by omega)).mp (e9.symm.trans ek15)
      subst e8
      exact ⟨rfl, fun j hj => tz_cpy_in hj⟩
    · simp only [tz_ofl, if_pos hk9]

abbrev rm_E_bringBack : Room := { frames := 2, cells := 0, slots := 0, locals := 39 }
set_option maxHeartbeats 4000000 in
set_option maxRecDepth 100000 in
theorem ct_E_bringBack {l : Launch} {A : Nat → Prop} {D : va_G} {cs : Nat → ClassId} {sz : Nat} {f : tz_PH} {e ne nle : Nat} {pe : Int32} {ge : Nat → Int32} {oe : Nat → Option Nat} {mpe mle : Nat → Int32} (hE : tz_Step cs f e pe ne ge nle oe mpe mle) {t nl : Nat} {R : tz_RR} {o : Nat → Option Nat} {mp ml : Nat → Int32} (hT : tz_Tape cs f t R nl o mp ml) {L0 : Nat} (hL0 : e + 7 ≤ L0 ∧ t + 14 ≤ L0) (hok : tz_okL L0 f oe) (hsep : e + 7 ≤ t ∨ t + 14 ≤ e) : tz_CN l tyE_bringBack prog_9_method_3_code 3 (none) rm_E_bringBack 0 0 A D cs sz [.ref e, .ref t] f (none) (fun f' => (∃ (R' : tz_RR) (o' : Nat → Option Nat) (mp' ml' : Nat → Int32), tz_Tape cs f' t R' nle o' mp' ml' ∧ (∀ k, k < 4 → (pe = nI k → (R' k).1 = ne ∧ ∀ j, j < 120 → (R' k).2 j = ge j) ∧ (¬ pe = nI k → R' k = R k)) ∧ (∀ k, k < 8 → o' k = oe k) ∧ (∀ k, k < 6 → mp' k = mpe k) ∧ (∀ k, k < 6 → ml' k = mle k)) ∧ ∀ q, (q < t ∨ t + 14 ≤ q) → f' q = f q) := by
  refine tz_C.ofB (lv0 := [(0, .ref e), (1, .ref t)]) (plainFor_of_name (by decide)) (Nat.le_of_ble_eq_true rfl) rfl ?_
  intro p_ e_ s_ m_ ar_ be_ me_ c_ Q_ C_ hr_ hk_ hnm_ hz_ hQ_
  refine tz_aload_n C_ 1 rfl rfl td_E_bringBack_0 ?_
  refine tz_aload_n C_ 0 rfl rfl td_E_bringBack_1 ?_
  refine tz_get C_ tci_E 4 (by decide) tw_145 hE.1 rfl td_E_bringBack_2 ?_
  refine tz_rV C_ tmi_T_rowAt tw_270 tw_271 tw_291 hT.1 rfl (As := [.int pe]) (by exact (ct_T_rowAt hT)) rfl (rest := []) rfl (by decide) (Nat.le_of_ble_eq_true rfl) td_E_bringBack_5 (st1 := [va_rf (tz_rof t pe)]) rfl ?_
  refine tz_astore_nQ C_ (lv' := [(0, .ref e), (1, .ref t), (2, va_rf (tz_rof t pe))]) [1, 2, 0] rfl (by decide) rfl td_E_bringBack_8 ?_
  refine tz_aload_nQ C_ 2 rfl rfl td_E_bringBack_9 ?_
  refine tz_ifnull C_ td_E_bringBack_10 (fun h10 => ?_) (fun q10 h10 => ?_)
  · skip
    rw [h10]
    refine tz_aload_n C_ 1 rfl rfl td_E_bringBack_21 ?_
    refine tz_get C_ tci_T 1 (by decide) tw_106 hT.1 rfl td_E_bringBack_22 ?_
    refine tz_aload_n C_ 0 rfl rfl td_E_bringBack_25 ?_
    refine tz_get C_ tci_E 1 (by decide) tw_142 hE.1 rfl td_E_bringBack_26 ?_
    refine tz_cV C_ tmi_S_become tw_300 tw_301 tw_299 hT.2.2.1.1 rfl (As := [.ref (e + 3)]) (by exact (ct_S_become (n := nl) (o := o) (n2 := nle) (o2 := oe) ⟨hT.2.2.1.1, hT.2.2.1.2⟩ ⟨hE.2.2.1.1, hE.2.2.1.2⟩ (by omega) (hok.fr (fun q h9 => rfl)) (by omega))) rfl (rest := []) rfl (by decide) (Nat.le_of_ble_eq_true rfl) td_E_bringBack_29 (st1 := []) rfl (fun f1 hF1 => ?_)
    obtain ⟨hP2, hq2⟩ := hF1
    refine tz_aload_n C_ 0 rfl rfl td_E_bringBack_32 ?_
    have k3 : f1 e = some (tz_obj 7 [.ref (e + 1), .ref (e + 3), .ref (e + 5), .ref (e + 6), .int pe]) := ((hq2 _ (by omega)).trans hE.1)
    refine tz_get C_ tci_E 2 (by decide) tw_143 k3 rfl td_E_bringBack_33 ?_
    refine tz_iconst C_ (v := 0) (by decide) td_E_bringBack_36 ?_
    refine tz_aload_n C_ 1 rfl rfl td_E_bringBack_37 ?_
    have k4 : f1 t = some (tz_obj 8 [.ref (t + 1), .ref (t + 2), .ref (t + 4), .ref (t + 5)]) := ((hq2 _ (by omega)).trans hT.1)
    refine tz_get C_ tci_T 2 (by decide) tw_110 k4 rfl td_E_bringBack_38 ?_
    refine tz_iconst C_ (v := 0) (by decide) td_E_bringBack_41 ?_
    refine tz_bipush C_ (v := 6) (by decide) td_E_bringBack_42 ?_
    have k5 : f1 (e + 5) = some (tz_ints cs 6 mpe) := ((hq2 _ (by omega)).trans hE.2.2.2.1)
    have k6 : f1 (t + 4) = some (tz_ints cs 6 mp) := ((hq2 _ (by omega)).trans hT.2.2.2.1)
    refine tz_wacopy C_ tw_303 tw_298 tw_297 tw_54 k5 k6 (by decide) (by decide) (by decide) (by decide) (by decide) (by decide) td_E_bringBack_44 (fun f7 hs7 hq7 => ?_)
    refine tz_aload_n C_ 0 rfl rfl td_E_bringBack_47 ?_
    have k8 : f7 e = some (tz_obj 7 [.ref (e + 1), .ref (e + 3), .ref (e + 5), .ref (e + 6), .int pe]) := ((hq7 _ (by omega)).trans k3)
    refine tz_get C_ tci_E 3 (by decide) tw_144 k8 rfl td_E_bringBack_48 ?_
    refine tz_iconst C_ (v := 0) (by decide) td_E_bringBack_51 ?_
    refine tz_aload_n C_ 1 rfl rfl td_E_bringBack_52 ?_
    have k9 : f7 t = some (tz_obj 8 [.ref (t + 1), .ref (t + 2), .ref (t + 4), .ref (t + 5)]) := ((hq7 _ (by omega)).trans k4)
    refine tz_get C_ tci_T 3 (by decide) tw_113 k9 rfl td_E_bringBack_53 ?_
    refine tz_iconst C_ (v := 0) (by decide) td_E_bringBack_56 ?_
    refine tz_bipush C_ (v := 6) (by decide) td_E_bringBack_57 ?_
    have k10 : f7 (e + 6) = some (tz_ints cs 6 mle) := ((hq7 _ (by omega)).trans ((hq2 _ (by omega)).trans hE.2.2.2.2))
    have k11 : f7 (t + 5) = some (tz_ints cs 6 ml) := ((hq7 _ (by omega)).trans ((hq2 _ (by omega)).trans hT.2.2.2.2.1))
    refine tz_wacopy C_ tw_303 tw_298 tw_297 tw_54 k10 k11 (by decide) (by decide) (by decide) (by decide) (by decide) (by decide) td_E_bringBack_59 (fun f12 hs12 hq12 => ?_)
    refine tz_rvret C_ hr_ hk_ hQ_ rfl td_E_bringBack_62 ?_
    have k13 : f12 t = some (tz_obj 8 [.ref (t + 1), .ref (t + 2), .ref (t + 4), .ref (t + 5)]) := ((hq12 _ (by omega)).trans k9)
    have k14 : f12 (t + 1) = some (tz_refs cs 1 4 (tz_rad t)) := ((hq12 _ (by omega)).trans ((hq7 _ (by omega)).trans ((hq2 _ (by omega)).trans hT.2.1)))
    have k15 : f12 (t + 2) = some (tz_obj 3 [.ref (t + 2 + 1), .int (nI nle)]) := ((hq12 _ (by omega)).trans ((hq7 _ (by omega)).trans hP2.1))
    have k16 : f12 (t + 2 + 1) = some (tz_refs cs 4 8 (tz_ofl oe o 8)) := ((hq12 _ (by omega)).trans ((hq7 _ (by omega)).trans hP2.2))
    have k17 : f12 (t + 4) = some (tz_ints cs 6 (va_cpy mpe mp (Int32.toNatClampNeg 0) (Int32.toNatClampNeg 0) (Int32.toNatClampNeg 6))) := ((hq12 _ (by omega)).trans hs7)
    refine ⟨rfl, ⟨R, _, _, _, ⟨k13, k14, ⟨k15, k16⟩, k17, hs12, ?_⟩, ?_, fun k hk9 => ?_, fun k hk9 => tz_cpy_in hk9, fun k hk9 => tz_cpy_in hk9⟩, (fun q hh => by rw [hq12 q (by omega), hq7 q (by omega), hq2 q (by omega)])⟩
    · intro p9 hp9
      exact (hT.2.2.2.2.2 p9 hp9).fr (fun q a9 b9 => ((hq12 q (by omega)).trans ((hq7 q (by omega)).trans (hq2 q (by omega)))))
    · intro p9 hp9
      refine ⟨fun e9 => ?_, fun _ => rfl⟩
      exact absurd (by rw [e9]; exact ⟨nI_pos' (by omega), show nI p9 < nI 4 from nI_lt hp9 (by omega)⟩) (tz_rof_none h10)
    · simp only [tz_ofl, if_pos hk9]
  · skip
    obtain ⟨k10, hk10, ek10, eqk10⟩ := tz_rof_some h10
    rw [h10]
    subst eqk10
    refine tz_aload_n C_ 2 rfl rfl td_E_bringBack_13 ?_
    refine tz_aload_n C_ 0 rfl rfl td_E_bringBack_14 ?_
    refine tz_get C_ tci_E 0 (by decide) tw_141 hE.1 rfl td_E_bringBack_15 ?_
    refine tz_cV C_ tmi_R_become tw_293 tw_294 tw_292 (hT.2.2.2.2.2 k10 hk10).1 rfl (As := [.ref (e + 1)]) (by exact (ct_R_become (n := (R k10).1) (g := (R k10).2) (n2 := ne) (g2 := ge) ⟨(hT.2.2.2.2.2 k10 hk10).1, (hT.2.2.2.2.2 k10 hk10).2⟩ ⟨hE.2.1.1, hE.2.1.2⟩ (by omega))) rfl (rest := []) rfl (by decide) (Nat.le_of_ble_eq_true rfl) td_E_bringBack_18 (st1 := []) rfl (fun f18 hF18 => ?_)
    obtain ⟨hP19, hq19⟩ := hF18
    refine tz_aload_n C_ 1 rfl rfl td_E_bringBack_21 ?_
    have k20 : f18 t = some (tz_obj 8 [.ref (t + 1), .ref (t + 2), .ref (t + 4), .ref (t + 5)]) := ((hq19 _ (by omega)).trans hT.1)
    refine tz_get C_ tci_T 1 (by decide) tw_106 k20 rfl td_E_bringBack_22 ?_
    refine tz_aload_n C_ 0 rfl rfl td_E_bringBack_25 ?_
    have k21 : f18 e = some (tz_obj 7 [.ref (e + 1), .ref (e + 3), .ref (e + 5), .ref (e + 6), .int pe]) := ((hq19 _ (by omega)).trans hE.1)
    refine tz_get C_ tci_E 1 (by decide) tw_142 k21 rfl td_E_bringBack_26 ?_
    have k22 : f18 (t + 2) = some (tz_obj 3 [.ref (t + 2 + 1), .int (nI nl)]) := ((hq19 _ (by omega)).trans hT.2.2.1.1)
    have k23 : f18 (t + 2 + 1) = some (tz_refs cs 4 8 o) := ((hq19 _ (by omega)).trans hT.2.2.1.2)
    have k24 : f18 (e + 3) = some (tz_obj 3 [.ref (e + 3 + 1), .int (nI nle)]) := ((hq19 _ (by omega)).trans hE.2.2.1.1)
    have k25 : f18 (e + 3 + 1) = some (tz_refs cs 4 8 oe) := ((hq19 _ (by omega)).trans hE.2.2.1.2)
    refine tz_cV C_ tmi_S_become tw_300 tw_301 tw_299 k22 rfl (As := [.ref (e + 3)]) (by exact (ct_S_become (n := nl) (o := o) (n2 := nle) (o2 := oe) ⟨k22, k23⟩ ⟨k24, k25⟩ (by omega) (hok.fr (fun q h9 => (hq19 q (by omega)))) (by omega))) rfl (rest := []) rfl (by decide) (Nat.le_of_ble_eq_true rfl) td_E_bringBack_29 (st1 := []) rfl (fun f26 hF26 => ?_)
    obtain ⟨hP27, hq27⟩ := hF26
    refine tz_aload_n C_ 0 rfl rfl td_E_bringBack_32 ?_
    have k28 : f26 e = some (tz_obj 7 [.ref (e + 1), .ref (e + 3), .ref (e + 5), .ref (e + 6), .int pe]) := ((hq27 _ (by omega)).trans k21)
    refine tz_get C_ tci_E 2 (by decide) tw_143 k28 rfl td_E_bringBack_33 ?_
    refine tz_iconst C_ (v := 0) (by decide) td_E_bringBack_36 ?_
    refine tz_aload_n C_ 1 rfl rfl td_E_bringBack_37 ?_
    have k29 : f26 t = some (tz_obj 8 [.ref (t + 1), .ref (t + 2), .ref (t + 4), .ref (t + 5)]) := ((hq27 _ (by omega)).trans k20)
    refine tz_get C_ tci_T 2 (by decide) tw_110 k29 rfl td_E_bringBack_38 ?_
    refine tz_iconst C_ (v := 0) (by decide) td_E_bringBack_41 ?_
    refine tz_bipush C_ (v := 6) (by decide) td_E_bringBack_42 ?_
    have k30 : f26 (e + 5) = some (tz_ints cs 6 mpe) := ((hq27 _ (by omega)).trans ((hq19 _ (by omega)).trans hE.2.2.2.1))
    have k31 : f26 (t + 4) = some (tz_ints cs 6 mp) := ((hq27 _ (by omega)).trans ((hq19 _ (by omega)).trans hT.2.2.2.1))
    refine tz_wacopy C_ tw_303 tw_298 tw_297 tw_54 k30 k31 (by decide) (by decide) (by decide) (by decide) (by decide) (by decide) td_E_bringBack_44 (fun f32 hs32 hq32 => ?_)
    refine tz_aload_n C_ 0 rfl rfl td_E_bringBack_47 ?_
    have k33 : f32 e = some (tz_obj 7 [.ref (e + 1), .ref (e + 3), .ref (e + 5), .ref (e + 6), .int pe]) := ((hq32 _ (by omega)).trans k28)
    refine tz_get C_ tci_E 3 (by decide) tw_144 k33 rfl td_E_bringBack_48 ?_
    refine tz_iconst C_ (v := 0) (by decide) td_E_bringBack_51 ?_
    refine tz_aload_n C_ 1 rfl rfl td_E_bringBack_52 ?_
    have k34 : f32 t = some (tz_obj 8 [.ref (t + 1), .ref (t + 2), .ref (t + 4), .ref (t + 5)]) := ((hq32 _ (by omega)).trans k29)
    refine tz_get C_ tci_T 3 (by decide) tw_113 k34 rfl td_E_bringBack_53 ?_
    refine tz_iconst C_ (v := 0) (by decide) td_E_bringBack_56 ?_
    refine tz_bipush C_ (v := 6) (by decide) td_E_bringBack_57 ?_
    have k35 : f32 (e + 6) = some (tz_ints cs 6 mle) := ((hq32 _ (by omega)).trans ((hq27 _ (by omega)).trans ((hq19 _ (by omega)).trans hE.2.2.2.2)))
    have k36 : f32 (t + 5) = some (tz_ints cs 6 ml) := ((hq32 _ (by omega)).trans ((hq27 _ (by omega)).trans ((hq19 _ (by omega)).trans hT.2.2.2.2.1)))
    refine tz_wacopy C_ tw_303 tw_298 tw_297 tw_54 k35 k36 (by decide) (by decide) (by decide) (by decide) (by decide) (by decide) td_E_bringBack_59 (fun f37 hs37 hq37 => ?_)
    refine tz_rvret C_ hr_ hk_ hQ_ rfl td_E_bringBack_62 ?_
    have k38 : f37 t = some (tz_obj 8 [.ref (t + 1), .ref (t + 2), .ref (t + 4), .ref (t + 5)]) := ((hq37 _ (by omega)).trans k34)
    have k39 : f37 (t + 1) = some (tz_refs cs 1 4 (tz_rad t)) := ((hq37 _ (by omega)).trans ((hq32 _ (by omega)).trans ((hq27 _ (by omega)).trans ((hq19 _ (by omega)).trans hT.2.1))))
    have k40 : f37 (t + 2) = some (tz_obj 3 [.ref (t + 2 + 1), .int (nI nle)]) := ((hq37 _ (by omega)).trans ((hq32 _ (by omega)).trans hP27.1))
    have k41 : f37 (t + 2 + 1) = some (tz_refs cs 4 8 (tz_ofl oe o 8)) := ((hq37 _ (by omega)).trans ((hq32 _ (by omega)).trans hP27.2))
    have k42 : f37 (t + 4) = some (tz_ints cs 6 (va_cpy mpe mp (Int32.toNatClampNeg 0) (Int32.toNatClampNeg 0) (Int32.toNatClampNeg 6))) := ((hq37 _ (by omega)).trans hs32)
    have k43 : f37 (t + 6 + 2 * k10) = some (tz_obj 5 [.ref (t + 6 + 2 * k10 + 1), .int (nI ne)]) := ((hq37 _ (by omega)).trans ((hq32 _ (by omega)).trans ((hq27 _ (by omega)).trans hP19.1)))
    have k44 : f37 (t + 6 + 2 * k10 + 1) = some (tz_ints cs 120 (va_cpy ge ((R k10).2) 0 0 120)) := ((hq37 _ (by omega)).trans ((hq32 _ (by omega)).trans ((hq27 _ (by omega)).trans hP19.2)))
    refine ⟨rfl, ⟨va_up R k10 (ne, va_cpy ge (R k10).2 0 0 120), _, _, _, ⟨k38, k39, ⟨k40, k41⟩, k42, hs37, ?_⟩, ?_, fun k hk9 => ?_, fun k hk9 => tz_cpy_in hk9, fun k hk9 => tz_cpy_in hk9⟩, (fun q hh => by rw [hq37 q (by omega), hq32 q (by omega), hq27 q (by omega), hq19 q (by omega)])⟩
    · intro p9 hp9
      by_cases e9 : p9 = k10
      · subst e9
        simp only [va_up, if_true]
        exact ⟨k43, k44⟩
      · simp only [va_up, if_neg e9]
        exact (hT.2.2.2.2.2 p9 hp9).fr (fun q a9 b9 => ((hq37 q (by omega)).trans ((hq32 q (by omega)).trans ((hq27 q (by omega)).trans (hq19 q (by omega))))))
    · intro p9 hp9
      constructor
      · intro e9
        have e8 : p9 = k10 := (nI_eq (by omega) (by omega)).mp (e9.symm.trans ek10)
        subst e8
        simp only [va_up, if_true]
        exact ⟨trivial, fun j hj => tz_cpy_in hj⟩
      · intro e9
        have e8 : ¬ p9 = k10 := fun z => e9 (by rw [z]; exact ek10)
        simp only [va_up, if_neg e8]
    · simp only [tz_ofl, if_pos hk9]
