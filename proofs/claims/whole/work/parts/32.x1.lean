abbrev rm_X_answer : Room := { frames := 0, cells := 0, slots := 0, locals := 0 }
set_option maxHeartbeats 4000000 in
set_option maxRecDepth 100000 in
theorem ct_X_answer {l : Launch} {A : Nat → Prop} {D : va_G} {cs : Nat → ClassId} {sz : Nat} {f : tz_PH} {B b1 b2 b3 b4 b5 b6 b7 : Nat} {c v : Int32} (hX : f B = some (tz_obj 10 [.ref b1, .ref b2, .ref b3, .ref b4, .ref b5, .ref b6, .ref b7, .int c])) : tz_CN l tyX_answer prog_1_method_31_code 2 (some (.int)) rm_X_answer 0 0 A D cs sz [.ref B, .int v] f (some (.int v)) (fun f' => f' B = some (tz_obj 10 [.ref b1, .ref b2, .ref b3, .ref b4, .ref b5, .ref b6, .ref b7, .int (if v ≤ -100000 then c + 1 else c)]) ∧ ∀ q, q ≠ B → f' q = f q) := by
  refine tz_C.ofB (lv0 := [(0, .ref B), (1, .int v)]) (plainFor_of_name (by decide)) (Nat.le_of_ble_eq_true rfl) rfl ?_
  intro p_ e_ s_ m_ ar_ be_ me_ c_ Q_ C_ hr_ hk_ hnm_ hz_ hQ_
  refine tz_iload_n C_ 1 rfl rfl td_X_answer_0 ?_
  refine tz_ldcw C_ tw_278 td_X_answer_1 ?_
  refine tz_icmp_gt C_ td_X_answer_4 (fun h4 => ?_) (fun h4 => ?_)
  · skip
    refine tz_iload_n C_ 1 rfl rfl td_X_answer_17 ?_
    refine tz_riret C_ hr_ hk_ hQ_ rfl td_X_answer_18 ?_
    refine ⟨rfl, ?_, fun _ _ => rfl⟩
    rw [if_neg (fun z => absurd h4 (Int32.not_lt.mpr z))]; exact hX
  · skip
    refine tz_aload_n C_ 0 rfl rfl td_X_answer_7 ?_
    refine tz_dup C_ rfl td_X_answer_8 ?_
    refine tz_get C_ tci_X 7 (by decide) tw_247 hX rfl td_X_answer_9 ?_
    refine tz_iconst C_ (v := 1) (by decide) td_X_answer_12 ?_
    refine tz_iadd C_ td_X_answer_13 ?_
    refine tz_wput C_ tci_X 7 (by decide) tw_247 rfl hX (Nat.le_of_ble_eq_true rfl) ⟨rfl, rfl⟩ (fs' := [.ref b1, .ref b2, .ref b3, .ref b4, .ref b5, .ref b6, .ref b7, .int (c + 1)]) rfl td_X_answer_14 (fun f1 hs1 hq1 => ?_)
    refine tz_iload_n C_ 1 rfl rfl td_X_answer_17 ?_
    refine tz_riret C_ hr_ hk_ hQ_ rfl td_X_answer_18 ?_
    refine ⟨rfl, ?_, (fun q hh => by rw [hq1 q (by omega)])⟩
    rw [if_pos (Int32.not_lt.mp h4)]; exact hs1


def tz_qof (b : Nat) (s : Int32) : Option Nat := if 0 ≤ s ∧ s < 4 then some (b + 1 + 2 * s.toNatClampNeg) else none
theorem tz_qof_some {b q : Nat} {s : Int32} (h : tz_qof b s = some q) : ∃ k, k < 4 ∧ s = nI k ∧ q = b + 1 + 2 * k := by
  unfold tz_qof at h
  split at h
  · rename_i hp
    obtain ⟨j, hj, e⟩ := vp_in_of (x := s) (n := 4) (tz_inI (tz_le_nlt hp.1) (show s < nI 4 from hp.2) (by decide)) (by decide)
    refine ⟨j, hj, e, ?_⟩
    have h2 := Option.some.inj h
    rw [e, nI_clamp (by omega)] at h2
    exact h2.symm
  · cases h
theorem tz_qpk_none {b : Nat} {s : Int32} (h : tz_qof b s = none) : tz_pk s = none := by
  unfold tz_qof at h
  unfold tz_pk
  split at h
  · cases h
  · rename_i hp
    rw [if_neg hp]

abbrev rm_X_sheetAt : Room := { frames := 0, cells := 0, slots := 0, locals := 0 }
set_option maxHeartbeats 4000000 in
set_option maxRecDepth 100000 in
theorem ct_X_sheetAt {l : Launch} {A : Nat → Prop} {D : va_G} {cs : Nat → ClassId} {sz : Nat} {f : tz_PH} {B b1 b2 b3 b4 b5 b6 b7 : Nat} {c s : Int32} (hX : f B = some (tz_obj 10 [.ref b1, .ref b2, .ref b3, .ref b4, .ref b5, .ref b6, .ref b7, .int c])) (hS : f b3 = some (tz_refs cs 3 4 (tz_sha b3))) : tz_CN l tyX_sheetAt prog_1_method_32_code 2 (some (.object "TapeBench$Sheet")) rm_X_sheetAt 0 0 A D cs sz [.ref B, .int s] f (some (va_rf (tz_qof b3 s))) (fun f' => f' = f) := by
  refine tz_C.ofB (lv0 := [(0, .ref B), (1, .int s)]) (plainFor_of_name (by decide)) (Nat.le_of_ble_eq_true rfl) rfl ?_
  intro p_ e_ s_ m_ ar_ be_ me_ c_ Q_ C_ hr_ hk_ hnm_ hz_ hQ_
  refine tz_iload_n C_ 1 rfl rfl td_X_sheetAt_0 ?_
  refine tz_if_lt C_ td_X_sheetAt_1 (fun h1 => ?_) (fun h1 => ?_)
  · skip
    refine tz_null C_ td_X_sheetAt_22 ?_
    refine tz_raret C_ (r := none) hr_ hk_ hQ_ rfl td_X_sheetAt_23 ?_
    exact ⟨tz_rq (by grind [tz_qof, tz_sha]), rfl⟩
  · skip
    refine tz_iload_n C_ 1 rfl rfl td_X_sheetAt_4 ?_
    refine tz_aload_n C_ 0 rfl rfl td_X_sheetAt_5 ?_
    refine tz_get C_ tci_X 2 (by decide) tw_242 hX rfl td_X_sheetAt_6 ?_
    refine tz_alenR C_ (t := 3) rfl hS (v := 4) (by decide) td_X_sheetAt_9 ?_
    refine tz_icmp_ge C_ td_X_sheetAt_10 (fun h10 => ?_) (fun h10 => ?_)
    · skip
      refine tz_null C_ td_X_sheetAt_22 ?_
      refine tz_raret C_ (r := none) hr_ hk_ hQ_ rfl td_X_sheetAt_23 ?_
      exact ⟨tz_rq (by grind [tz_qof, tz_sha]), rfl⟩
    · skip
      refine tz_aload_n C_ 0 rfl rfl td_X_sheetAt_13 ?_
      refine tz_get C_ tci_X 2 (by decide) tw_242 hX rfl td_X_sheetAt_14 ?_
      refine tz_iload_n C_ 1 rfl rfl td_X_sheetAt_17 ?_
      refine tz_aald C_ (t := 3) rfl hS (tz_inI h1 (show s < nI 4 from tz_nle_lt h10) (by decide)) td_X_sheetAt_18 ?_
      refine tz_goto C_ td_X_sheetAt_19 ?_
      refine tz_raret C_ (r := ((tz_sha b3) (Int32.toNatClampNeg s))) hr_ hk_ hQ_ rfl td_X_sheetAt_23 ?_
      exact ⟨tz_rq (by grind [tz_qof, tz_sha]), rfl⟩

abbrev rm_P_followed : Room := { frames := 0, cells := 0, slots := 0, locals := 0 }
set_option maxHeartbeats 4000000 in
set_option maxRecDepth 100000 in
theorem ct_P_followed {l : Launch} {A : Nat → Prop} {D : va_G} {cs : Nat → ClassId} {sz : Nat} {f : tz_PH} {a b1 b2 b3 b4 : Nat} {fo : Int32} (hP : f a = some (tz_obj 4 [.ref b1, .ref b2, .ref b3, .ref b4, .int fo])) : tz_CN l tyP_followed prog_6_method_2_code 1 (some (.int)) rm_P_followed 0 0 A D cs sz [.ref a] f (some (.int fo)) (fun f' => f' = f) := by
  refine tz_C.ofB (lv0 := [(0, .ref a)]) (plainFor_of_name (by decide)) (Nat.le_of_ble_eq_true rfl) rfl ?_
  intro p_ e_ s_ m_ ar_ be_ me_ c_ Q_ C_ hr_ hk_ hnm_ hz_ hQ_
  refine tz_aload_n C_ 0 rfl rfl td_P_followed_0 ?_
  refine tz_get C_ tci_P 4 (by decide) tw_226 hP rfl td_P_followed_1 ?_
  refine tz_riret C_ hr_ hk_ hQ_ rfl td_P_followed_4 ?_
  exact ⟨rfl, rfl⟩

abbrev rm_X_pass : Room := { frames := 4, cells := 0, slots := 0, locals := 85 }
set_option maxHeartbeats 4000000 in
set_option maxRecDepth 100000 in
theorem ct_X_pass {l : Launch} {A : Nat → Prop} {D : va_G} {cs : Nat → ClassId} {sz : Nat} {f : tz_PH} {B L0 : Nat} {σ : tz_SG} (hX : tz_AX cs L0 f B σ) (hW : tz_WF σ) (hB : B + 179 ≤ L0) {p n : Int32} : tz_CN l tyX_pass prog_1_method_2_code 5 (some (.int)) rm_X_pass 0 0 A D cs sz [.ref B, .int p, .int n] f (some (.int (sp_pass σ p n).1)) (fun f' => tz_AX cs L0 f' B (sp_pass σ p n).2 ∧ ∀ q, (q < B ∨ B + 179 ≤ q) → f' q = f q) := by
  refine tz_C.ofB (lv0 := [(0, .ref B), (1, .int p), (2, .int n)]) (plainFor_of_name (by decide)) (Nat.le_of_ble_eq_true rfl) rfl ?_
  intro p_ e_ s_ m_ ar_ be_ me_ c_ Q_ C_ hr_ hk_ hnm_ hz_ hQ_
  obtain ⟨R, o, mp, ml, nx, St, Sb, hXB, hag, hnx, hH, hQ⟩ := hX
  obtain ⟨hB0, hT, hHi, hShs, hTuX, hAlX, hPlX, hRoX⟩ := hXB
  have hTu9 := hTuX
  obtain ⟨tn, tg, hTu, htn⟩ := hTu9
  have hAl9 := hAlX
  obtain ⟨zA, kA, hAl⟩ := hAl9
  have hPl9 := hPlX
  obtain ⟨pr, px, pfo, pz, pk, ptn, ptg, pn, pg, pn2, pg2, hPl, hpn, hptn⟩ := hPl9
  have hRo9 := hRoX
  obtain ⟨jn, jg, hRo, hjn⟩ := hRo9
  have hrx := hPl.2.2.2.2.2
  have hRn : ∀ p, p < 4 → (R p).1 ≤ 120 := fun p hp => by rw [(hag.1 p hp).1]; exact (hW.cur.1 p hp).1
  have hnl : (tz_cur σ).2.1 ≤ 8 := hW.cur.2.1
  have hkp : σ.2.1 ≤ 20 := hW.1
  have hSn : ∀ s, s < 4 → (Sb s).2.1 ≤ 120 := fun s hs => by rw [(hQ s hs).2.1]; exact (hW.2.2 s hs).1
  refine tz_aload_n C_ 0 rfl rfl td_X_pass_0 ?_
  refine tz_get C_ tci_X 0 (by decide) tw_240 hB0 rfl td_X_pass_1 ?_
  refine tz_iload_n C_ 1 rfl rfl td_X_pass_4 ?_
  refine tz_rV C_ tmi_T_rowAt tw_270 tw_271 tw_269 hT.1 rfl (As := [.int p]) (by exact (ct_T_rowAt hT)) rfl (rest := []) rfl (by decide) (Nat.le_of_ble_eq_true rfl) td_X_pass_5 (st1 := [va_rf (tz_rof (B + 1) p)]) rfl ?_
  refine tz_astore_nQ C_ (lv' := [(0, .ref B), (1, .int p), (2, .int n), (3, va_rf (tz_rof (B + 1) p))]) [1, 2, 3, 0] rfl (by decide) rfl td_X_pass_8 ?_
  refine tz_aload_nQ C_ 3 rfl rfl td_X_pass_9 ?_
  refine tz_ifnull C_ td_X_pass_10 (fun h10 => ?_) (fun q10 h10 => ?_)
  · skip
    rw [h10]
    have hpk10 := tz_pk_none h10
    refine tz_aload_n C_ 0 rfl rfl td_X_pass_23 ?_
    refine tz_ldc C_ tw_273 td_X_pass_24 ?_
    refine tz_cV C_ tmi_X_answer tw_276 tw_0 tw_274 hB0 rfl (As := [.int (-100001)]) (by exact (ct_X_answer (v := -100001) hB0)) rfl (rest := []) rfl (by decide) (Nat.le_of_ble_eq_true rfl) td_X_pass_26 (st1 := [.int (-100001)]) rfl (fun f1 hF1 => ?_)
    obtain ⟨hs2, hq2⟩ := hF1
    refine tz_riret C_ hr_ hk_ hQ_ rfl td_X_pass_29 ?_
    have k3 : f1 (B + 166) = some (tz_obj 9 [.ref (B + 166 + 1), .int (nI tn)]) := ((hq2 _ (by omega)).trans hTu.1)
    have k4 : f1 (B + 166 + 1) = some (tz_ints cs 120 tg) := ((hq2 _ (by omega)).trans hTu.2)
    have k5 : f1 (B + 168) = some (tz_obj 0 [.int zA, .int (nI kA)]) := ((hq2 _ (by omega)).trans hAl)
    have kp6 : tz_Tape cs f1 (B + 1) R (tz_cur σ).2.1 o mp ml := hT.fr (fun q h1_ h2_ => (hq2 q (by omega)))
    have kp7 : tz_Hist cs f1 (B + 15) nx σ.2.1 St := hHi.fr (fun q h1_ h2_ => (hq2 q (by omega)))
    have kp8 : tz_Shs cs f1 (B + 157) Sb := hShs.fr (fun q h1_ h2_ => (hq2 q (by omega)))
    have kp9 : tz_PlX cs f1 (B + 169) := hPlX.fr (fun q h1_ h2_ => (hq2 q (by omega)))
    have kp10 : tz_RoX cs f1 (B + 177) := hRoX.fr (fun q h1_ h2_ => (hq2 q (by omega)))
    have e9 : sp_pass σ p n = tz_an σ (-100001) := by simp only [sp_pass, hpk10]
    rw [e9]
    exact ⟨rfl, ⟨R, o, mp, ml, nx, St, Sb, ⟨hs2, kp6, kp7, kp8, ⟨_, _, ⟨k3, k4⟩, htn⟩, ⟨_, _, k5⟩, kp9, kp10⟩, hag.fr (fun q h9 => (hq2 q (by omega))), hnx, hH.fr (fun q h9 => (hq2 q (by omega))), hQ⟩, (fun q hh => by rw [hq2 q (by omega)])⟩
  · skip
    obtain ⟨kr10, hkr10, ekr10, eqkr10⟩ := tz_rof_some h10
    rw [h10]
    subst eqkr10
    subst ekr10
    have hpk10 := tz_pk_N hkr10
    have hRnkr10 := hRn kr10 hkr10
    have hlkr10 : (R kr10).1 = tz_ln σ kr10 := (hag.1 kr10 hkr10).1
    have hgkr10 : ∀ j, j < tz_ln σ kr10 → (R kr10).2 j = tz_sg σ kr10 j := (hag.1 kr10 hkr10).2
    have hakr10 : tz_at (R kr10).1 (R kr10).2 = tz_at (tz_ln σ kr10) (tz_sg σ kr10) := tz_agR.at hag.1 hkr10 (hW.cur.1 kr10 hkr10).1
    have hckr10 : tz_ln σ kr10 ≤ 120 := (hW.cur.1 kr10 hkr10).1
    refine tz_iload_n C_ 2 rfl rfl td_X_pass_13 ?_
    refine tz_if_lt C_ td_X_pass_14 (fun h14 => ?_) (fun h14 => ?_)
    · skip
      refine tz_aload_n C_ 0 rfl rfl td_X_pass_23 ?_
      refine tz_ldc C_ tw_273 td_X_pass_24 ?_
      refine tz_cV C_ tmi_X_answer tw_276 tw_0 tw_274 hB0 rfl (As := [.int (-100001)]) (by exact (ct_X_answer (v := -100001) hB0)) rfl (rest := []) rfl (by decide) (Nat.le_of_ble_eq_true rfl) td_X_pass_26 (st1 := [.int (-100001)]) rfl (fun f11 hF11 => ?_)
      obtain ⟨hs12, hq12⟩ := hF11
      refine tz_riret C_ hr_ hk_ hQ_ rfl td_X_pass_29 ?_
      have k13 : f11 (B + 166) = some (tz_obj 9 [.ref (B + 166 + 1), .int (nI tn)]) := ((hq12 _ (by omega)).trans hTu.1)
      have k14 : f11 (B + 166 + 1) = some (tz_ints cs 120 tg) := ((hq12 _ (by omega)).trans hTu.2)
      have k15 : f11 (B + 168) = some (tz_obj 0 [.int zA, .int (nI kA)]) := ((hq12 _ (by omega)).trans hAl)
      have kp16 : tz_Tape cs f11 (B + 1) R (tz_cur σ).2.1 o mp ml := hT.fr (fun q h1_ h2_ => (hq12 q (by omega)))
      have kp17 : tz_Hist cs f11 (B + 15) nx σ.2.1 St := hHi.fr (fun q h1_ h2_ => (hq12 q (by omega)))
      have kp18 : tz_Shs cs f11 (B + 157) Sb := hShs.fr (fun q h1_ h2_ => (hq12 q (by omega)))
      have kp19 : tz_PlX cs f11 (B + 169) := hPlX.fr (fun q h1_ h2_ => (hq12 q (by omega)))
      have kp20 : tz_RoX cs f11 (B + 177) := hRoX.fr (fun q h1_ h2_ => (hq12 q (by omega)))
      have e9 : sp_pass σ (nI kr10) n = tz_an σ (-100001) := by simp only [sp_pass, hpk10]; grind
      rw [e9]
      exact ⟨rfl, ⟨R, o, mp, ml, nx, St, Sb, ⟨hs12, kp16, kp17, kp18, ⟨_, _, ⟨k13, k14⟩, htn⟩, ⟨_, _, k15⟩, kp19, kp20⟩, hag.fr (fun q h9 => (hq12 q (by omega))), hnx, hH.fr (fun q h9 => (hq12 q (by omega))), hQ⟩, (fun q hh => by rw [hq12 q (by omega)])⟩
    · skip
      refine tz_iload_n C_ 2 rfl rfl td_X_pass_17 ?_
      refine tz_bipush C_ (v := 120) (by decide) td_X_pass_18 ?_
      refine tz_icmp_le C_ td_X_pass_20 (fun h20 => ?_) (fun h20 => ?_)
      · skip
        obtain ⟨m, hm, em⟩ := tz_toN h14 (show n ≤ nI 120 from h20) (by decide)
        subst em
        refine tz_aload_n C_ 0 rfl rfl td_X_pass_30 ?_
        refine tz_get C_ tci_X 1 (by decide) tw_241 hB0 rfl td_X_pass_31 ?_
        refine tz_aload_n C_ 0 rfl rfl td_X_pass_34 ?_
        refine tz_get C_ tci_X 0 (by decide) tw_240 hB0 rfl td_X_pass_35 ?_
        refine tz_iload_n C_ 1 rfl rfl td_X_pass_38 ?_
        refine tz_cV C_ tmi_H_keep tw_280 tw_281 tw_279 hHi.1 rfl (As := [.ref (B + 1), .int (nI kr10)]) (by exact (ct_H_keep hHi hnx hkp hT (by omega) (hag.2.2.1.fr (fun q h9 => rfl)) (by omega))) rfl (rest := []) rfl (by decide) (Nat.le_of_ble_eq_true rfl) td_X_pass_39 (st1 := []) rfl (fun f21 hF21 => ?_)
        obtain ⟨⟨sK, hSK, hpK, hhK⟩, hqK⟩ := hF21
        refine tz_aload_n C_ 3 rfl rfl td_X_pass_42 ?_
        have k22 : f21 (B + 1 + 6 + 2 * kr10) = some (tz_obj 5 [.ref (B + 1 + 6 + 2 * kr10 + 1), .int (nI (R kr10).1)]) := ((hqK _ (by omega)).trans (hT.2.2.2.2.2 kr10 hkr10).1)
        have k23 : f21 (B + 1 + 6 + 2 * kr10 + 1) = some (tz_ints cs 120 ((R kr10).2)) := ((hqK _ (by omega)).trans (hT.2.2.2.2.2 kr10 hkr10).2)
        refine tz_rV C_ tmi_R_length tw_308 tw_309 tw_307 k22 rfl (As := []) (by exact (ct_R_length (n := (R kr10).1) (g := (R kr10).2) ⟨k22, k23⟩)) rfl (rest := []) rfl (by decide) (Nat.le_of_ble_eq_true rfl) td_X_pass_43 (st1 := [.int (nI ((R kr10).1))]) rfl ?_
        refine tz_istore C_ (lv' := [(0, .ref B), (1, .int (nI kr10)), (2, .int (nI m)), (3, .ref (B + 1 + 6 + 2 * kr10)), (4, .int (nI ((R kr10).1)))]) [1, 2, 3, 4, 0] (by decide) rfl td_X_pass_46 ?_
        refine tz_aload_n C_ 3 rfl rfl td_X_pass_48 ?_
        refine tz_iload_n C_ 2 rfl rfl td_X_pass_49 ?_
        refine tz_cV C_ tmi_R_restart tw_312 tw_313 tw_311 k22 rfl (As := [.int (nI m)]) (by exact (ct_R_restart (n := (R kr10).1) (g := (R kr10).2) ⟨k22, k23⟩ (by omega))) rfl (rest := []) rfl (by decide) (Nat.le_of_ble_eq_true rfl) td_X_pass_50 (st1 := []) rfl (fun f24 hF24 => ?_)
        obtain ⟨hP25, hq25⟩ := hF24
        refine tz_iload C_ 4 rfl td_X_pass_53 ?_
        refine tz_riret C_ hr_ hk_ hQ_ rfl td_X_pass_55 ?_
        have k26 : f24 (B + 166) = some (tz_obj 9 [.ref (B + 166 + 1), .int (nI tn)]) := ((hq25 _ (by omega)).trans ((hqK _ (by omega)).trans hTu.1))
        have k27 : f24 (B + 166 + 1) = some (tz_ints cs 120 tg) := ((hq25 _ (by omega)).trans ((hqK _ (by omega)).trans hTu.2))
        have k28 : f24 (B + 168) = some (tz_obj 0 [.int zA, .int (nI kA)]) := ((hq25 _ (by omega)).trans ((hqK _ (by omega)).trans hAl))
        have k29 : f24 B = some (tz_obj 10 [.ref (B + 1), .ref (B + 15), .ref (B + 157), .ref (B + 166), .ref (B + 168), .ref (B + 169), .ref (B + 177), .int σ.2.2.2]) := ((hq25 _ (by omega)).trans ((hqK _ (by omega)).trans hB0))
        have kp30 : tz_Hist cs f24 (B + 15) ((nx + 1) % 20) (min (σ.2.1 + 1) 20) (va_up St nx sK) := hSK.fr (fun q h1_ h2_ => (hq25 q (by omega)))
        have kp31 : tz_Shs cs f24 (B + 157) Sb := hShs.fr (fun q h1_ h2_ => ((hq25 q (by omega)).trans (hqK q (by omega))))
        have kp32 : tz_PlX cs f24 (B + 169) := hPlX.fr (fun q h1_ h2_ => ((hq25 q (by omega)).trans (hqK q (by omega))))
        have kp33 : tz_RoX cs f24 (B + 177) := hRoX.fr (fun q h1_ h2_ => ((hq25 q (by omega)).trans (hqK q (by omega))))
        have e9 : sp_pass σ (nI kr10) (nI m) = (nI ((R kr10).1), tz_act σ (tz_sr (tz_cur σ) kr10 (m, fun _ => 0))) := by simp only [sp_pass, hpk10]; rw [if_pos ⟨nI_pos' (by omega), nI_le (a := m) (b := 120) (by omega) (by omega)⟩, nI_clamp (by omega), hlkr10]
        rw [e9]
        refine ⟨(by rfl), tz_AX_row (s7 := sK) hW hB hT hag hnx hH hQ hkr10 hpK hhK (fun q hh => by rw [hq25 q (by omega), hqK q (by omega)]) k29 kp30 kp31 ⟨_, _, ⟨k26, k27⟩, htn⟩ ⟨_, _, k28⟩ kp32 kp33 ⟨hP25.1, hP25.2⟩ ?_, (fun q hh => by rw [hq25 q (by omega), hqK q (by omega)])⟩
        exact ⟨rfl, fun j hj => tz_fl_in (by have := hm; dsimp only at hj; omega)⟩
      · skip
        refine tz_aload_n C_ 0 rfl rfl td_X_pass_23 ?_
        refine tz_ldc C_ tw_273 td_X_pass_24 ?_
        refine tz_cV C_ tmi_X_answer tw_276 tw_0 tw_274 hB0 rfl (As := [.int (-100001)]) (by exact (ct_X_answer (v := -100001) hB0)) rfl (rest := []) rfl (by decide) (Nat.le_of_ble_eq_true rfl) td_X_pass_26 (st1 := [.int (-100001)]) rfl (fun f34 hF34 => ?_)
        obtain ⟨hs35, hq35⟩ := hF34
        refine tz_riret C_ hr_ hk_ hQ_ rfl td_X_pass_29 ?_
        have k36 : f34 (B + 166) = some (tz_obj 9 [.ref (B + 166 + 1), .int (nI tn)]) := ((hq35 _ (by omega)).trans hTu.1)
        have k37 : f34 (B + 166 + 1) = some (tz_ints cs 120 tg) := ((hq35 _ (by omega)).trans hTu.2)
        have k38 : f34 (B + 168) = some (tz_obj 0 [.int zA, .int (nI kA)]) := ((hq35 _ (by omega)).trans hAl)
        have kp39 : tz_Tape cs f34 (B + 1) R (tz_cur σ).2.1 o mp ml := hT.fr (fun q h1_ h2_ => (hq35 q (by omega)))
        have kp40 : tz_Hist cs f34 (B + 15) nx σ.2.1 St := hHi.fr (fun q h1_ h2_ => (hq35 q (by omega)))
        have kp41 : tz_Shs cs f34 (B + 157) Sb := hShs.fr (fun q h1_ h2_ => (hq35 q (by omega)))
        have kp42 : tz_PlX cs f34 (B + 169) := hPlX.fr (fun q h1_ h2_ => (hq35 q (by omega)))
        have kp43 : tz_RoX cs f34 (B + 177) := hRoX.fr (fun q h1_ h2_ => (hq35 q (by omega)))
        have e9 : sp_pass σ (nI kr10) n = tz_an σ (-100001) := by simp only [sp_pass, hpk10]; grind
        rw [e9]
        exact ⟨rfl, ⟨R, o, mp, ml, nx, St, Sb, ⟨hs35, kp39, kp40, kp41, ⟨_, _, ⟨k36, k37⟩, htn⟩, ⟨_, _, k38⟩, kp42, kp43⟩, hag.fr (fun q h9 => (hq35 q (by omega))), hnx, hH.fr (fun q h9 => (hq35 q (by omega))), hQ⟩, (fun q hh => by rw [hq35 q (by omega)])⟩


theorem tz_rset_cg {n : Nat} {g g' : Nat → Int32} {i v : Int32} (h : ∀ j, j < n → g j = g' j) : ∀ j, j < n → tz_rset n g i v j = tz_rset n g' i v j := by
  intro j hj
  unfold tz_rset
  split
  · simp only [upd]
    split
    · rfl
    · exact h j hj
  · exact h j hj
theorem tz_lsg_s {g : Nat → Int32} {a i : Nat} (h : a ≤ i) : upd (fun j => if a ≤ j ∧ j < i then tz_LO else g j) i tz_LO = (fun j => if a ≤ j ∧ j < i + 1 then tz_LO else g j) := by
  funext j
  simp only [upd]
  by_cases e : j = i
  · rw [if_pos e, if_pos (by omega)]
  · rw [if_neg e]
    by_cases h1 : a ≤ j ∧ j < i
    · rw [if_pos h1, if_pos (by omega)]
    · rw [if_neg h1, if_neg (by omega)]
theorem tz_hld_N {n : Nat} {x y : Int32} (hn : n ≤ 120) (h : tz_hld (nI n) x y) : ∃ i k : Nat, x = nI i ∧ y = nI k ∧ i + k ≤ n := by
  obtain ⟨h1, h2, h3, h4⟩ := h
  obtain ⟨k, hk, e⟩ := tz_toN (tz_le_nlt h2) h3 (by omega)
  subst e
  rw [pk_sub hk] at h4
  obtain ⟨i, hi, e⟩ := tz_toN (tz_le_nlt h1) h4 (by omega)
  exact ⟨i, k, e, rfl, by omega⟩
def tz_lsg (g : Nat → Int32) (a b : Nat) : Nat → Int32 := fun j => if a ≤ j ∧ j < b then tz_LO else g j
def sp_lose (s : tz_SG) (p x n : Int32) : tz_AN := match tz_pk p with
  | none => tz_an s tz_BE
  | some k => if tz_hld (nI (tz_ln s k)) x n then (nI (tz_lost (tz_ln s k) (tz_lsg (tz_sg s k) x.toNatClampNeg (x.toNatClampNeg + n.toNatClampNeg))) - nI (tz_lost (tz_ln s k) (tz_sg s k)), tz_act s (tz_sr (tz_cur s) k (tz_ln s k, tz_lsg (tz_sg s k) x.toNatClampNeg (x.toNatClampNeg + n.toNatClampNeg)))) else tz_an s tz_BE

abbrev rm_X_put : Room := { frames := 4, cells := 0, slots := 0, locals := 85 }
set_option maxHeartbeats 4000000 in
set_option maxRecDepth 100000 in
theorem ct_X_put {l : Launch} {A : Nat → Prop} {D : va_G} {cs : Nat → ClassId} {sz : Nat} {f : tz_PH} {B L0 : Nat} {σ : tz_SG} (hX : tz_AX cs L0 f B σ) (hW : tz_WF σ) (hB : B + 179 ≤ L0) {p i v : Int32} : tz_CN l tyX_put prog_1_method_3_code 6 (some (.int)) rm_X_put 0 0 A D cs sz [.ref B, .int p, .int i, .int v] f (some (.int (sp_put σ p i v).1)) (fun f' => tz_AX cs L0 f' B (sp_put σ p i v).2 ∧ ∀ q, (q < B ∨ B + 179 ≤ q) → f' q = f q) := by
  refine tz_C.ofB (lv0 := [(0, .ref B), (1, .int p), (2, .int i), (3, .int v)]) (plainFor_of_name (by decide)) (Nat.le_of_ble_eq_true rfl) rfl ?_
  intro p_ e_ s_ m_ ar_ be_ me_ c_ Q_ C_ hr_ hk_ hnm_ hz_ hQ_
  obtain ⟨R, o, mp, ml, nx, St, Sb, hXB, hag, hnx, hH, hQ⟩ := hX
  obtain ⟨hB0, hT, hHi, hShs, hTuX, hAlX, hPlX, hRoX⟩ := hXB
  have hTu9 := hTuX
  obtain ⟨tn, tg, hTu, htn⟩ := hTu9
  have hAl9 := hAlX
  obtain ⟨zA, kA, hAl⟩ := hAl9
  have hPl9 := hPlX
  obtain ⟨pr, px, pfo, pz, pk, ptn, ptg, pn, pg, pn2, pg2, hPl, hpn, hptn⟩ := hPl9
  have hRo9 := hRoX
  obtain ⟨jn, jg, hRo, hjn⟩ := hRo9
  have hrx := hPl.2.2.2.2.2
  have hRn : ∀ p, p < 4 → (R p).1 ≤ 120 := fun p hp => by rw [(hag.1 p hp).1]; exact (hW.cur.1 p hp).1
  have hnl : (tz_cur σ).2.1 ≤ 8 := hW.cur.2.1
  have hkp : σ.2.1 ≤ 20 := hW.1
  have hSn : ∀ s, s < 4 → (Sb s).2.1 ≤ 120 := fun s hs => by rw [(hQ s hs).2.1]; exact (hW.2.2 s hs).1
  refine tz_aload_n C_ 0 rfl rfl td_X_put_0 ?_
  refine tz_get C_ tci_X 0 (by decide) tw_240 hB0 rfl td_X_put_1 ?_
  refine tz_iload_n C_ 1 rfl rfl td_X_put_4 ?_
  refine tz_rV C_ tmi_T_rowAt tw_270 tw_271 tw_269 hT.1 rfl (As := [.int p]) (by exact (ct_T_rowAt hT)) rfl (rest := []) rfl (by decide) (Nat.le_of_ble_eq_true rfl) td_X_put_5 (st1 := [va_rf (tz_rof (B + 1) p)]) rfl ?_
  refine tz_astoreQ C_ (lv' := [(0, .ref B), (1, .int p), (2, .int i), (3, .int v), (4, va_rf (tz_rof (B + 1) p))]) [1, 2, 3, 4, 0] (by decide) rfl td_X_put_8 ?_
  refine tz_aloadQ C_ 4 rfl td_X_put_10 ?_
  refine tz_ifnull C_ td_X_put_12 (fun h12 => ?_) (fun q12 h12 => ?_)
  · skip
    rw [h12]
    have hpk12 := tz_pk_none h12
    refine tz_aload_n C_ 0 rfl rfl td_X_put_31 ?_
    refine tz_ldc C_ tw_273 td_X_put_32 ?_
    refine tz_cV C_ tmi_X_answer tw_276 tw_0 tw_274 hB0 rfl (As := [.int (-100001)]) (by exact (ct_X_answer (v := -100001) hB0)) rfl (rest := []) rfl (by decide) (Nat.le_of_ble_eq_true rfl) td_X_put_34 (st1 := [.int (-100001)]) rfl (fun f1 hF1 => ?_)
    obtain ⟨hs2, hq2⟩ := hF1
    refine tz_riret C_ hr_ hk_ hQ_ rfl td_X_put_37 ?_
    have k3 : f1 (B + 166) = some (tz_obj 9 [.ref (B + 166 + 1), .int (nI tn)]) := ((hq2 _ (by omega)).trans hTu.1)
    have k4 : f1 (B + 166 + 1) = some (tz_ints cs 120 tg) := ((hq2 _ (by omega)).trans hTu.2)
    have k5 : f1 (B + 168) = some (tz_obj 0 [.int zA, .int (nI kA)]) := ((hq2 _ (by omega)).trans hAl)
    have kp6 : tz_Tape cs f1 (B + 1) R (tz_cur σ).2.1 o mp ml := hT.fr (fun q h1_ h2_ => (hq2 q (by omega)))
    have kp7 : tz_Hist cs f1 (B + 15) nx σ.2.1 St := hHi.fr (fun q h1_ h2_ => (hq2 q (by omega)))
    have kp8 : tz_Shs cs f1 (B + 157) Sb := hShs.fr (fun q h1_ h2_ => (hq2 q (by omega)))
    have kp9 : tz_PlX cs f1 (B + 169) := hPlX.fr (fun q h1_ h2_ => (hq2 q (by omega)))
    have kp10 : tz_RoX cs f1 (B + 177) := hRoX.fr (fun q h1_ h2_ => (hq2 q (by omega)))
    have e9 : sp_put σ p i v = tz_an σ (-100001) := by simp only [sp_put, hpk12]
    rw [e9]
    exact ⟨rfl, ⟨R, o, mp, ml, nx, St, Sb, ⟨hs2, kp6, kp7, kp8, ⟨_, _, ⟨k3, k4⟩, htn⟩, ⟨_, _, k5⟩, kp9, kp10⟩, hag.fr (fun q h9 => (hq2 q (by omega))), hnx, hH.fr (fun q h9 => (hq2 q (by omega))), hQ⟩, (fun q hh => by rw [hq2 q (by omega)])⟩
  · skip
    obtain ⟨kr12, hkr12, ekr12, eqkr12⟩ := tz_rof_some h12
    rw [h12]
    subst eqkr12
    subst ekr12
    have hpk12 := tz_pk_N hkr12
    have hRnkr12 := hRn kr12 hkr12
    have hlkr12 : (R kr12).1 = tz_ln σ kr12 := (hag.1 kr12 hkr12).1
    have hgkr12 : ∀ j, j < tz_ln σ kr12 → (R kr12).2 j = tz_sg σ kr12 j := (hag.1 kr12 hkr12).2
    have hakr12 : tz_at (R kr12).1 (R kr12).2 = tz_at (tz_ln σ kr12) (tz_sg σ kr12) := tz_agR.at hag.1 hkr12 (hW.cur.1 kr12 hkr12).1
    have hckr12 : tz_ln σ kr12 ≤ 120 := (hW.cur.1 kr12 hkr12).1
    refine tz_aload C_ 4 rfl td_X_put_15 ?_
    refine tz_iload_n C_ 2 rfl rfl td_X_put_17 ?_
    refine tz_rV C_ tmi_R_has tw_325 tw_326 tw_324 (hT.2.2.2.2.2 kr12 hkr12).1 rfl (As := [.int i]) (by exact (ct_R_has (n := (R kr12).1) (g := (R kr12).2) ⟨(hT.2.2.2.2.2 kr12 hkr12).1, (hT.2.2.2.2.2 kr12 hkr12).2⟩ (by omega))) rfl (rest := []) rfl (by decide) (Nat.le_of_ble_eq_true rfl) td_X_put_18 (st1 := [.int (tz_p (0 ≤ i ∧ i < nI ((R kr12).1)))]) rfl ?_
    refine tz_if_eq C_ td_X_put_21 (fun h21 => ?_) (fun h21 => ?_)
    · skip
      replace h21 := tz_p0.mp h21
      refine tz_aload_n C_ 0 rfl rfl td_X_put_31 ?_
      refine tz_ldc C_ tw_273 td_X_put_32 ?_
      refine tz_cV C_ tmi_X_answer tw_276 tw_0 tw_274 hB0 rfl (As := [.int (-100001)]) (by exact (ct_X_answer (v := -100001) hB0)) rfl (rest := []) rfl (by decide) (Nat.le_of_ble_eq_true rfl) td_X_put_34 (st1 := [.int (-100001)]) rfl (fun f11 hF11 => ?_)
      obtain ⟨hs12, hq12⟩ := hF11
      refine tz_riret C_ hr_ hk_ hQ_ rfl td_X_put_37 ?_
      have k13 : f11 (B + 166) = some (tz_obj 9 [.ref (B + 166 + 1), .int (nI tn)]) := ((hq12 _ (by omega)).trans hTu.1)
      have k14 : f11 (B + 166 + 1) = some (tz_ints cs 120 tg) := ((hq12 _ (by omega)).trans hTu.2)
      have k15 : f11 (B + 168) = some (tz_obj 0 [.int zA, .int (nI kA)]) := ((hq12 _ (by omega)).trans hAl)
      have kp16 : tz_Tape cs f11 (B + 1) R (tz_cur σ).2.1 o mp ml := hT.fr (fun q h1_ h2_ => (hq12 q (by omega)))
      have kp17 : tz_Hist cs f11 (B + 15) nx σ.2.1 St := hHi.fr (fun q h1_ h2_ => (hq12 q (by omega)))
      have kp18 : tz_Shs cs f11 (B + 157) Sb := hShs.fr (fun q h1_ h2_ => (hq12 q (by omega)))
      have kp19 : tz_PlX cs f11 (B + 169) := hPlX.fr (fun q h1_ h2_ => (hq12 q (by omega)))
      have kp20 : tz_RoX cs f11 (B + 177) := hRoX.fr (fun q h1_ h2_ => (hq12 q (by omega)))
      have e9 : sp_put σ (nI kr12) i v = tz_an σ (-100001) := by simp only [sp_put, hpk12]; rw [hlkr12] at h21; grind
      rw [e9]
      exact ⟨rfl, ⟨R, o, mp, ml, nx, St, Sb, ⟨hs12, kp16, kp17, kp18, ⟨_, _, ⟨k13, k14⟩, htn⟩, ⟨_, _, k15⟩, kp19, kp20⟩, hag.fr (fun q h9 => (hq12 q (by omega))), hnx, hH.fr (fun q h9 => (hq12 q (by omega))), hQ⟩, (fun q hh => by rw [hq12 q (by omega)])⟩
    · skip
      replace h21 := tz_p1.mp h21
      refine tz_iload_n C_ 3 rfl rfl td_X_put_24 ?_
      refine tz_rS C_ tmi_X_isSample tw_329 tw_328 (As := [.int v]) (by exact ct_X_isSample) rfl (rest := []) rfl (by decide) (Nat.le_of_ble_eq_true rfl) td_X_put_25 (st1 := [.int (tz_p (-10000 ≤ v ∧ v ≤ 10000))]) rfl ?_
      refine tz_if_ne C_ td_X_put_28 (fun h28 => ?_) (fun h28 => ?_)
      · skip
        replace h28 := tz_p1.mp h28
        refine tz_aload_n C_ 0 rfl rfl td_X_put_38 ?_
        refine tz_get C_ tci_X 1 (by decide) tw_241 hB0 rfl td_X_put_39 ?_
        refine tz_aload_n C_ 0 rfl rfl td_X_put_42 ?_
        refine tz_get C_ tci_X 0 (by decide) tw_240 hB0 rfl td_X_put_43 ?_
        refine tz_iload_n C_ 1 rfl rfl td_X_put_46 ?_
        refine tz_cV C_ tmi_H_keep tw_280 tw_281 tw_279 hHi.1 rfl (As := [.ref (B + 1), .int (nI kr12)]) (by exact (ct_H_keep hHi hnx hkp hT (by omega) (hag.2.2.1.fr (fun q h9 => rfl)) (by omega))) rfl (rest := []) rfl (by decide) (Nat.le_of_ble_eq_true rfl) td_X_put_47 (st1 := []) rfl (fun f21 hF21 => ?_)
        obtain ⟨⟨sK, hSK, hpK, hhK⟩, hqK⟩ := hF21
        refine tz_aload C_ 4 rfl td_X_put_50 ?_
        refine tz_iload_n C_ 2 rfl rfl td_X_put_52 ?_
        have k22 : f21 (B + 1 + 6 + 2 * kr12) = some (tz_obj 5 [.ref (B + 1 + 6 + 2 * kr12 + 1), .int (nI (R kr12).1)]) := ((hqK _ (by omega)).trans (hT.2.2.2.2.2 kr12 hkr12).1)
        have k23 : f21 (B + 1 + 6 + 2 * kr12 + 1) = some (tz_ints cs 120 ((R kr12).2)) := ((hqK _ (by omega)).trans (hT.2.2.2.2.2 kr12 hkr12).2)
        refine tz_rV C_ tmi_R_at tw_332 tw_333 tw_331 k22 rfl (As := [.int i]) (by exact (ct_R_at (n := (R kr12).1) (g := (R kr12).2) ⟨k22, k23⟩ (by omega))) rfl (rest := []) rfl (by decide) (Nat.le_of_ble_eq_true rfl) td_X_put_53 (st1 := [.int (tz_at ((R kr12).1) ((R kr12).2) i)]) rfl ?_
        refine tz_ldc C_ tw_336 td_X_put_56 ?_
        refine tz_icmp_ne C_ td_X_put_58 (fun h58 => ?_) (fun h58 => ?_)
        · skip
          refine tz_iconst C_ (v := 0) (by decide) td_X_put_65 ?_
          refine tz_istore C_ (lv' := [(0, .ref B), (1, .int (nI kr12)), (2, .int i), (3, .int v), (4, .ref (B + 1 + 6 + 2 * kr12)), (5, .int 0)]) [1, 2, 3, 4, 5, 0] (by decide) rfl td_X_put_66 ?_
          refine tz_aload C_ 4 rfl td_X_put_68 ?_
          refine tz_iload_n C_ 2 rfl rfl td_X_put_70 ?_
          refine tz_iload_n C_ 3 rfl rfl td_X_put_71 ?_
          refine tz_cV C_ tmi_R_set tw_338 tw_339 tw_337 k22 rfl (As := [.int i, .int v]) (by exact (ct_R_set (n := (R kr12).1) (g := (R kr12).2) ⟨k22, k23⟩ (by omega))) rfl (rest := []) rfl (by decide) (Nat.le_of_ble_eq_true rfl) td_X_put_72 (st1 := []) rfl (fun f24 hF24 => ?_)
          obtain ⟨hP25, hq25⟩ := hF24
          refine tz_iload C_ 5 rfl td_X_put_75 ?_
          refine tz_riret C_ hr_ hk_ hQ_ rfl td_X_put_77 ?_
          have k26 : f24 (B + 166) = some (tz_obj 9 [.ref (B + 166 + 1), .int (nI tn)]) := ((hq25 _ (by omega)).trans ((hqK _ (by omega)).trans hTu.1))
          have k27 : f24 (B + 166 + 1) = some (tz_ints cs 120 tg) := ((hq25 _ (by omega)).trans ((hqK _ (by omega)).trans hTu.2))
          have k28 : f24 (B + 168) = some (tz_obj 0 [.int zA, .int (nI kA)]) := ((hq25 _ (by omega)).trans ((hqK _ (by omega)).trans hAl))
          have k29 : f24 B = some (tz_obj 10 [.ref (B + 1), .ref (B + 15), .ref (B + 157), .ref (B + 166), .ref (B + 168), .ref (B + 169), .ref (B + 177), .int σ.2.2.2]) := ((hq25 _ (by omega)).trans ((hqK _ (by omega)).trans hB0))
          have kp30 : tz_Hist cs f24 (B + 15) ((nx + 1) % 20) (min (σ.2.1 + 1) 20) (va_up St nx sK) := hSK.fr (fun q h1_ h2_ => (hq25 q (by omega)))
          have kp31 : tz_Shs cs f24 (B + 157) Sb := hShs.fr (fun q h1_ h2_ => ((hq25 q (by omega)).trans (hqK q (by omega))))
          have kp32 : tz_PlX cs f24 (B + 169) := hPlX.fr (fun q h1_ h2_ => ((hq25 q (by omega)).trans (hqK q (by omega))))
          have kp33 : tz_RoX cs f24 (B + 177) := hRoX.fr (fun q h1_ h2_ => ((hq25 q (by omega)).trans (hqK q (by omega))))
          have e9 : sp_put σ (nI kr12) i v = (0, tz_act σ (tz_sr (tz_cur σ) kr12 (tz_ln σ kr12, tz_rset (tz_ln σ kr12) (tz_sg σ kr12) i v))) := by simp only [sp_put, hpk12]; rw [if_pos ⟨hlkr12 ▸ h21, h28⟩, ← hakr12]; unfold tz_p; rw [if_neg (show ¬ _ = tz_LO from h58)]
          rw [e9]
          refine ⟨(by rfl), tz_AX_row (s7 := sK) hW hB hT hag hnx hH hQ hkr12 hpK hhK (fun q hh => by rw [hq25 q (by omega), hqK q (by omega)]) k29 kp30 kp31 ⟨_, _, ⟨k26, k27⟩, htn⟩ ⟨_, _, k28⟩ kp32 kp33 ⟨hP25.1, hP25.2⟩ ?_, (fun q hh => by rw [hq25 q (by omega), hqK q (by omega)])⟩
          rw [hlkr12]
          exact ⟨rfl, tz_rset_cg hgkr12⟩
        · skip
          refine tz_iconst C_ (v := 1) (by decide) td_X_put_61 ?_
          refine tz_goto C_ td_X_put_62 ?_
          refine tz_istore C_ (lv' := [(0, .ref B), (1, .int (nI kr12)), (2, .int i), (3, .int v), (4, .ref (B + 1 + 6 + 2 * kr12)), (5, .int 1)]) [1, 2, 3, 4, 5, 0] (by decide) rfl td_X_put_66 ?_
          refine tz_aload C_ 4 rfl td_X_put_68 ?_
          refine tz_iload_n C_ 2 rfl rfl td_X_put_70 ?_
          refine tz_iload_n C_ 3 rfl rfl td_X_put_71 ?_
          refine tz_cV C_ tmi_R_set tw_338 tw_339 tw_337 k22 rfl (As := [.int i, .int v]) (by exact (ct_R_set (n := (R kr12).1) (g := (R kr12).2) ⟨k22, k23⟩ (by omega))) rfl (rest := []) rfl (by decide) (Nat.le_of_ble_eq_true rfl) td_X_put_72 (st1 := []) rfl (fun f34 hF34 => ?_)
          obtain ⟨hP35, hq35⟩ := hF34
          refine tz_iload C_ 5 rfl td_X_put_75 ?_
          refine tz_riret C_ hr_ hk_ hQ_ rfl td_X_put_77 ?_
          have k36 : f34 (B + 166) = some (tz_obj 9 [.ref (B + 166 + 1), .int (nI tn)]) := ((hq35 _ (by omega)).trans ((hqK _ (by omega)).trans hTu.1))
          have k37 : f34 (B + 166 + 1) = some (tz_ints cs 120 tg) := ((hq35 _ (by omega)).trans ((hqK _ (by omega)).trans hTu.2))
          have k38 : f34 (B + 168) = some (tz_obj 0 [.int zA, .int (nI kA)]) := ((hq35 _ (by omega)).trans ((hqK _ (by omega)).trans hAl))
          have k39 : f34 B = some (tz_obj 10 [.ref (B + 1), .ref (B + 15), .ref (B + 157), .ref (B + 166), .ref (B + 168), .ref (B + 169), .ref (B + 177), .int σ.2.2.2]) := ((hq35 _ (by omega)).trans ((hqK _ (by omega)).trans hB0))
          have kp40 : tz_Hist cs f34 (B + 15) ((nx + 1) % 20) (min (σ.2.1 + 1) 20) (va_up St nx sK) := hSK.fr (fun q h1_ h2_ => (hq35 q (by omega)))
          have kp41 : tz_Shs cs f34 (B + 157) Sb := hShs.fr (fun q h1_ h2_ => ((hq35 q (by omega)).trans (hqK q (by omega))))
          have kp42 : tz_PlX cs f34 (B + 169) := hPlX.fr (fun q h1_ h2_ => ((hq35 q (by omega)).trans (hqK q (by omega))))
          have kp43 : tz_RoX cs f34 (B + 177) := hRoX.fr (fun q h1_ h2_ => ((hq35 q (by omega)).trans (hqK q (by omega))))
          have e9 : sp_put σ (nI kr12) i v = (1, tz_act σ (tz_sr (tz_cur σ) kr12 (tz_ln σ kr12, tz_rset (tz_ln σ kr12) (tz_sg σ kr12) i v))) := by simp only [sp_put, hpk12]; rw [if_pos ⟨hlkr12 ▸ h21, h28⟩, ← hakr12]; unfold tz_p; rw [if_pos (show _ = tz_LO from h58)]
          rw [e9]
          refine ⟨(by rfl), tz_AX_row (s7 := sK) hW hB hT hag hnx hH hQ hkr12 hpK hhK (fun q hh => by rw [hq35 q (by omega), hqK q (by omega)]) k39 kp40 kp41 ⟨_, _, ⟨k36, k37⟩, htn⟩ ⟨_, _, k38⟩ kp42 kp43 ⟨hP35.1, hP35.2⟩ ?_, (fun q hh => by rw [hq35 q (by omega), hqK q (by omega)])⟩
          rw [hlkr12]
          exact ⟨rfl, tz_rset_cg hgkr12⟩
      · skip
        replace h28 := tz_p0.mp h28
        refine tz_aload_n C_ 0 rfl rfl td_X_put_31 ?_
        refine tz_ldc C_ tw_273 td_X_put_32 ?_
        refine tz_cV C_ tmi_X_answer tw_276 tw_0 tw_274 hB0 rfl (As := [.int (-100001)]) (by exact (ct_X_answer (v := -100001) hB0)) rfl (rest := []) rfl (by decide) (Nat.le_of_ble_eq_true rfl) td_X_put_34 (st1 := [.int (-100001)]) rfl (fun f44 hF44 => ?_)
        obtain ⟨hs45, hq45⟩ := hF44
        refine tz_riret C_ hr_ hk_ hQ_ rfl td_X_put_37 ?_
        have k46 : f44 (B + 166) = some (tz_obj 9 [.ref (B + 166 + 1), .int (nI tn)]) := ((hq45 _ (by omega)).trans hTu.1)
        have k47 : f44 (B + 166 + 1) = some (tz_ints cs 120 tg) := ((hq45 _ (by omega)).trans hTu.2)
        have k48 : f44 (B + 168) = some (tz_obj 0 [.int zA, .int (nI kA)]) := ((hq45 _ (by omega)).trans hAl)
        have kp49 : tz_Tape cs f44 (B + 1) R (tz_cur σ).2.1 o mp ml := hT.fr (fun q h1_ h2_ => (hq45 q (by omega)))
        have kp50 : tz_Hist cs f44 (B + 15) nx σ.2.1 St := hHi.fr (fun q h1_ h2_ => (hq45 q (by omega)))
        have kp51 : tz_Shs cs f44 (B + 157) Sb := hShs.fr (fun q h1_ h2_ => (hq45 q (by omega)))
        have kp52 : tz_PlX cs f44 (B + 169) := hPlX.fr (fun q h1_ h2_ => (hq45 q (by omega)))
        have kp53 : tz_RoX cs f44 (B + 177) := hRoX.fr (fun q h1_ h2_ => (hq45 q (by omega)))
        have e9 : sp_put σ (nI kr12) i v = tz_an σ (-100001) := by simp only [sp_put, hpk12]; rw [hlkr12] at h21; grind
        rw [e9]
        exact ⟨rfl, ⟨R, o, mp, ml, nx, St, Sb, ⟨hs45, kp49, kp50, kp51, ⟨_, _, ⟨k46, k47⟩, htn⟩, ⟨_, _, k48⟩, kp52, kp53⟩, hag.fr (fun q h9 => (hq45 q (by omega))), hnx, hH.fr (fun q h9 => (hq45 q (by omega))), hQ⟩, (fun q hh => by rw [hq45 q (by omega)])⟩

abbrev rm_X_sample : Room := { frames := 1, cells := 0, slots := 0, locals := 21 }
set_option maxHeartbeats 4000000 in
set_option maxRecDepth 100000 in
theorem ct_X_sample {l : Launch} {A : Nat → Prop} {D : va_G} {cs : Nat → ClassId} {sz : Nat} {f : tz_PH} {B L0 : Nat} {σ : tz_SG} (hX : tz_AX cs L0 f B σ) (hW : tz_WF σ) (hB : B + 179 ≤ L0) {p i : Int32} : tz_CN l tyX_sample prog_1_method_5_code 4 (some (.int)) rm_X_sample 0 0 A D cs sz [.ref B, .int p, .int i] f (some (.int (sp_sample σ p i).1)) (fun f' => tz_AX cs L0 f' B (sp_sample σ p i).2 ∧ ∀ q, (q < B ∨ B + 179 ≤ q) → f' q = f q) := by
  refine tz_C.ofB (lv0 := [(0, .ref B), (1, .int p), (2, .int i)]) (plainFor_of_name (by decide)) (Nat.le_of_ble_eq_true rfl) rfl ?_
  intro p_ e_ s_ m_ ar_ be_ me_ c_ Q_ C_ hr_ hk_ hnm_ hz_ hQ_
  obtain ⟨R, o, mp, ml, nx, St, Sb, hXB, hag, hnx, hH, hQ⟩ := hX
  obtain ⟨hB0, hT, hHi, hShs, hTuX, hAlX, hPlX, hRoX⟩ := hXB
  have hTu9 := hTuX
  obtain ⟨tn, tg, hTu, htn⟩ := hTu9
  have hAl9 := hAlX
  obtain ⟨zA, kA, hAl⟩ := hAl9
  have hPl9 := hPlX
  obtain ⟨pr, px, pfo, pz, pk, ptn, ptg, pn, pg, pn2, pg2, hPl, hpn, hptn⟩ := hPl9
  have hRo9 := hRoX
  obtain ⟨jn, jg, hRo, hjn⟩ := hRo9
  have hrx := hPl.2.2.2.2.2
  have hRn : ∀ p, p < 4 → (R p).1 ≤ 120 := fun p hp => by rw [(hag.1 p hp).1]; exact (hW.cur.1 p hp).1
  have hnl : (tz_cur σ).2.1 ≤ 8 := hW.cur.2.1
  have hkp : σ.2.1 ≤ 20 := hW.1
  have hSn : ∀ s, s < 4 → (Sb s).2.1 ≤ 120 := fun s hs => by rw [(hQ s hs).2.1]; exact (hW.2.2 s hs).1
  refine tz_aload_n C_ 0 rfl rfl td_X_sample_0 ?_
  refine tz_get C_ tci_X 0 (by decide) tw_240 hB0 rfl td_X_sample_1 ?_
  refine tz_iload_n C_ 1 rfl rfl td_X_sample_4 ?_
  refine tz_rV C_ tmi_T_rowAt tw_270 tw_271 tw_269 hT.1 rfl (As := [.int p]) (by exact (ct_T_rowAt hT)) rfl (rest := []) rfl (by decide) (Nat.le_of_ble_eq_true rfl) td_X_sample_5 (st1 := [va_rf (tz_rof (B + 1) p)]) rfl ?_
  refine tz_astore_nQ C_ (lv' := [(0, .ref B), (1, .int p), (2, .int i), (3, va_rf (tz_rof (B + 1) p))]) [1, 2, 3, 0] rfl (by decide) rfl td_X_sample_8 ?_
  refine tz_aload_nQ C_ 3 rfl rfl td_X_sample_9 ?_
  refine tz_ifnull C_ td_X_sample_10 (fun h10 => ?_) (fun q10 h10 => ?_)
  · skip
    rw [h10]
    have hpk10 := tz_pk_none h10
    refine tz_aload_n C_ 0 rfl rfl td_X_sample_21 ?_
    refine tz_ldc C_ tw_273 td_X_sample_22 ?_
    refine tz_cV C_ tmi_X_answer tw_276 tw_0 tw_274 hB0 rfl (As := [.int (-100001)]) (by exact (ct_X_answer (v := -100001) hB0)) rfl (rest := []) rfl (by decide) (Nat.le_of_ble_eq_true rfl) td_X_sample_24 (st1 := [.int (-100001)]) rfl (fun f1 hF1 => ?_)
    obtain ⟨hs2, hq2⟩ := hF1
    refine tz_riret C_ hr_ hk_ hQ_ rfl td_X_sample_27 ?_
    have k3 : f1 (B + 166) = some (tz_obj 9 [.ref (B + 166 + 1), .int (nI tn)]) := ((hq2 _ (by omega)).trans hTu.1)
    have k4 : f1 (B + 166 + 1) = some (tz_ints cs 120 tg) := ((hq2 _ (by omega)).trans hTu.2)
    have k5 : f1 (B + 168) = some (tz_obj 0 [.int zA, .int (nI kA)]) := ((hq2 _ (by omega)).trans hAl)
    have kp6 : tz_Tape cs f1 (B + 1) R (tz_cur σ).2.1 o mp ml := hT.fr (fun q h1_ h2_ => (hq2 q (by omega)))
    have kp7 : tz_Hist cs f1 (B + 15) nx σ.2.1 St := hHi.fr (fun q h1_ h2_ => (hq2 q (by omega)))
    have kp8 : tz_Shs cs f1 (B + 157) Sb := hShs.fr (fun q h1_ h2_ => (hq2 q (by omega)))
    have kp9 : tz_PlX cs f1 (B + 169) := hPlX.fr (fun q h1_ h2_ => (hq2 q (by omega)))
    have kp10 : tz_RoX cs f1 (B + 177) := hRoX.fr (fun q h1_ h2_ => (hq2 q (by omega)))
    have e9 : sp_sample σ p i = tz_an σ (-100001) := by simp only [sp_sample, hpk10]
    rw [e9]
    exact ⟨rfl, ⟨R, o, mp, ml, nx, St, Sb, ⟨hs2, kp6, kp7, kp8, ⟨_, _, ⟨k3, k4⟩, htn⟩, ⟨_, _, k5⟩, kp9, kp10⟩, hag.fr (fun q h9 => (hq2 q (by omega))), hnx, hH.fr (fun q h9 => (hq2 q (by omega))), hQ⟩, (fun q hh => by rw [hq2 q (by omega)])⟩
  · skip
    obtain ⟨kr10, hkr10, ekr10, eqkr10⟩ := tz_rof_some h10
    rw [h10]
    subst eqkr10
    subst ekr10
    have hpk10 := tz_pk_N hkr10
    have hRnkr10 := hRn kr10 hkr10
    have hlkr10 : (R kr10).1 = tz_ln σ kr10 := (hag.1 kr10 hkr10).1
    have hgkr10 : ∀ j, j < tz_ln σ kr10 → (R kr10).2 j = tz_sg σ kr10 j := (hag.1 kr10 hkr10).2
    have hakr10 : tz_at (R kr10).1 (R kr10).2 = tz_at (tz_ln σ kr10) (tz_sg σ kr10) := tz_agR.at hag.1 hkr10 (hW.cur.1 kr10 hkr10).1
    have hckr10 : tz_ln σ kr10 ≤ 120 := (hW.cur.1 kr10 hkr10).1
    refine tz_aload_n C_ 3 rfl rfl td_X_sample_13 ?_
    refine tz_iload_n C_ 2 rfl rfl td_X_sample_14 ?_
    refine tz_rV C_ tmi_R_has tw_325 tw_326 tw_324 (hT.2.2.2.2.2 kr10 hkr10).1 rfl (As := [.int i]) (by exact (ct_R_has (n := (R kr10).1) (g := (R kr10).2) ⟨(hT.2.2.2.2.2 kr10 hkr10).1, (hT.2.2.2.2.2 kr10 hkr10).2⟩ (by omega))) rfl (rest := []) rfl (by decide) (Nat.le_of_ble_eq_true rfl) td_X_sample_15 (st1 := [.int (tz_p (0 ≤ i ∧ i < nI ((R kr10).1)))]) rfl ?_
    refine tz_if_ne C_ td_X_sample_18 (fun h18 => ?_) (fun h18 => ?_)
    · skip
      replace h18 := tz_p1.mp h18
      refine tz_aload_n C_ 0 rfl rfl td_X_sample_28 ?_
      refine tz_aload_n C_ 3 rfl rfl td_X_sample_29 ?_
      refine tz_iload_n C_ 2 rfl rfl td_X_sample_30 ?_
      refine tz_rV C_ tmi_R_at tw_332 tw_333 tw_331 (hT.2.2.2.2.2 kr10 hkr10).1 rfl (As := [.int i]) (by exact (ct_R_at (n := (R kr10).1) (g := (R kr10).2) ⟨(hT.2.2.2.2.2 kr10 hkr10).1, (hT.2.2.2.2.2 kr10 hkr10).2⟩ (by omega))) rfl (rest := [.ref B]) rfl (by decide) (Nat.le_of_ble_eq_true rfl) td_X_sample_31 (st1 := [.int (tz_at ((R kr10).1) ((R kr10).2) i), .ref B]) rfl ?_
      refine tz_cV C_ tmi_X_answer tw_276 tw_0 tw_274 hB0 rfl (As := [.int (tz_at ((R kr10).1) ((R kr10).2) i)]) (by exact (ct_X_answer (v := tz_at ((R kr10).1) ((R kr10).2) i) hB0)) rfl (rest := []) rfl (by decide) (Nat.le_of_ble_eq_true rfl) td_X_sample_34 (st1 := [.int (tz_at ((R kr10).1) ((R kr10).2) i)]) rfl (fun f11 hF11 => ?_)
      obtain ⟨hs12, hq12⟩ := hF11
      refine tz_riret C_ hr_ hk_ hQ_ rfl td_X_sample_37 ?_
      have k13 : f11 (B + 166) = some (tz_obj 9 [.ref (B + 166 + 1), .int (nI tn)]) := ((hq12 _ (by omega)).trans hTu.1)
      have k14 : f11 (B + 166 + 1) = some (tz_ints cs 120 tg) := ((hq12 _ (by omega)).trans hTu.2)
      have k15 : f11 (B + 168) = some (tz_obj 0 [.int zA, .int (nI kA)]) := ((hq12 _ (by omega)).trans hAl)
      have kp16 : tz_Tape cs f11 (B + 1) R (tz_cur σ).2.1 o mp ml := hT.fr (fun q h1_ h2_ => (hq12 q (by omega)))
      have kp17 : tz_Hist cs f11 (B + 15) nx σ.2.1 St := hHi.fr (fun q h1_ h2_ => (hq12 q (by omega)))
      have kp18 : tz_Shs cs f11 (B + 157) Sb := hShs.fr (fun q h1_ h2_ => (hq12 q (by omega)))
      have kp19 : tz_PlX cs f11 (B + 169) := hPlX.fr (fun q h1_ h2_ => (hq12 q (by omega)))
      have kp20 : tz_RoX cs f11 (B + 177) := hRoX.fr (fun q h1_ h2_ => (hq12 q (by omega)))
      have e9 : sp_sample σ (nI kr10) i = tz_an σ (tz_at ((R kr10).1) ((R kr10).2) i) := by simp only [sp_sample, hpk10]; rw [if_pos (hlkr10 ▸ h18), ← hakr10]
      rw [e9]
      exact ⟨rfl, ⟨R, o, mp, ml, nx, St, Sb, ⟨hs12, kp16, kp17, kp18, ⟨_, _, ⟨k13, k14⟩, htn⟩, ⟨_, _, k15⟩, kp19, kp20⟩, hag.fr (fun q h9 => (hq12 q (by omega))), hnx, hH.fr (fun q h9 => (hq12 q (by omega))), hQ⟩, (fun q hh => by rw [hq12 q (by omega)])⟩
    · skip
      replace h18 := tz_p0.mp h18
      refine tz_aload_n C_ 0 rfl rfl td_X_sample_21 ?_
      refine tz_ldc C_ tw_273 td_X_sample_22 ?_
      refine tz_cV C_ tmi_X_answer tw_276 tw_0 tw_274 hB0 rfl (As := [.int (-100001)]) (by exact (ct_X_answer (v := -100001) hB0)) rfl (rest := []) rfl (by decide) (Nat.le_of_ble_eq_true rfl) td_X_sample_24 (st1 := [.int (-100001)]) rfl (fun f21 hF21 => ?_)
      obtain ⟨hs22, hq22⟩ := hF21
      refine tz_riret C_ hr_ hk_ hQ_ rfl td_X_sample_27 ?_
      have k23 : f21 (B + 166) = some (tz_obj 9 [.ref (B + 166 + 1), .int (nI tn)]) := ((hq22 _ (by omega)).trans hTu.1)
      have k24 : f21 (B + 166 + 1) = some (tz_ints cs 120 tg) := ((hq22 _ (by omega)).trans hTu.2)
      have k25 : f21 (B + 168) = some (tz_obj 0 [.int zA, .int (nI kA)]) := ((hq22 _ (by omega)).trans hAl)
      have kp26 : tz_Tape cs f21 (B + 1) R (tz_cur σ).2.1 o mp ml := hT.fr (fun q h1_ h2_ => (hq22 q (by omega)))
      have kp27 : tz_Hist cs f21 (B + 15) nx σ.2.1 St := hHi.fr (fun q h1_ h2_ => (hq22 q (by omega)))
      have kp28 : tz_Shs cs f21 (B + 157) Sb := hShs.fr (fun q h1_ h2_ => (hq22 q (by omega)))
      have kp29 : tz_PlX cs f21 (B + 169) := hPlX.fr (fun q h1_ h2_ => (hq22 q (by omega)))
      have kp30 : tz_RoX cs f21 (B + 177) := hRoX.fr (fun q h1_ h2_ => (hq22 q (by omega)))
      have e9 : sp_sample σ (nI kr10) i = tz_an σ (-100001) := by simp only [sp_sample, hpk10]; rw [hlkr10] at h18; rw [if_neg h18]
      rw [e9]
      exact ⟨rfl, ⟨R, o, mp, ml, nx, St, Sb, ⟨hs22, kp26, kp27, kp28, ⟨_, _, ⟨k23, k24⟩, htn⟩, ⟨_, _, k25⟩, kp29, kp30⟩, hag.fr (fun q h9 => (hq22 q (by omega))), hnx, hH.fr (fun q h9 => (hq22 q (by omega))), hQ⟩, (fun q hh => by rw [hq22 q (by omega)])⟩
