abbrev rm_X_drop : Room := { frames := 4, cells := 0, slots := 0, locals := 85 }
set_option maxHeartbeats 4000000 in
set_option maxRecDepth 100000 in
theorem ct_X_drop {l : Launch} {A : Nat → Prop} {D : va_G} {cs : Nat → ClassId} {sz : Nat} {f : tz_PH} {B L0 : Nat} {σ : tz_SG} (hX : tz_AX cs L0 f B σ) (hW : tz_WF σ) (hB : B + 179 ≤ L0) {i : Int32} : tz_CN l tyX_drop prog_1_method_15_code 2 (some (.int)) rm_X_drop 0 0 A D cs sz [.ref B, .int i] f (some (.int (sp_drop σ i).1)) (fun f' => tz_AX cs L0 f' B (sp_drop σ i).2 ∧ ∀ q, (q < B ∨ B + 179 ≤ q) → f' q = f q) := by
  refine tz_C.ofB (lv0 := [(0, .ref B), (1, .int i)]) (plainFor_of_name (by decide)) (Nat.le_of_ble_eq_true rfl) rfl ?_
  intro p_ e_ s_ m_ ar_ be_ me_ c_ Q_ C_ hr_ hk_ hnm_ hz_ hQ_
  obtain ⟨R, o, mp, ml, nx, St, Sb, hXB, hag, hnx, hH, hQ⟩ := hX
  obtain ⟨hB0, hT, hHi, hShs, hTuX, hAlX, hPlX, hRoX⟩ := hXB
  have hTu9 := hTuX
  obtain ⟨tn, tg, hTu, htn⟩ := hTu9
  have hAl9 := hAlX
  obtain ⟨zA, kA, hAl⟩ := hAl9
  have hPl9 := hPlX
  obtain ⟨pr, px, pfo, pz, pk, ptn, ptg, pn, pg, pn2, pg2, hPl, hpn, hptn⟩ := hPl9
  have hRo9 := hRoX
  obtain ⟨jn, jg, hRo, hjn⟩ := hRo9
  have hrx := hPl.2.2.2.2.2
  have hRn : ∀ p, p < 4 → (R p).1 ≤ 120 := fun p hp => by rw [(hag.1 p hp).1]; exact (hW.cur.1 p hp).1
  have hnl : (tz_cur σ).2.1 ≤ 8 := hW.cur.2.1
  have hkp : σ.2.1 ≤ 20 := hW.1
  have hSn : ∀ s, s < 4 → (Sb s).2.1 ≤ 120 := fun s hs => by rw [(hQ s hs).2.1]; exact (hW.2.2 s hs).1
  refine tz_aload_n C_ 0 rfl rfl td_X_drop_0 ?_
  refine tz_get C_ tci_X 0 (by decide) tw_240 hB0 rfl td_X_drop_1 ?_
  refine tz_get C_ tci_T 1 (by decide) tw_108 hT.1 rfl td_X_drop_4 ?_
  refine tz_iload_n C_ 1 rfl rfl td_X_drop_7 ?_
  refine tz_rV C_ tmi_S_at tw_522 tw_523 tw_521 hT.2.2.1.1 rfl (As := [.int i]) (by exact (ct_S_at (n := (tz_cur σ).2.1) (o := o) ⟨hT.2.2.1.1, hT.2.2.1.2⟩ (by omega))) rfl (rest := []) rfl (by decide) (Nat.le_of_ble_eq_true rfl) td_X_drop_8 (st1 := [va_rf (tz_oat ((tz_cur σ).2.1) o i)]) rfl ?_
  refine tz_ifnonnull C_ td_X_drop_11 (fun q11 h11 => ?_) (fun h11 => ?_)
  · skip
    obtain ⟨kl11, hkl11, ekl11, hokl11⟩ := tz_oat_some hnl h11
    try rw [h11]
    subst ekl11
    have hlk11 := tz_lk_N (s := σ) hkl11 hnl
    obtain ⟨bkl11, hbkl11, hLkl11, hvkl11⟩ := hag.2.1 kl11 hkl11
    have ebkl11 : bkl11 = q11 := Option.some.inj (hbkl11.symm.trans hokl11)
    rw [ebkl11] at hvkl11 hLkl11
    have honkl11 := (hW.cur.2.2.1 kl11 hkl11).2
    refine tz_aload_n C_ 0 rfl rfl td_X_drop_21 ?_
    refine tz_get C_ tci_X 1 (by decide) tw_241 hB0 rfl td_X_drop_22 ?_
    refine tz_aload_n C_ 0 rfl rfl td_X_drop_25 ?_
    refine tz_get C_ tci_X 0 (by decide) tw_240 hB0 rfl td_X_drop_26 ?_
    refine tz_iconst C_ (v := -1) (by decide) td_X_drop_29 ?_
    refine tz_cV C_ tmi_H_keep tw_280 tw_281 tw_279 hHi.1 rfl (As := [.ref (B + 1), .int (-1)]) (by exact (ct_H_keep hHi hnx hkp hT (by omega) (hag.2.2.1.fr (fun q h9 => rfl)) (by omega))) rfl (rest := []) rfl (by decide) (Nat.le_of_ble_eq_true rfl) td_X_drop_30 (st1 := []) rfl (fun f1 hF1 => ?_)
    obtain ⟨⟨sK, hSK, hpK, hhK⟩, hqK⟩ := hF1
    refine tz_aload_n C_ 0 rfl rfl td_X_drop_33 ?_
    have k2 : f1 B = some (tz_obj 10 [.ref (B + 1), .ref (B + 15), .ref (B + 157), .ref (B + 166), .ref (B + 168), .ref (B + 169), .ref (B + 177), .int σ.2.2.2]) := ((hqK _ (by omega)).trans hB0)
    refine tz_get C_ tci_X 0 (by decide) tw_240 k2 rfl td_X_drop_34 ?_
    have k3 : f1 (B + 1) = some (tz_obj 8 [.ref (B + 1 + 1), .ref (B + 1 + 2), .ref (B + 1 + 4), .ref (B + 1 + 5)]) := ((hqK _ (by omega)).trans hT.1)
    refine tz_get C_ tci_T 1 (by decide) tw_108 k3 rfl td_X_drop_37 ?_
    refine tz_iload_n C_ 1 rfl rfl td_X_drop_40 ?_
    have k4 : f1 (B + 1 + 2) = some (tz_obj 3 [.ref (B + 1 + 2 + 1), .int (nI (tz_cur σ).2.1)]) := ((hqK _ (by omega)).trans hT.2.2.1.1)
    have k5 : f1 (B + 1 + 2 + 1) = some (tz_refs cs 4 8 o) := ((hqK _ (by omega)).trans hT.2.2.1.2)
    refine tz_cV C_ tmi_S_remove tw_535 tw_536 tw_534 k4 rfl (As := [.int (nI kl11)]) (by exact (ct_S_remove (n := (tz_cur σ).2.1) (o := o) (t := kl11) ⟨k4, k5⟩ (by omega) (by omega) (hag.2.2.1.fr (fun q h9 => (hqK q (by omega)))) (by omega) hokl11)) rfl (rest := []) rfl (by decide) (Nat.le_of_ble_eq_true rfl) td_X_drop_41 (st1 := []) rfl (fun f6 hF6 => ?_)
    obtain ⟨hP7, hq7⟩ := hF6
    refine tz_aload_n C_ 0 rfl rfl td_X_drop_44 ?_
    have k8 : f6 B = some (tz_obj 10 [.ref (B + 1), .ref (B + 15), .ref (B + 157), .ref (B + 166), .ref (B + 168), .ref (B + 169), .ref (B + 177), .int σ.2.2.2]) := ((hq7 _ (by omega)).trans k2)
    refine tz_get C_ tci_X 0 (by decide) tw_240 k8 rfl td_X_drop_45 ?_
    have k9 : f6 (B + 1) = some (tz_obj 8 [.ref (B + 1 + 1), .ref (B + 1 + 2), .ref (B + 1 + 4), .ref (B + 1 + 5)]) := ((hq7 _ (by omega)).trans k3)
    refine tz_get C_ tci_T 1 (by decide) tw_108 k9 rfl td_X_drop_48 ?_
    refine tz_rV C_ tmi_S_inAll tw_478 tw_479 tw_477 hP7.1 rfl (As := []) (by exact (ct_S_inAll (n := ((tz_cur σ).2.1 - 1)) (o := tz_remj o kl11 ((tz_cur σ).2.1 - 1)) ⟨hP7.1, hP7.2⟩)) rfl (rest := []) rfl (by decide) (Nat.le_of_ble_eq_true rfl) td_X_drop_51 (st1 := [.int (nI (((tz_cur σ).2.1 - 1)))]) rfl ?_
    refine tz_riret C_ hr_ hk_ hQ_ rfl td_X_drop_54 ?_
    have k10 : f6 (B + 166) = some (tz_obj 9 [.ref (B + 166 + 1), .int (nI tn)]) := ((hq7 _ (by omega)).trans ((hqK _ (by omega)).trans hTu.1))
    have k11 : f6 (B + 166 + 1) = some (tz_ints cs 120 tg) := ((hq7 _ (by omega)).trans ((hqK _ (by omega)).trans hTu.2))
    have k12 : f6 (B + 168) = some (tz_obj 0 [.int zA, .int (nI kA)]) := ((hq7 _ (by omega)).trans ((hqK _ (by omega)).trans hAl))
    have kp13 : tz_Hist cs f6 (B + 15) ((nx + 1) % 20) (min (σ.2.1 + 1) 20) (va_up St nx sK) := hSK.fr (fun q h1_ h2_ => (hq7 q (by omega)))
    have kp14 : tz_Shs cs f6 (B + 157) Sb := hShs.fr (fun q h1_ h2_ => ((hq7 q (by omega)).trans (hqK q (by omega))))
    have kp15 : tz_PlX cs f6 (B + 169) := hPlX.fr (fun q h1_ h2_ => ((hq7 q (by omega)).trans (hqK q (by omega))))
    have kp16 : tz_RoX cs f6 (B + 177) := hRoX.fr (fun q h1_ h2_ => ((hq7 q (by omega)).trans (hqK q (by omega))))
    have e9 : sp_drop σ (nI kl11) = (nI (((tz_cur σ).2.1 - 1)), tz_act σ (tz_sl (tz_cur σ) (tz_nlr σ - 1) (tz_rml (tz_lyr σ) kl11 (tz_nlr σ)))) := by simp only [sp_drop, hlk11]
    rw [e9]
    exact ⟨rfl, tz_AX_N (s7 := sK) (t' := tz_sl (tz_cur σ) (tz_nlr σ - 1) (tz_rml (tz_lyr σ) kl11 (tz_nlr σ))) hW hag hnx hH hQ hpK hhK (fun q h9 h8 => ((hq7 q (by omega)).trans (hqK q (by omega)))) k8 (hT.lay ⟨hP7.1, hP7.2⟩ (fun q hh => by rw [hq7 q (by omega), hqK q (by omega)])) kp13 kp14 ⟨_, _, ⟨k10, k11⟩, htn⟩ ⟨_, _, k12⟩ kp15 kp16 rfl ((hag.2.1.rem (a := kl11)).fr (fun q h9 => ((hq7 q (by omega)).trans (hqK q (by omega))))) ((hag.2.2.1.rem hnl).fr (fun q h9 => ((hq7 q (by omega)).trans (hqK q (by omega))))) hag.2.2.2.1 hag.2.2.2.2, (fun q hh => by rw [hq7 q (by omega), hqK q (by omega)])⟩
  · skip
    try rw [h11]
    have hlk11 := tz_lk_none (s := σ) hnl hag.2.1 h11
    refine tz_aload_n C_ 0 rfl rfl td_X_drop_14 ?_
    refine tz_ldc C_ tw_273 td_X_drop_15 ?_
    refine tz_cV C_ tmi_X_answer tw_276 tw_0 tw_274 hB0 rfl (As := [.int (-100001)]) (by exact (ct_X_answer (v := -100001) hB0)) rfl (rest := []) rfl (by decide) (Nat.le_of_ble_eq_true rfl) td_X_drop_17 (st1 := [.int (-100001)]) rfl (fun f17 hF17 => ?_)
    obtain ⟨hs18, hq18⟩ := hF17
    refine tz_riret C_ hr_ hk_ hQ_ rfl td_X_drop_20 ?_
    have k19 : f17 (B + 166) = some (tz_obj 9 [.ref (B + 166 + 1), .int (nI tn)]) := ((hq18 _ (by omega)).trans hTu.1)
    have k20 : f17 (B + 166 + 1) = some (tz_ints cs 120 tg) := ((hq18 _ (by omega)).trans hTu.2)
    have k21 : f17 (B + 168) = some (tz_obj 0 [.int zA, .int (nI kA)]) := ((hq18 _ (by omega)).trans hAl)
    have kp22 : tz_Tape cs f17 (B + 1) R (tz_cur σ).2.1 o mp ml := hT.fr (fun q h1_ h2_ => (hq18 q (by omega)))
    have kp23 : tz_Hist cs f17 (B + 15) nx σ.2.1 St := hHi.fr (fun q h1_ h2_ => (hq18 q (by omega)))
    have kp24 : tz_Shs cs f17 (B + 157) Sb := hShs.fr (fun q h1_ h2_ => (hq18 q (by omega)))
    have kp25 : tz_PlX cs f17 (B + 169) := hPlX.fr (fun q h1_ h2_ => (hq18 q (by omega)))
    have kp26 : tz_RoX cs f17 (B + 177) := hRoX.fr (fun q h1_ h2_ => (hq18 q (by omega)))
    have e9 : sp_drop σ i = tz_an σ (-100001) := by simp only [sp_drop, hlk11]
    rw [e9]
    exact ⟨rfl, ⟨R, o, mp, ml, nx, St, Sb, ⟨hs18, kp22, kp23, kp24, ⟨_, _, ⟨k19, k20⟩, htn⟩, ⟨_, _, k21⟩, kp25, kp26⟩, hag.fr (fun q h9 => (hq18 q (by omega))), hnx, hH.fr (fun q h9 => (hq18 q (by omega))), hQ⟩, (fun q hh => by rw [hq18 q (by omega)])⟩

abbrev rm_X_move : Room := { frames := 4, cells := 0, slots := 0, locals := 85 }
set_option maxHeartbeats 4000000 in
set_option maxRecDepth 100000 in
theorem ct_X_move {l : Launch} {A : Nat → Prop} {D : va_G} {cs : Nat → ClassId} {sz : Nat} {f : tz_PH} {B L0 : Nat} {σ : tz_SG} (hX : tz_AX cs L0 f B σ) (hW : tz_WF σ) (hB : B + 179 ≤ L0) {i j : Int32} : tz_CN l tyX_move prog_1_method_14_code 4 (some (.int)) rm_X_move 0 0 A D cs sz [.ref B, .int i, .int j] f (some (.int (sp_move σ i j).1)) (fun f' => tz_AX cs L0 f' B (sp_move σ i j).2 ∧ ∀ q, (q < B ∨ B + 179 ≤ q) → f' q = f q) := by
  refine tz_C.ofB (lv0 := [(0, .ref B), (1, .int i), (2, .int j)]) (plainFor_of_name (by decide)) (Nat.le_of_ble_eq_true rfl) rfl ?_
  intro p_ e_ s_ m_ ar_ be_ me_ c_ Q_ C_ hr_ hk_ hnm_ hz_ hQ_
  obtain ⟨R, o, mp, ml, nx, St, Sb, hXB, hag, hnx, hH, hQ⟩ := hX
  obtain ⟨hB0, hT, hHi, hShs, hTuX, hAlX, hPlX, hRoX⟩ := hXB
  have hTu9 := hTuX
  obtain ⟨tn, tg, hTu, htn⟩ := hTu9
  have hAl9 := hAlX
  obtain ⟨zA, kA, hAl⟩ := hAl9
  have hPl9 := hPlX
  obtain ⟨pr, px, pfo, pz, pk, ptn, ptg, pn, pg, pn2, pg2, hPl, hpn, hptn⟩ := hPl9
  have hRo9 := hRoX
  obtain ⟨jn, jg, hRo, hjn⟩ := hRo9
  have hrx := hPl.2.2.2.2.2
  have hRn : ∀ p, p < 4 → (R p).1 ≤ 120 := fun p hp => by rw [(hag.1 p hp).1]; exact (hW.cur.1 p hp).1
  have hnl : (tz_cur σ).2.1 ≤ 8 := hW.cur.2.1
  have hkp : σ.2.1 ≤ 20 := hW.1
  have hSn : ∀ s, s < 4 → (Sb s).2.1 ≤ 120 := fun s hs => by rw [(hQ s hs).2.1]; exact (hW.2.2 s hs).1
  refine tz_aload_n C_ 0 rfl rfl td_X_move_0 ?_
  refine tz_get C_ tci_X 0 (by decide) tw_240 hB0 rfl td_X_move_1 ?_
  refine tz_get C_ tci_T 1 (by decide) tw_108 hT.1 rfl td_X_move_4 ?_
  refine tz_iload_n C_ 1 rfl rfl td_X_move_7 ?_
  refine tz_rV C_ tmi_S_at tw_522 tw_523 tw_521 hT.2.2.1.1 rfl (As := [.int i]) (by exact (ct_S_at (n := (tz_cur σ).2.1) (o := o) ⟨hT.2.2.1.1, hT.2.2.1.2⟩ (by omega))) rfl (rest := []) rfl (by decide) (Nat.le_of_ble_eq_true rfl) td_X_move_8 (st1 := [va_rf (tz_oat ((tz_cur σ).2.1) o i)]) rfl ?_
  refine tz_astore_nQ C_ (lv' := [(0, .ref B), (1, .int i), (2, .int j), (3, va_rf (tz_oat ((tz_cur σ).2.1) o i))]) [1, 2, 3, 0] rfl (by decide) rfl td_X_move_11 ?_
  refine tz_aload_nQ C_ 3 rfl rfl td_X_move_12 ?_
  refine tz_ifnull C_ td_X_move_13 (fun h13 => ?_) (fun q13 h13 => ?_)
  · skip
    try rw [h13]
    have hlk13 := tz_lk_none (s := σ) hnl hag.2.1 h13
    refine tz_aload_n C_ 0 rfl rfl td_X_move_30 ?_
    refine tz_ldc C_ tw_273 td_X_move_31 ?_
    refine tz_cV C_ tmi_X_answer tw_276 tw_0 tw_274 hB0 rfl (As := [.int (-100001)]) (by exact (ct_X_answer (v := -100001) hB0)) rfl (rest := []) rfl (by decide) (Nat.le_of_ble_eq_true rfl) td_X_move_33 (st1 := [.int (-100001)]) rfl (fun f1 hF1 => ?_)
    obtain ⟨hs2, hq2⟩ := hF1
    refine tz_riret C_ hr_ hk_ hQ_ rfl td_X_move_36 ?_
    have k3 : f1 (B + 166) = some (tz_obj 9 [.ref (B + 166 + 1), .int (nI tn)]) := ((hq2 _ (by omega)).trans hTu.1)
    have k4 : f1 (B + 166 + 1) = some (tz_ints cs 120 tg) := ((hq2 _ (by omega)).trans hTu.2)
    have k5 : f1 (B + 168) = some (tz_obj 0 [.int zA, .int (nI kA)]) := ((hq2 _ (by omega)).trans hAl)
    have kp6 : tz_Tape cs f1 (B + 1) R (tz_cur σ).2.1 o mp ml := hT.fr (fun q h1_ h2_ => (hq2 q (by omega)))
    have kp7 : tz_Hist cs f1 (B + 15) nx σ.2.1 St := hHi.fr (fun q h1_ h2_ => (hq2 q (by omega)))
    have kp8 : tz_Shs cs f1 (B + 157) Sb := hShs.fr (fun q h1_ h2_ => (hq2 q (by omega)))
    have kp9 : tz_PlX cs f1 (B + 169) := hPlX.fr (fun q h1_ h2_ => (hq2 q (by omega)))
    have kp10 : tz_RoX cs f1 (B + 177) := hRoX.fr (fun q h1_ h2_ => (hq2 q (by omega)))
    have e9 : sp_move σ i j = tz_an σ (-100001) := by simp only [sp_move, hlk13]
    rw [e9]
    exact ⟨rfl, ⟨R, o, mp, ml, nx, St, Sb, ⟨hs2, kp6, kp7, kp8, ⟨_, _, ⟨k3, k4⟩, htn⟩, ⟨_, _, k5⟩, kp9, kp10⟩, hag.fr (fun q h9 => (hq2 q (by omega))), hnx, hH.fr (fun q h9 => (hq2 q (by omega))), hQ⟩, (fun q hh => by rw [hq2 q (by omega)])⟩
  · skip
    obtain ⟨kl13, hkl13, ekl13, hokl13⟩ := tz_oat_some hnl h13
    try rw [h13]
    subst ekl13
    have hlk13 := tz_lk_N (s := σ) hkl13 hnl
    obtain ⟨bkl13, hbkl13, hLkl13, hvkl13⟩ := hag.2.1 kl13 hkl13
    have ebkl13 : bkl13 = q13 := Option.some.inj (hbkl13.symm.trans hokl13)
    rw [ebkl13] at hvkl13 hLkl13
    have honkl13 := (hW.cur.2.2.1 kl13 hkl13).2
    refine tz_aload_n C_ 0 rfl rfl td_X_move_16 ?_
    refine tz_get C_ tci_X 0 (by decide) tw_240 hB0 rfl td_X_move_17 ?_
    refine tz_get C_ tci_T 1 (by decide) tw_108 hT.1 rfl td_X_move_20 ?_
    refine tz_iload_n C_ 2 rfl rfl td_X_move_23 ?_
    refine tz_rV C_ tmi_S_at tw_522 tw_523 tw_521 hT.2.2.1.1 rfl (As := [.int j]) (by exact (ct_S_at (n := (tz_cur σ).2.1) (o := o) ⟨hT.2.2.1.1, hT.2.2.1.2⟩ (by omega))) rfl (rest := []) rfl (by decide) (Nat.le_of_ble_eq_true rfl) td_X_move_24 (st1 := [va_rf (tz_oat ((tz_cur σ).2.1) o j)]) rfl ?_
    refine tz_ifnonnull C_ td_X_move_27 (fun q27 h27 => ?_) (fun h27 => ?_)
    · skip
      obtain ⟨kl27, hkl27, ekl27, hokl27⟩ := tz_oat_some hnl h27
      try rw [h27]
      subst ekl27
      have hlk27 := tz_lk_N (s := σ) hkl27 hnl
      obtain ⟨bkl27, hbkl27, hLkl27, hvkl27⟩ := hag.2.1 kl27 hkl27
      have ebkl27 : bkl27 = q27 := Option.some.inj (hbkl27.symm.trans hokl27)
      rw [ebkl27] at hvkl27 hLkl27
      have honkl27 := (hW.cur.2.2.1 kl27 hkl27).2
      refine tz_aload_n C_ 0 rfl rfl td_X_move_37 ?_
      refine tz_get C_ tci_X 1 (by decide) tw_241 hB0 rfl td_X_move_38 ?_
      refine tz_aload_n C_ 0 rfl rfl td_X_move_41 ?_
      refine tz_get C_ tci_X 0 (by decide) tw_240 hB0 rfl td_X_move_42 ?_
      refine tz_iconst C_ (v := -1) (by decide) td_X_move_45 ?_
      refine tz_cV C_ tmi_H_keep tw_280 tw_281 tw_279 hHi.1 rfl (As := [.ref (B + 1), .int (-1)]) (by exact (ct_H_keep hHi hnx hkp hT (by omega) (hag.2.2.1.fr (fun q h9 => rfl)) (by omega))) rfl (rest := []) rfl (by decide) (Nat.le_of_ble_eq_true rfl) td_X_move_46 (st1 := []) rfl (fun f11 hF11 => ?_)
      obtain ⟨⟨sK, hSK, hpK, hhK⟩, hqK⟩ := hF11
      refine tz_aload_n C_ 0 rfl rfl td_X_move_49 ?_
      have k12 : f11 B = some (tz_obj 10 [.ref (B + 1), .ref (B + 15), .ref (B + 157), .ref (B + 166), .ref (B + 168), .ref (B + 169), .ref (B + 177), .int σ.2.2.2]) := ((hqK _ (by omega)).trans hB0)
      refine tz_get C_ tci_X 0 (by decide) tw_240 k12 rfl td_X_move_50 ?_
      have k13 : f11 (B + 1) = some (tz_obj 8 [.ref (B + 1 + 1), .ref (B + 1 + 2), .ref (B + 1 + 4), .ref (B + 1 + 5)]) := ((hqK _ (by omega)).trans hT.1)
      refine tz_get C_ tci_T 1 (by decide) tw_108 k13 rfl td_X_move_53 ?_
      refine tz_iload_n C_ 1 rfl rfl td_X_move_56 ?_
      have k14 : f11 (B + 1 + 2) = some (tz_obj 3 [.ref (B + 1 + 2 + 1), .int (nI (tz_cur σ).2.1)]) := ((hqK _ (by omega)).trans hT.2.2.1.1)
      have k15 : f11 (B + 1 + 2 + 1) = some (tz_refs cs 4 8 o) := ((hqK _ (by omega)).trans hT.2.2.1.2)
      refine tz_cV C_ tmi_S_remove tw_535 tw_536 tw_534 k14 rfl (As := [.int (nI kl13)]) (by exact (ct_S_remove (n := (tz_cur σ).2.1) (o := o) (t := kl13) ⟨k14, k15⟩ (by omega) (by omega) (hag.2.2.1.fr (fun q h9 => (hqK q (by omega)))) (by omega) hokl13)) rfl (rest := []) rfl (by decide) (Nat.le_of_ble_eq_true rfl) td_X_move_57 (st1 := []) rfl (fun f16 hF16 => ?_)
      obtain ⟨hP17, hq17⟩ := hF16
      refine tz_aload_n C_ 0 rfl rfl td_X_move_60 ?_
      have k18 : f16 B = some (tz_obj 10 [.ref (B + 1), .ref (B + 15), .ref (B + 157), .ref (B + 166), .ref (B + 168), .ref (B + 169), .ref (B + 177), .int σ.2.2.2]) := ((hq17 _ (by omega)).trans k12)
      refine tz_get C_ tci_X 0 (by decide) tw_240 k18 rfl td_X_move_61 ?_
      have k19 : f16 (B + 1) = some (tz_obj 8 [.ref (B + 1 + 1), .ref (B + 1 + 2), .ref (B + 1 + 4), .ref (B + 1 + 5)]) := ((hq17 _ (by omega)).trans k13)
      refine tz_get C_ tci_T 1 (by decide) tw_108 k19 rfl td_X_move_64 ?_
      refine tz_iload_n C_ 2 rfl rfl td_X_move_67 ?_
      refine tz_aload_n C_ 3 rfl rfl td_X_move_68 ?_
      have k20 : f16 q13 = some (tz_obj 2 [.int ((tz_lyr σ kl13).1), .int ((tz_lyr σ kl13).2.1), .int ((tz_lyr σ kl13).2.2.1), .int ((tz_lyr σ kl13).2.2.2)]) := ((hq17 _ (by omega)).trans ((hqK _ (by omega)).trans hvkl13))
      refine tz_cV C_ tmi_S_insert tw_514 tw_515 tw_513 hP17.1 rfl (As := [.int (nI kl27), .ref q13]) (by exact (ct_S_insert (n := ((tz_cur σ).2.1 - 1)) (o := tz_remj o kl13 ((tz_cur σ).2.1 - 1)) (t := kl27) ⟨hP17.1, hP17.2⟩ (by omega) (by omega) ((hag.2.2.1.rem (a := kl13) hnl).fr (fun q h9 => ((hq17 q (by omega)).trans (hqK q (by omega))))) (by omega) (by omega) k20)) rfl (rest := []) rfl (by decide) (Nat.le_of_ble_eq_true rfl) td_X_move_69 (st1 := []) rfl (fun f21 hF21 => ?_)
      obtain ⟨hP22, hq22⟩ := hF21
      refine tz_iconst C_ (v := 1) (by decide) td_X_move_72 ?_
      refine tz_riret C_ hr_ hk_ hQ_ rfl td_X_move_73 ?_
      have k23 : f21 (B + 166) = some (tz_obj 9 [.ref (B + 166 + 1), .int (nI tn)]) := ((hq22 _ (by omega)).trans ((hq17 _ (by omega)).trans ((hqK _ (by omega)).trans hTu.1)))
      have k24 : f21 (B + 166 + 1) = some (tz_ints cs 120 tg) := ((hq22 _ (by omega)).trans ((hq17 _ (by omega)).trans ((hqK _ (by omega)).trans hTu.2)))
      have k25 : f21 (B + 168) = some (tz_obj 0 [.int zA, .int (nI kA)]) := ((hq22 _ (by omega)).trans ((hq17 _ (by omega)).trans ((hqK _ (by omega)).trans hAl)))
      have k26 : f21 B = some (tz_obj 10 [.ref (B + 1), .ref (B + 15), .ref (B + 157), .ref (B + 166), .ref (B + 168), .ref (B + 169), .ref (B + 177), .int σ.2.2.2]) := ((hq22 _ (by omega)).trans k18)
      have k27 : f21 q13 = some (tz_obj 2 [.int ((tz_lyr σ kl13).1), .int ((tz_lyr σ kl13).2.1), .int ((tz_lyr σ kl13).2.2.1), .int ((tz_lyr σ kl13).2.2.2)]) := ((hq22 _ (by omega)).trans k20)
      have kp28 : tz_Hist cs f21 (B + 15) ((nx + 1) % 20) (min (σ.2.1 + 1) 20) (va_up St nx sK) := hSK.fr (fun q h1_ h2_ => ((hq22 q (by omega)).trans (hq17 q (by omega))))
      have kp29 : tz_Shs cs f21 (B + 157) Sb := hShs.fr (fun q h1_ h2_ => ((hq22 q (by omega)).trans ((hq17 q (by omega)).trans (hqK q (by omega)))))
      have kp30 : tz_PlX cs f21 (B + 169) := hPlX.fr (fun q h1_ h2_ => ((hq22 q (by omega)).trans ((hq17 q (by omega)).trans (hqK q (by omega)))))
      have kp31 : tz_RoX cs f21 (B + 177) := hRoX.fr (fun q h1_ h2_ => ((hq22 q (by omega)).trans ((hq17 q (by omega)).trans (hqK q (by omega)))))
      have hLy9 : tz_Ly cs f21 (B + 1 + 2) (tz_cur σ).2.1 (tz_ins (tz_remj o kl13 ((tz_cur σ).2.1 - 1)) ((tz_cur σ).2.1 - 1) kl27 q13) := by
        have h9 : tz_Ly cs f21 (B + 1 + 2) ((tz_cur σ).2.1 - 1 + 1) (tz_ins (tz_remj o kl13 ((tz_cur σ).2.1 - 1)) ((tz_cur σ).2.1 - 1) kl27 q13) := ⟨hP22.1, hP22.2⟩
        rw [Nat.sub_add_cancel (by omega)] at h9
        exact h9
      have hLv9 : tz_Lv L0 f21 (tz_ins (tz_remj o kl13 ((tz_cur σ).2.1 - 1)) ((tz_cur σ).2.1 - 1) kl27 q13) (tz_cur σ).2.1 (tz_inl (tz_rml (tz_lyr σ) kl13 (tz_nlr σ)) (tz_nlr σ - 1) kl27 (tz_lyr σ kl13)) := by
        have h9 := tz_Lv.ins (t := kl27) ((hag.2.1.rem (a := kl13)).fr (fun q h9 => ((hq22 q (by omega)).trans ((hq17 q (by omega)).trans (hqK q (by omega)))))) (by omega) hLkl13 k27
        rw [Nat.sub_add_cancel (by omega)] at h9
        exact h9
      have e9 : sp_move σ (nI kl13) (nI kl27) = (1, tz_act σ (tz_sl (tz_cur σ) (tz_nlr σ) (tz_inl (tz_rml (tz_lyr σ) kl13 (tz_nlr σ)) (tz_nlr σ - 1) kl27 (tz_lyr σ kl13)))) := by simp only [sp_move, hlk13, hlk27]
      rw [e9]
      exact ⟨rfl, tz_AX_N (s7 := sK) (t' := tz_sl (tz_cur σ) (tz_nlr σ) (tz_inl (tz_rml (tz_lyr σ) kl13 (tz_nlr σ)) (tz_nlr σ - 1) kl27 (tz_lyr σ kl13))) hW hag hnx hH hQ hpK hhK (fun q h9 h8 => ((hq22 q (by omega)).trans ((hq17 q (by omega)).trans (hqK q (by omega))))) k26 (hT.lay hLy9 (fun q hh => by rw [hq22 q (by omega), hq17 q (by omega), hqK q (by omega)])) kp28 kp29 ⟨_, _, ⟨k23, k24⟩, htn⟩ ⟨_, _, k25⟩ kp30 kp31 rfl hLv9 (((hag.2.2.1.rem (a := kl13) hnl).fr (fun q h9 => ((hq22 q (by omega)).trans ((hq17 q (by omega)).trans (hqK q (by omega)))))).ins (t := kl27) hLkl13 k27) hag.2.2.2.1 hag.2.2.2.2, (fun q hh => by rw [hq22 q (by omega), hq17 q (by omega), hqK q (by omega)])⟩
    · skip
      try rw [h27]
      have hlk27 := tz_lk_none (s := σ) hnl hag.2.1 h27
      refine tz_aload_n C_ 0 rfl rfl td_X_move_30 ?_
      refine tz_ldc C_ tw_273 td_X_move_31 ?_
      refine tz_cV C_ tmi_X_answer tw_276 tw_0 tw_274 hB0 rfl (As := [.int (-100001)]) (by exact (ct_X_answer (v := -100001) hB0)) rfl (rest := []) rfl (by decide) (Nat.le_of_ble_eq_true rfl) td_X_move_33 (st1 := [.int (-100001)]) rfl (fun f32 hF32 => ?_)
      obtain ⟨hs33, hq33⟩ := hF32
      refine tz_riret C_ hr_ hk_ hQ_ rfl td_X_move_36 ?_
      have k34 : f32 (B + 166) = some (tz_obj 9 [.ref (B + 166 + 1), .int (nI tn)]) := ((hq33 _ (by omega)).trans hTu.1)
      have k35 : f32 (B + 166 + 1) = some (tz_ints cs 120 tg) := ((hq33 _ (by omega)).trans hTu.2)
      have k36 : f32 (B + 168) = some (tz_obj 0 [.int zA, .int (nI kA)]) := ((hq33 _ (by omega)).trans hAl)
      have kp37 : tz_Tape cs f32 (B + 1) R (tz_cur σ).2.1 o mp ml := hT.fr (fun q h1_ h2_ => (hq33 q (by omega)))
      have kp38 : tz_Hist cs f32 (B + 15) nx σ.2.1 St := hHi.fr (fun q h1_ h2_ => (hq33 q (by omega)))
      have kp39 : tz_Shs cs f32 (B + 157) Sb := hShs.fr (fun q h1_ h2_ => (hq33 q (by omega)))
      have kp40 : tz_PlX cs f32 (B + 169) := hPlX.fr (fun q h1_ h2_ => (hq33 q (by omega)))
      have kp41 : tz_RoX cs f32 (B + 177) := hRoX.fr (fun q h1_ h2_ => (hq33 q (by omega)))
      have e9 : sp_move σ (nI kl13) j = tz_an σ (-100001) := by simp only [sp_move, hlk13, hlk27]
      rw [e9]
      exact ⟨rfl, ⟨R, o, mp, ml, nx, St, Sb, ⟨hs33, kp37, kp38, kp39, ⟨_, _, ⟨k34, k35⟩, htn⟩, ⟨_, _, k36⟩, kp40, kp41⟩, hag.fr (fun q h9 => (hq33 q (by omega))), hnx, hH.fr (fun q h9 => (hq33 q (by omega))), hQ⟩, (fun q hh => by rw [hq33 q (by omega)])⟩


theorem tz_up_id {lay : Nat → tz_V4} {k : Nat} {on : Int32} (h : (lay k).2.2.2 = on) : va_up lay k ((lay k).1, (lay k).2.1, (lay k).2.2.1, on) = lay := by
  funext j
  unfold va_up
  split
  · rename_i e
    subst e; subst h
    rfl
  · rfl

abbrev rm_X_turnOn : Room := { frames := 4, cells := 0, slots := 0, locals := 85 }
set_option maxHeartbeats 4000000 in
set_option maxRecDepth 100000 in
theorem ct_X_turnOn {l : Launch} {A : Nat → Prop} {D : va_G} {cs : Nat → ClassId} {sz : Nat} {f : tz_PH} {B L0 : Nat} {σ : tz_SG} (hX : tz_AX cs L0 f B σ) (hW : tz_WF σ) (hB : B + 179 ≤ L0) {i on : Int32} (hz : ∀ k, tz_lk σ i = some k → (tz_lyr σ k).2.2.2 = on) : tz_CN l tyX_turnOn prog_1_method_13_code 4 (some (.int)) rm_X_turnOn 0 0 A D cs sz [.ref B, .int i, .int on] f (some (.int (sp_turnOn σ i on).1)) (fun f' => tz_AX cs L0 f' B (sp_turnOn σ i on).2 ∧ ∀ q, (q < B ∨ B + 179 ≤ q) → f' q = f q) := by
  refine tz_C.ofB (lv0 := [(0, .ref B), (1, .int i), (2, .int on)]) (plainFor_of_name (by decide)) (Nat.le_of_ble_eq_true rfl) rfl ?_
  intro p_ e_ s_ m_ ar_ be_ me_ c_ Q_ C_ hr_ hk_ hnm_ hz_ hQ_
  obtain ⟨R, o, mp, ml, nx, St, Sb, hXB, hag, hnx, hH, hQ⟩ := hX
  obtain ⟨hB0, hT, hHi, hShs, hTuX, hAlX, hPlX, hRoX⟩ := hXB
  have hTu9 := hTuX
  obtain ⟨tn, tg, hTu, htn⟩ := hTu9
  have hAl9 := hAlX
  obtain ⟨zA, kA, hAl⟩ := hAl9
  have hPl9 := hPlX
  obtain ⟨pr, px, pfo, pz, pk, ptn, ptg, pn, pg, pn2, pg2, hPl, hpn, hptn⟩ := hPl9
  have hRo9 := hRoX
  obtain ⟨jn, jg, hRo, hjn⟩ := hRo9
  have hrx := hPl.2.2.2.2.2
  have hRn : ∀ p, p < 4 → (R p).1 ≤ 120 := fun p hp => by rw [(hag.1 p hp).1]; exact (hW.cur.1 p hp).1
  have hnl : (tz_cur σ).2.1 ≤ 8 := hW.cur.2.1
  have hkp : σ.2.1 ≤ 20 := hW.1
  have hSn : ∀ s, s < 4 → (Sb s).2.1 ≤ 120 := fun s hs => by rw [(hQ s hs).2.1]; exact (hW.2.2 s hs).1
  refine tz_aload_n C_ 0 rfl rfl td_X_turnOn_0 ?_
  refine tz_get C_ tci_X 0 (by decide) tw_240 hB0 rfl td_X_turnOn_1 ?_
  refine tz_get C_ tci_T 1 (by decide) tw_108 hT.1 rfl td_X_turnOn_4 ?_
  refine tz_iload_n C_ 1 rfl rfl td_X_turnOn_7 ?_
  refine tz_rV C_ tmi_S_at tw_522 tw_523 tw_521 hT.2.2.1.1 rfl (As := [.int i]) (by exact (ct_S_at (n := (tz_cur σ).2.1) (o := o) ⟨hT.2.2.1.1, hT.2.2.1.2⟩ (by omega))) rfl (rest := []) rfl (by decide) (Nat.le_of_ble_eq_true rfl) td_X_turnOn_8 (st1 := [va_rf (tz_oat ((tz_cur σ).2.1) o i)]) rfl ?_
  refine tz_astore_nQ C_ (lv' := [(0, .ref B), (1, .int i), (2, .int on), (3, va_rf (tz_oat ((tz_cur σ).2.1) o i))]) [1, 2, 3, 0] rfl (by decide) rfl td_X_turnOn_11 ?_
  refine tz_aload_nQ C_ 3 rfl rfl td_X_turnOn_12 ?_
  refine tz_ifnonnull C_ td_X_turnOn_13 (fun q13 h13 => ?_) (fun h13 => ?_)
  · skip
    obtain ⟨kl13, hkl13, ekl13, hokl13⟩ := tz_oat_some hnl h13
    try rw [h13]
    subst ekl13
    have hlk13 := tz_lk_N (s := σ) hkl13 hnl
    obtain ⟨bkl13, hbkl13, hLkl13, hvkl13⟩ := hag.2.1 kl13 hkl13
    have ebkl13 : bkl13 = q13 := Option.some.inj (hbkl13.symm.trans hokl13)
    rw [ebkl13] at hvkl13 hLkl13
    have honkl13 := (hW.cur.2.2.1 kl13 hkl13).2
    refine tz_aload_n C_ 0 rfl rfl td_X_turnOn_23 ?_
    refine tz_get C_ tci_X 1 (by decide) tw_241 hB0 rfl td_X_turnOn_24 ?_
    refine tz_aload_n C_ 0 rfl rfl td_X_turnOn_27 ?_
    refine tz_get C_ tci_X 0 (by decide) tw_240 hB0 rfl td_X_turnOn_28 ?_
    refine tz_iconst C_ (v := -1) (by decide) td_X_turnOn_31 ?_
    refine tz_cV C_ tmi_H_keep tw_280 tw_281 tw_279 hHi.1 rfl (As := [.ref (B + 1), .int (-1)]) (by exact (ct_H_keep hHi hnx hkp hT (by omega) (hag.2.2.1.fr (fun q h9 => rfl)) (by omega))) rfl (rest := []) rfl (by decide) (Nat.le_of_ble_eq_true rfl) td_X_turnOn_32 (st1 := []) rfl (fun f1 hF1 => ?_)
    obtain ⟨⟨sK, hSK, hpK, hhK⟩, hqK⟩ := hF1
    refine tz_aload_n C_ 3 rfl rfl td_X_turnOn_35 ?_
    have k2 : f1 q13 = some (tz_obj 2 [.int ((tz_lyr σ kl13).1), .int ((tz_lyr σ kl13).2.1), .int ((tz_lyr σ kl13).2.2.1), .int ((tz_lyr σ kl13).2.2.2)]) := ((hqK _ (by omega)).trans hvkl13)
    refine tz_get C_ tci_L 3 (by decide) tw_503 k2 rfl td_X_turnOn_36 ?_
    refine tz_iload_n C_ 2 rfl rfl td_X_turnOn_39 ?_
    refine tz_icmp_ne C_ td_X_turnOn_40 (fun h40 => ?_) (fun h40 => ?_)
    · skip
      exact absurd (hz _ hlk13) h40
    · skip
      refine tz_iconst C_ (v := 0) (by decide) td_X_turnOn_43 ?_
      refine tz_riret C_ hr_ hk_ hQ_ rfl td_X_turnOn_44 ?_
      have k3 : f1 (B + 166) = some (tz_obj 9 [.ref (B + 166 + 1), .int (nI tn)]) := ((hqK _ (by omega)).trans hTu.1)
      have k4 : f1 (B + 166 + 1) = some (tz_ints cs 120 tg) := ((hqK _ (by omega)).trans hTu.2)
      have k5 : f1 (B + 168) = some (tz_obj 0 [.int zA, .int (nI kA)]) := ((hqK _ (by omega)).trans hAl)
      have k6 : f1 B = some (tz_obj 10 [.ref (B + 1), .ref (B + 15), .ref (B + 157), .ref (B + 166), .ref (B + 168), .ref (B + 169), .ref (B + 177), .int σ.2.2.2]) := ((hqK _ (by omega)).trans hB0)
      have kp7 : tz_Tape cs f1 (B + 1) R (tz_cur σ).2.1 o mp ml := hT.fr (fun q h1_ h2_ => (hqK q (by omega)))
      have kp8 : tz_Shs cs f1 (B + 157) Sb := hShs.fr (fun q h1_ h2_ => (hqK q (by omega)))
      have kp9 : tz_PlX cs f1 (B + 169) := hPlX.fr (fun q h1_ h2_ => (hqK q (by omega)))
      have kp10 : tz_RoX cs f1 (B + 177) := hRoX.fr (fun q h1_ h2_ => (hqK q (by omega)))
      have e9 : sp_turnOn σ (nI kl13) on = (0, tz_act σ (tz_sl (tz_cur σ) (tz_nlr σ) (va_up (tz_lyr σ) kl13 ((tz_lyr σ kl13).1, (tz_lyr σ kl13).2.1, (tz_lyr σ kl13).2.2.1, on)))) := by simp only [sp_turnOn, hlk13]; rw [if_pos h40]
      rw [e9]
      exact ⟨rfl, tz_AX_N (s7 := sK) (t' := tz_sl (tz_cur σ) (tz_nlr σ) (va_up (tz_lyr σ) kl13 ((tz_lyr σ kl13).1, (tz_lyr σ kl13).2.1, (tz_lyr σ kl13).2.2.1, on))) hW hag hnx hH hQ hpK hhK (fun q h9 h8 => (hqK q (by omega))) k6 kp7 hSK kp8 ⟨_, _, ⟨k3, k4⟩, htn⟩ ⟨_, _, k5⟩ kp9 kp10 rfl (by
          show tz_Lv L0 _ o (tz_nlr σ) (va_up (tz_lyr σ) kl13 ((tz_lyr σ kl13).1, (tz_lyr σ kl13).2.1, (tz_lyr σ kl13).2.2.1, on))
          rw [tz_up_id h40]; exact hag.2.1.fr (fun q h9 => (hqK q (by omega)))) (hag.2.2.1.fr (fun q h9 => (hqK q (by omega)))) hag.2.2.2.1 hag.2.2.2.2, (fun q hh => by rw [hqK q (by omega)])⟩
  · skip
    try rw [h13]
    have hlk13 := tz_lk_none (s := σ) hnl hag.2.1 h13
    refine tz_aload_n C_ 0 rfl rfl td_X_turnOn_16 ?_
    refine tz_ldc C_ tw_273 td_X_turnOn_17 ?_
    refine tz_cV C_ tmi_X_answer tw_276 tw_0 tw_274 hB0 rfl (As := [.int (-100001)]) (by exact (ct_X_answer (v := -100001) hB0)) rfl (rest := []) rfl (by decide) (Nat.le_of_ble_eq_true rfl) td_X_turnOn_19 (st1 := [.int (-100001)]) rfl (fun f11 hF11 => ?_)
    obtain ⟨hs12, hq12⟩ := hF11
    refine tz_riret C_ hr_ hk_ hQ_ rfl td_X_turnOn_22 ?_
    have k13 : f11 (B + 166) = some (tz_obj 9 [.ref (B + 166 + 1), .int (nI tn)]) := ((hq12 _ (by omega)).trans hTu.1)
    have k14 : f11 (B + 166 + 1) = some (tz_ints cs 120 tg) := ((hq12 _ (by omega)).trans hTu.2)
    have k15 : f11 (B + 168) = some (tz_obj 0 [.int zA, .int (nI kA)]) := ((hq12 _ (by omega)).trans hAl)
    have kp16 : tz_Tape cs f11 (B + 1) R (tz_cur σ).2.1 o mp ml := hT.fr (fun q h1_ h2_ => (hq12 q (by omega)))
    have kp17 : tz_Hist cs f11 (B + 15) nx σ.2.1 St := hHi.fr (fun q h1_ h2_ => (hq12 q (by omega)))
    have kp18 : tz_Shs cs f11 (B + 157) Sb := hShs.fr (fun q h1_ h2_ => (hq12 q (by omega)))
    have kp19 : tz_PlX cs f11 (B + 169) := hPlX.fr (fun q h1_ h2_ => (hq12 q (by omega)))
    have kp20 : tz_RoX cs f11 (B + 177) := hRoX.fr (fun q h1_ h2_ => (hq12 q (by omega)))
    have e9 : sp_turnOn σ i on = tz_an σ (-100001) := by simp only [sp_turnOn, hlk13]
    rw [e9]
    exact ⟨rfl, ⟨R, o, mp, ml, nx, St, Sb, ⟨hs12, kp16, kp17, kp18, ⟨_, _, ⟨k13, k14⟩, htn⟩, ⟨_, _, k15⟩, kp19, kp20⟩, hag.fr (fun q h9 => (hq12 q (by omega))), hnx, hH.fr (fun q h9 => (hq12 q (by omega))), hQ⟩, (fun q hh => by rw [hq12 q (by omega)])⟩

abbrev rm_X_turnOn1 : Room := { frames := 4, cells := 1, slots := 4, locals := 85 }
set_option maxHeartbeats 4000000 in
set_option maxRecDepth 100000 in
theorem ct_X_turnOn1 {l : Launch} {A : Nat → Prop} {D : va_G} {cs : Nat → ClassId} {sz : Nat} {f : tz_PH} {B L0 : Nat} {σ : tz_SG} (hX : tz_AX cs L0 f B σ) (hW : tz_WF σ) (hB : B + 179 ≤ L0) {i on : Int32} {k : Nat} (hk0 : tz_lk σ i = some k) (hne : ¬ (tz_lyr σ k).2.2.2 = on) (hon : on = 0 ∨ on = 1) (hA : ∀ q, sz ≤ q → A q) (hsz : L0 ≤ sz) : tz_CN l tyX_turnOn prog_1_method_13_code 4 (some (.int)) rm_X_turnOn1 1 4 A D cs sz [.ref B, .int i, .int on] f (some (.int (sp_turnOn σ i on).1)) (fun f' => tz_AX cs L0 f' B (sp_turnOn σ i on).2 ∧ ∀ q, (q < B ∨ B + 179 ≤ q) ∧ q < sz → f' q = f q) := by
  refine tz_C.ofB (lv0 := [(0, .ref B), (1, .int i), (2, .int on)]) (plainFor_of_name (by decide)) (Nat.le_of_ble_eq_true rfl) rfl ?_
  intro p_ e_ s_ m_ ar_ be_ me_ c_ Q_ C_ hr_ hk_ hnm_ hz_ hQ_
  obtain ⟨R, o, mp, ml, nx, St, Sb, hXB, hag, hnx, hH, hQ⟩ := hX
  obtain ⟨hB0, hT, hHi, hShs, hTuX, hAlX, hPlX, hRoX⟩ := hXB
  have hTu9 := hTuX
  obtain ⟨tn, tg, hTu, htn⟩ := hTu9
  have hAl9 := hAlX
  obtain ⟨zA, kA, hAl⟩ := hAl9
  have hPl9 := hPlX
  obtain ⟨pr, px, pfo, pz, pk, ptn, ptg, pn, pg, pn2, pg2, hPl, hpn, hptn⟩ := hPl9
  have hRo9 := hRoX
  obtain ⟨jn, jg, hRo, hjn⟩ := hRo9
  have hrx := hPl.2.2.2.2.2
  have hRn : ∀ p, p < 4 → (R p).1 ≤ 120 := fun p hp => by rw [(hag.1 p hp).1]; exact (hW.cur.1 p hp).1
  have hnl : (tz_cur σ).2.1 ≤ 8 := hW.cur.2.1
  have hkp : σ.2.1 ≤ 20 := hW.1
  have hSn : ∀ s, s < 4 → (Sb s).2.1 ≤ 120 := fun s hs => by rw [(hQ s hs).2.1]; exact (hW.2.2 s hs).1
  refine tz_lim (fun hlim => ?_)
  refine tz_aload_n C_ 0 rfl rfl td_X_turnOn_0 ?_
  refine tz_get C_ tci_X 0 (by decide) tw_240 hB0 rfl td_X_turnOn_1 ?_
  refine tz_get C_ tci_T 1 (by decide) tw_108 hT.1 rfl td_X_turnOn_4 ?_
  refine tz_iload_n C_ 1 rfl rfl td_X_turnOn_7 ?_
  refine tz_rV C_ tmi_S_at tw_522 tw_523 tw_521 hT.2.2.1.1 rfl (As := [.int i]) (by exact (ct_S_at (n := (tz_cur σ).2.1) (o := o) ⟨hT.2.2.1.1, hT.2.2.1.2⟩ (by omega))) rfl (rest := []) rfl (by decide) (Nat.le_of_ble_eq_true rfl) td_X_turnOn_8 (st1 := [va_rf (tz_oat ((tz_cur σ).2.1) o i)]) rfl ?_
  refine tz_astore_nQ C_ (lv' := [(0, .ref B), (1, .int i), (2, .int on), (3, va_rf (tz_oat ((tz_cur σ).2.1) o i))]) [1, 2, 3, 0] rfl (by decide) rfl td_X_turnOn_11 ?_
  refine tz_aload_nQ C_ 3 rfl rfl td_X_turnOn_12 ?_
  refine tz_ifnonnull C_ td_X_turnOn_13 (fun q13 h13 => ?_) (fun h13 => ?_)
  · skip
    obtain ⟨kl13, hkl13, ekl13, hokl13⟩ := tz_oat_some hnl h13
    try rw [h13]
    subst ekl13
    have hlk13 := tz_lk_N (s := σ) hkl13 hnl
    obtain ⟨bkl13, hbkl13, hLkl13, hvkl13⟩ := hag.2.1 kl13 hkl13
    have ebkl13 : bkl13 = q13 := Option.some.inj (hbkl13.symm.trans hokl13)
    rw [ebkl13] at hvkl13 hLkl13
    have honkl13 := (hW.cur.2.2.1 kl13 hkl13).2
    have hltkl13 : q13 < sz := Nat.not_le.mp (fun z => by rw [hlim _ z] at hvkl13; cases hvkl13)
    refine tz_aload_n C_ 0 rfl rfl td_X_turnOn_23 ?_
    refine tz_get C_ tci_X 1 (by decide) tw_241 hB0 rfl td_X_turnOn_24 ?_
    refine tz_aload_n C_ 0 rfl rfl td_X_turnOn_27 ?_
    refine tz_get C_ tci_X 0 (by decide) tw_240 hB0 rfl td_X_turnOn_28 ?_
    refine tz_iconst C_ (v := -1) (by decide) td_X_turnOn_31 ?_
    refine tz_cV C_ tmi_H_keep tw_280 tw_281 tw_279 hHi.1 rfl (As := [.ref (B + 1), .int (-1)]) (by exact (ct_H_keep hHi hnx hkp hT (by omega) (hag.2.2.1.fr (fun q h9 => rfl)) (by omega))) rfl (rest := []) rfl (by decide) (Nat.le_of_ble_eq_true rfl) td_X_turnOn_32 (st1 := []) rfl (fun f1 hF1 => ?_)
    obtain ⟨⟨sK, hSK, hpK, hhK⟩, hqK⟩ := hF1
    refine tz_aload_n C_ 3 rfl rfl td_X_turnOn_35 ?_
    have k2 : f1 q13 = some (tz_obj 2 [.int ((tz_lyr σ kl13).1), .int ((tz_lyr σ kl13).2.1), .int ((tz_lyr σ kl13).2.2.1), .int ((tz_lyr σ kl13).2.2.2)]) := ((hqK _ (by omega)).trans hvkl13)
    refine tz_get C_ tci_L 3 (by decide) tw_503 k2 rfl td_X_turnOn_36 ?_
    refine tz_iload_n C_ 2 rfl rfl td_X_turnOn_39 ?_
    refine tz_icmp_ne C_ td_X_turnOn_40 (fun h40 => ?_) (fun h40 => ?_)
    · skip
      refine tz_aload_n C_ 0 rfl rfl td_X_turnOn_45 ?_
      have k3 : f1 B = some (tz_obj 10 [.ref (B + 1), .ref (B + 15), .ref (B + 157), .ref (B + 166), .ref (B + 168), .ref (B + 169), .ref (B + 177), .int σ.2.2.2]) := ((hqK _ (by omega)).trans hB0)
      refine tz_get C_ tci_X 0 (by decide) tw_240 k3 rfl td_X_turnOn_46 ?_
      have k4 : f1 (B + 1) = some (tz_obj 8 [.ref (B + 1 + 1), .ref (B + 1 + 2), .ref (B + 1 + 4), .ref (B + 1 + 5)]) := ((hqK _ (by omega)).trans hT.1)
      refine tz_get C_ tci_T 1 (by decide) tw_108 k4 rfl td_X_turnOn_49 ?_
      refine tz_iload_n C_ 1 rfl rfl td_X_turnOn_52 ?_
      refine tz_wnew C_ tci_L tw_482 tw_483 tw_56 (hA _ (by omega)) (fs := [.int 0, .int 0, .int 0, .int 0]) (fun j hj => by rcases (show j = 0 ∨ j = 1 ∨ j = 2 ∨ j = 3 by omega) with rfl | rfl | rfl | rfl <;> rfl) (by decide) td_X_turnOn_53 (sz' := sz + 1) (cells' := 1) (slots' := 4) ⟨rfl, rfl, rfl⟩ (fun f5 hs5 hq5 => ?_)
      refine tz_dup C_ rfl td_X_turnOn_56 ?_
      refine tz_aload_n C_ 3 rfl rfl td_X_turnOn_57 ?_
      have k6 : f5 q13 = some (tz_obj 2 [.int ((tz_lyr σ kl13).1), .int ((tz_lyr σ kl13).2.1), .int ((tz_lyr σ kl13).2.2.1), .int ((tz_lyr σ kl13).2.2.2)]) := ((hq5 _ (by omega)).trans k2)
      refine tz_get C_ tci_L 0 (by decide) tw_493 k6 rfl td_X_turnOn_58 ?_
      refine tz_aload_n C_ 3 rfl rfl td_X_turnOn_61 ?_
      refine tz_get C_ tci_L 1 (by decide) tw_496 k6 rfl td_X_turnOn_62 ?_
      refine tz_aload_n C_ 3 rfl rfl td_X_turnOn_65 ?_
      refine tz_get C_ tci_L 2 (by decide) tw_499 k6 rfl td_X_turnOn_66 ?_
      refine tz_iload_n C_ 2 rfl rfl td_X_turnOn_69 ?_
      refine tz_cI C_ tmi_L_init rfl tw_488 tw_487 (As := [.int ((tz_lyr σ kl13).1), .int ((tz_lyr σ kl13).2.1), .int ((tz_lyr σ kl13).2.2.1), .int on]) (by exact (ct_L_init hs5 hon)) rfl (rest := [.ref sz, .int (nI kl13), .ref (B + 1 + 2)]) rfl (by decide) (Nat.le_of_ble_eq_true rfl) td_X_turnOn_70 (sz' := sz + 1) (cells' := 1) (slots' := 4) ⟨rfl, rfl, rfl⟩ (fun f7 hF7 => ?_)
      obtain ⟨hs8, hq8⟩ := hF7
      have k9 : f7 (B + 1 + 2) = some (tz_obj 3 [.ref (B + 1 + 2 + 1), .int (nI (tz_cur σ).2.1)]) := ((hq8 _ (by omega)).trans ((hq5 _ (by omega)).trans ((hqK _ (by omega)).trans hT.2.2.1.1)))
      have k10 : f7 (B + 1 + 2 + 1) = some (tz_refs cs 4 8 o) := ((hq8 _ (by omega)).trans ((hq5 _ (by omega)).trans ((hqK _ (by omega)).trans hT.2.2.1.2)))
      refine tz_cV C_ tmi_S_replace tw_526 tw_527 tw_525 k9 rfl (As := [.int (nI kl13), .ref sz]) (by exact (ct_S_replace (L0 := L0) (n := (tz_cur σ).2.1) (o := o) (t := kl13) (v := ((tz_lyr σ kl13).1, (tz_lyr σ kl13).2.1, (tz_lyr σ kl13).2.2.1, on)) ⟨k9, k10⟩ hnl (by omega) (by omega) hokl13 (by omega) hs8)) rfl (rest := []) rfl (by decide) (Nat.le_of_ble_eq_true rfl) td_X_turnOn_73 (st1 := []) rfl (fun f11 hF11 => ?_)
      obtain ⟨hP12, hq12⟩ := hF11
      refine tz_iconst C_ (v := 1) (by decide) td_X_turnOn_76 ?_
      refine tz_riret C_ hr_ hk_ hQ_ rfl td_X_turnOn_77 ?_
      have k13 : f11 (B + 166) = some (tz_obj 9 [.ref (B + 166 + 1), .int (nI tn)]) := ((hq12 _ (by omega)).trans ((hq8 _ (by omega)).trans ((hq5 _ (by omega)).trans ((hqK _ (by omega)).trans hTu.1))))
      have k14 : f11 (B + 166 + 1) = some (tz_ints cs 120 tg) := ((hq12 _ (by omega)).trans ((hq8 _ (by omega)).trans ((hq5 _ (by omega)).trans ((hqK _ (by omega)).trans hTu.2))))
      have k15 : f11 (B + 168) = some (tz_obj 0 [.int zA, .int (nI kA)]) := ((hq12 _ (by omega)).trans ((hq8 _ (by omega)).trans ((hq5 _ (by omega)).trans ((hqK _ (by omega)).trans hAl))))
      have k16 : f11 B = some (tz_obj 10 [.ref (B + 1), .ref (B + 15), .ref (B + 157), .ref (B + 166), .ref (B + 168), .ref (B + 169), .ref (B + 177), .int σ.2.2.2]) := ((hq12 _ (by omega)).trans ((hq8 _ (by omega)).trans ((hq5 _ (by omega)).trans k3)))
      have kp17 : tz_Hist cs f11 (B + 15) ((nx + 1) % 20) (min (σ.2.1 + 1) 20) (va_up St nx sK) := hSK.fr (fun q h1_ h2_ => ((hq12 q (by omega)).trans ((hq8 q (by omega)).trans (hq5 q (by omega)))))
      have kp18 : tz_Shs cs f11 (B + 157) Sb := hShs.fr (fun q h1_ h2_ => ((hq12 q (by omega)).trans ((hq8 q (by omega)).trans ((hq5 q (by omega)).trans (hqK q (by omega))))))
      have kp19 : tz_PlX cs f11 (B + 169) := hPlX.fr (fun q h1_ h2_ => ((hq12 q (by omega)).trans ((hq8 q (by omega)).trans ((hq5 q (by omega)).trans (hqK q (by omega))))))
      have kp20 : tz_RoX cs f11 (B + 177) := hRoX.fr (fun q h1_ h2_ => ((hq12 q (by omega)).trans ((hq8 q (by omega)).trans ((hq5 q (by omega)).trans (hqK q (by omega))))))
      have k21 : f11 sz = some (tz_obj 2 [.int ((tz_lyr σ kl13).1), .int ((tz_lyr σ kl13).2.1), .int ((tz_lyr σ kl13).2.2.1), .int on]) := ((hq12 _ (by omega)).trans hs8)
      have e9 : sp_turnOn σ (nI kl13) on = (1, tz_act σ (tz_sl (tz_cur σ) (tz_nlr σ) (va_up (tz_lyr σ) kl13 ((tz_lyr σ kl13).1, (tz_lyr σ kl13).2.1, (tz_lyr σ kl13).2.2.1, on)))) := by simp only [sp_turnOn, hlk13]; rw [if_neg h40]
      rw [e9]
      exact ⟨rfl, tz_AX_N (s7 := sK) (t' := tz_sl (tz_cur σ) (tz_nlr σ) (va_up (tz_lyr σ) kl13 ((tz_lyr σ kl13).1, (tz_lyr σ kl13).2.1, (tz_lyr σ kl13).2.2.1, on))) hW hag hnx hH hQ hpK hhK (fun q h9 h8 => by
          have h7 : q < sz := Nat.not_le.mp (fun z => h8 (hlim q z))
          exact ((hq12 q (by omega)).trans ((hq8 q (by omega)).trans ((hq5 q (by omega)).trans (hqK q (by omega)))))) k16 (hT.lay ⟨hP12.1, hP12.2⟩ (fun q hh => by rw [hq12 q (by omega), hq8 q (by omega), hq5 q (by omega), hqK q (by omega)])) kp17 kp18 ⟨_, _, ⟨k13, k14⟩, htn⟩ ⟨_, _, k15⟩ kp19 kp20 rfl ((hag.2.1.fs (fun q h9 h8 => by
          have h7 : q < sz := Nat.not_le.mp (fun z => h8 (hlim q z))
          exact ((hq12 q (by omega)).trans ((hq8 q (by omega)).trans ((hq5 q (by omega)).trans (hqK q (by omega))))))).up (t := kl13) hsz k21) ((hag.2.2.1.fs (fun q h9 h8 => by
          have h7 : q < sz := Nat.not_le.mp (fun z => h8 (hlim q z))
          exact ((hq12 q (by omega)).trans ((hq8 q (by omega)).trans ((hq5 q (by omega)).trans (hqK q (by omega))))))).up (t := kl13) (v := ((tz_lyr σ kl13).1, (tz_lyr σ kl13).2.1, (tz_lyr σ kl13).2.2.1, on)) hsz k21) hag.2.2.2.1 hag.2.2.2.2, (fun q hh => by rw [hq12 q (by omega), hq8 q (by omega), hq5 q (by omega), hqK q (by omega)])⟩
    · skip
      exact absurd h40 (by rw [hlk13] at hk0; cases hk0; exact hne)
  · skip
    try rw [h13]
    have hlk13 := tz_lk_none (s := σ) hnl hag.2.1 h13
    rw [hk0] at hlk13; cases hlk13

abbrev rm_X_layer : Room := { frames := 1, cells := 0, slots := 0, locals := 22 }
set_option maxHeartbeats 4000000 in
set_option maxRecDepth 100000 in
theorem ct_X_layer {l : Launch} {A : Nat → Prop} {D : va_G} {cs : Nat → ClassId} {sz : Nat} {f : tz_PH} {B L0 : Nat} {σ : tz_SG} (hX : tz_AX cs L0 f B σ) (hW : tz_WF σ) (hB : B + 179 ≤ L0) {k a b : Int32} (hz : ¬ (tz_can k a b ∧ tz_nlr σ < 8)) : tz_CN l tyX_layer prog_1_method_12_code 5 (some (.int)) rm_X_layer 0 0 A D cs sz [.ref B, .int k, .int a, .int b] f (some (.int (sp_layer σ k a b).1)) (fun f' => tz_AX cs L0 f' B (sp_layer σ k a b).2 ∧ ∀ q, (q < B ∨ B + 179 ≤ q) → f' q = f q) := by
  refine tz_C.ofB (lv0 := [(0, .ref B), (1, .int k), (2, .int a), (3, .int b)]) (plainFor_of_name (by decide)) (Nat.le_of_ble_eq_true rfl) rfl ?_
  intro p_ e_ s_ m_ ar_ be_ me_ c_ Q_ C_ hr_ hk_ hnm_ hz_ hQ_
  obtain ⟨R, o, mp, ml, nx, St, Sb, hXB, hag, hnx, hH, hQ⟩ := hX
  obtain ⟨hB0, hT, hHi, hShs, hTuX, hAlX, hPlX, hRoX⟩ := hXB
  have hTu9 := hTuX
  obtain ⟨tn, tg, hTu, htn⟩ := hTu9
  have hAl9 := hAlX
  obtain ⟨zA, kA, hAl⟩ := hAl9
  have hPl9 := hPlX
  obtain ⟨pr, px, pfo, pz, pk, ptn, ptg, pn, pg, pn2, pg2, hPl, hpn, hptn⟩ := hPl9
  have hRo9 := hRoX
  obtain ⟨jn, jg, hRo, hjn⟩ := hRo9
  have hrx := hPl.2.2.2.2.2
  have hRn : ∀ p, p < 4 → (R p).1 ≤ 120 := fun p hp => by rw [(hag.1 p hp).1]; exact (hW.cur.1 p hp).1
  have hnl : (tz_cur σ).2.1 ≤ 8 := hW.cur.2.1
  have hkp : σ.2.1 ≤ 20 := hW.1
  have hSn : ∀ s, s < 4 → (Sb s).2.1 ≤ 120 := fun s hs => by rw [(hQ s hs).2.1]; exact (hW.2.2 s hs).1
  refine tz_iload_n C_ 1 rfl rfl td_X_layer_0 ?_
  refine tz_iload_n C_ 2 rfl rfl td_X_layer_1 ?_
  refine tz_iload_n C_ 3 rfl rfl td_X_layer_2 ?_
  refine tz_rS C_ tmi_L_canBe tw_471 tw_470 (As := [.int k, .int a, .int b]) (by exact ct_L_canBe) rfl (rest := []) rfl (by decide) (Nat.le_of_ble_eq_true rfl) td_X_layer_3 (st1 := [.int (tz_p (tz_can k a b))]) rfl ?_
  refine tz_if_ne C_ td_X_layer_6 (fun h6 => ?_) (fun h6 => ?_)
  · skip
    replace h6 := tz_p1.mp h6
    refine tz_aload_n C_ 0 rfl rfl td_X_layer_16 ?_
    refine tz_get C_ tci_X 0 (by decide) tw_240 hB0 rfl td_X_layer_17 ?_
    refine tz_get C_ tci_T 1 (by decide) tw_108 hT.1 rfl td_X_layer_20 ?_
    refine tz_rV C_ tmi_S_inAll tw_478 tw_479 tw_477 hT.2.2.1.1 rfl (As := []) (by exact (ct_S_inAll (n := (tz_cur σ).2.1) (o := o) ⟨hT.2.2.1.1, hT.2.2.1.2⟩)) rfl (rest := []) rfl (by decide) (Nat.le_of_ble_eq_true rfl) td_X_layer_23 (st1 := [.int (nI ((tz_cur σ).2.1))]) rfl ?_
    refine tz_istore C_ (lv' := [(0, .ref B), (1, .int k), (2, .int a), (3, .int b), (4, .int (nI ((tz_cur σ).2.1)))]) [1, 2, 3, 4, 0] (by decide) rfl td_X_layer_26 ?_
    refine tz_iload C_ 4 rfl td_X_layer_28 ?_
    refine tz_bipush C_ (v := 8) (by decide) td_X_layer_30 ?_
    refine tz_icmp_lt C_ td_X_layer_32 (fun h32 => ?_) (fun h32 => ?_)
    · skip
      replace h32 := (nI_ltI (a := (tz_cur σ).2.1) (b := 8) (by omega) (by omega)).mp h32
      exact absurd ⟨h6, h32⟩ hz
    · skip
      replace h32 := mt (nI_ltI (a := (tz_cur σ).2.1) (b := 8) (by omega) (by omega)).mpr h32
      refine tz_aload_n C_ 0 rfl rfl td_X_layer_35 ?_
      refine tz_ldc C_ tw_481 td_X_layer_36 ?_
      refine tz_cV C_ tmi_X_answer tw_276 tw_0 tw_274 hB0 rfl (As := [.int (-100005)]) (by exact (ct_X_answer (v := -100005) hB0)) rfl (rest := []) rfl (by decide) (Nat.le_of_ble_eq_true rfl) td_X_layer_38 (st1 := [.int (-100005)]) rfl (fun f1 hF1 => ?_)
      obtain ⟨hs2, hq2⟩ := hF1
      refine tz_riret C_ hr_ hk_ hQ_ rfl td_X_layer_41 ?_
      have k3 : f1 (B + 166) = some (tz_obj 9 [.ref (B + 166 + 1), .int (nI tn)]) := ((hq2 _ (by omega)).trans hTu.1)
      have k4 : f1 (B + 166 + 1) = some (tz_ints cs 120 tg) := ((hq2 _ (by omega)).trans hTu.2)
      have k5 : f1 (B + 168) = some (tz_obj 0 [.int zA, .int (nI kA)]) := ((hq2 _ (by omega)).trans hAl)
      have kp6 : tz_Tape cs f1 (B + 1) R (tz_cur σ).2.1 o mp ml := hT.fr (fun q h1_ h2_ => (hq2 q (by omega)))
      have kp7 : tz_Hist cs f1 (B + 15) nx σ.2.1 St := hHi.fr (fun q h1_ h2_ => (hq2 q (by omega)))
      have kp8 : tz_Shs cs f1 (B + 157) Sb := hShs.fr (fun q h1_ h2_ => (hq2 q (by omega)))
      have kp9 : tz_PlX cs f1 (B + 169) := hPlX.fr (fun q h1_ h2_ => (hq2 q (by omega)))
      have kp10 : tz_RoX cs f1 (B + 177) := hRoX.fr (fun q h1_ h2_ => (hq2 q (by omega)))
      have e9 : sp_layer σ k a b = tz_an σ (-100005) := by rw [sp_layer, if_pos h6, if_neg h32]
      rw [e9]
      exact ⟨rfl, ⟨R, o, mp, ml, nx, St, Sb, ⟨hs2, kp6, kp7, kp8, ⟨_, _, ⟨k3, k4⟩, htn⟩, ⟨_, _, k5⟩, kp9, kp10⟩, hag.fr (fun q h9 => (hq2 q (by omega))), hnx, hH.fr (fun q h9 => (hq2 q (by omega))), hQ⟩, (fun q hh => by rw [hq2 q (by omega)])⟩
  · skip
    replace h6 := tz_p0.mp h6
    refine tz_aload_n C_ 0 rfl rfl td_X_layer_9 ?_
    refine tz_ldc C_ tw_273 td_X_layer_10 ?_
    refine tz_cV C_ tmi_X_answer tw_276 tw_0 tw_274 hB0 rfl (As := [.int (-100001)]) (by exact (ct_X_answer (v := -100001) hB0)) rfl (rest := []) rfl (by decide) (Nat.le_of_ble_eq_true rfl) td_X_layer_12 (st1 := [.int (-100001)]) rfl (fun f11 hF11 => ?_)
    obtain ⟨hs12, hq12⟩ := hF11
    refine tz_riret C_ hr_ hk_ hQ_ rfl td_X_layer_15 ?_
    have k13 : f11 (B + 166) = some (tz_obj 9 [.ref (B + 166 + 1), .int (nI tn)]) := ((hq12 _ (by omega)).trans hTu.1)
    have k14 : f11 (B + 166 + 1) = some (tz_ints cs 120 tg) := ((hq12 _ (by omega)).trans hTu.2)
    have k15 : f11 (B + 168) = some (tz_obj 0 [.int zA, .int (nI kA)]) := ((hq12 _ (by omega)).trans hAl)
    have kp16 : tz_Tape cs f11 (B + 1) R (tz_cur σ).2.1 o mp ml := hT.fr (fun q h1_ h2_ => (hq12 q (by omega)))
    have kp17 : tz_Hist cs f11 (B + 15) nx σ.2.1 St := hHi.fr (fun q h1_ h2_ => (hq12 q (by omega)))
    have kp18 : tz_Shs cs f11 (B + 157) Sb := hShs.fr (fun q h1_ h2_ => (hq12 q (by omega)))
    have kp19 : tz_PlX cs f11 (B + 169) := hPlX.fr (fun q h1_ h2_ => (hq12 q (by omega)))
    have kp20 : tz_RoX cs f11 (B + 177) := hRoX.fr (fun q h1_ h2_ => (hq12 q (by omega)))
    have e9 : sp_layer σ k a b = tz_an σ (-100001) := by rw [sp_layer, if_neg h6]
    rw [e9]
    exact ⟨rfl, ⟨R, o, mp, ml, nx, St, Sb, ⟨hs12, kp16, kp17, kp18, ⟨_, _, ⟨k13, k14⟩, htn⟩, ⟨_, _, k15⟩, kp19, kp20⟩, hag.fr (fun q h9 => (hq12 q (by omega))), hnx, hH.fr (fun q h9 => (hq12 q (by omega))), hQ⟩, (fun q hh => by rw [hq12 q (by omega)])⟩

abbrev rm_X_layer1 : Room := { frames := 4, cells := 1, slots := 4, locals := 85 }
set_option maxHeartbeats 4000000 in
set_option maxRecDepth 100000 in
theorem ct_X_layer1 {l : Launch} {A : Nat → Prop} {D : va_G} {cs : Nat → ClassId} {sz : Nat} {f : tz_PH} {B L0 : Nat} {σ : tz_SG} (hX : tz_AX cs L0 f B σ) (hW : tz_WF σ) (hB : B + 179 ≤ L0) {k a b : Int32} (hc : tz_can k a b) (h8 : tz_nlr σ < 8) (hA : ∀ q, sz ≤ q → A q) (hsz : L0 ≤ sz) : tz_CN l tyX_layer prog_1_method_12_code 5 (some (.int)) rm_X_layer1 1 4 A D cs sz [.ref B, .int k, .int a, .int b] f (some (.int (sp_layer σ k a b).1)) (fun f' => tz_AX cs L0 f' B (sp_layer σ k a b).2 ∧ ∀ q, (q < B ∨ B + 179 ≤ q) ∧ q < sz → f' q = f q) := by
  refine tz_C.ofB (lv0 := [(0, .ref B), (1, .int k), (2, .int a), (3, .int b)]) (plainFor_of_name (by decide)) (Nat.le_of_ble_eq_true rfl) rfl ?_
  intro p_ e_ s_ m_ ar_ be_ me_ c_ Q_ C_ hr_ hk_ hnm_ hz_ hQ_
  obtain ⟨R, o, mp, ml, nx, St, Sb, hXB, hag, hnx, hH, hQ⟩ := hX
  obtain ⟨hB0, hT, hHi, hShs, hTuX, hAlX, hPlX, hRoX⟩ := hXB
  have hTu9 := hTuX
  obtain ⟨tn, tg, hTu, htn⟩ := hTu9
  have hAl9 := hAlX
  obtain ⟨zA, kA, hAl⟩ := hAl9
  have hPl9 := hPlX
  obtain ⟨pr, px, pfo, pz, pk, ptn, ptg, pn, pg, pn2, pg2, hPl, hpn, hptn⟩ := hPl9
  have hRo9 := hRoX
  obtain ⟨jn, jg, hRo, hjn⟩ := hRo9
  have hrx := hPl.2.2.2.2.2
  have hRn : ∀ p, p < 4 → (R p).1 ≤ 120 := fun p hp => by rw [(hag.1 p hp).1]; exact (hW.cur.1 p hp).1
  have hnl : (tz_cur σ).2.1 ≤ 8 := hW.cur.2.1
  have hkp : σ.2.1 ≤ 20 := hW.1
  have hSn : ∀ s, s < 4 → (Sb s).2.1 ≤ 120 := fun s hs => by rw [(hQ s hs).2.1]; exact (hW.2.2 s hs).1
  refine tz_lim (fun hlim => ?_)
  refine tz_iload_n C_ 1 rfl rfl td_X_layer_0 ?_
  refine tz_iload_n C_ 2 rfl rfl td_X_layer_1 ?_
  refine tz_iload_n C_ 3 rfl rfl td_X_layer_2 ?_
  refine tz_rS C_ tmi_L_canBe tw_471 tw_470 (As := [.int k, .int a, .int b]) (by exact ct_L_canBe) rfl (rest := []) rfl (by decide) (Nat.le_of_ble_eq_true rfl) td_X_layer_3 (st1 := [.int (tz_p (tz_can k a b))]) rfl ?_
  refine tz_if_ne C_ td_X_layer_6 (fun h6 => ?_) (fun h6 => ?_)
  · skip
    replace h6 := tz_p1.mp h6
    refine tz_aload_n C_ 0 rfl rfl td_X_layer_16 ?_
    refine tz_get C_ tci_X 0 (by decide) tw_240 hB0 rfl td_X_layer_17 ?_
    refine tz_get C_ tci_T 1 (by decide) tw_108 hT.1 rfl td_X_layer_20 ?_
    refine tz_rV C_ tmi_S_inAll tw_478 tw_479 tw_477 hT.2.2.1.1 rfl (As := []) (by exact (ct_S_inAll (n := (tz_cur σ).2.1) (o := o) ⟨hT.2.2.1.1, hT.2.2.1.2⟩)) rfl (rest := []) rfl (by decide) (Nat.le_of_ble_eq_true rfl) td_X_layer_23 (st1 := [.int (nI ((tz_cur σ).2.1))]) rfl ?_
    refine tz_istore C_ (lv' := [(0, .ref B), (1, .int k), (2, .int a), (3, .int b), (4, .int (nI ((tz_cur σ).2.1)))]) [1, 2, 3, 4, 0] (by decide) rfl td_X_layer_26 ?_
    refine tz_iload C_ 4 rfl td_X_layer_28 ?_
    refine tz_bipush C_ (v := 8) (by decide) td_X_layer_30 ?_
    refine tz_icmp_lt C_ td_X_layer_32 (fun h32 => ?_) (fun h32 => ?_)
    · skip
      replace h32 := (nI_ltI (a := (tz_cur σ).2.1) (b := 8) (by omega) (by omega)).mp h32
      refine tz_aload_n C_ 0 rfl rfl td_X_layer_42 ?_
      refine tz_get C_ tci_X 1 (by decide) tw_241 hB0 rfl td_X_layer_43 ?_
      refine tz_aload_n C_ 0 rfl rfl td_X_layer_46 ?_
      refine tz_get C_ tci_X 0 (by decide) tw_240 hB0 rfl td_X_layer_47 ?_
      refine tz_iconst C_ (v := -1) (by decide) td_X_layer_50 ?_
      refine tz_cV C_ tmi_H_keep tw_280 tw_281 tw_279 hHi.1 rfl (As := [.ref (B + 1), .int (-1)]) (by exact (ct_H_keep hHi hnx hkp hT (by omega) (hag.2.2.1.fr (fun q h9 => rfl)) (by omega))) rfl (rest := []) rfl (by decide) (Nat.le_of_ble_eq_true rfl) td_X_layer_51 (st1 := []) rfl (fun f1 hF1 => ?_)
      obtain ⟨⟨sK, hSK, hpK, hhK⟩, hqK⟩ := hF1
      refine tz_aload_n C_ 0 rfl rfl td_X_layer_54 ?_
      have k2 : f1 B = some (tz_obj 10 [.ref (B + 1), .ref (B + 15), .ref (B + 157), .ref (B + 166), .ref (B + 168), .ref (B + 169), .ref (B + 177), .int σ.2.2.2]) := ((hqK _ (by omega)).trans hB0)
      refine tz_get C_ tci_X 0 (by decide) tw_240 k2 rfl td_X_layer_55 ?_
      have k3 : f1 (B + 1) = some (tz_obj 8 [.ref (B + 1 + 1), .ref (B + 1 + 2), .ref (B + 1 + 4), .ref (B + 1 + 5)]) := ((hqK _ (by omega)).trans hT.1)
      refine tz_get C_ tci_T 1 (by decide) tw_108 k3 rfl td_X_layer_58 ?_
      refine tz_iload C_ 4 rfl td_X_layer_61 ?_
      refine tz_wnew C_ tci_L tw_482 tw_483 tw_56 (hA _ (by omega)) (fs := [.int 0, .int 0, .int 0, .int 0]) (fun j hj => by rcases (show j = 0 ∨ j = 1 ∨ j = 2 ∨ j = 3 by omega) with rfl | rfl | rfl | rfl <;> rfl) (by decide) td_X_layer_63 (sz' := sz + 1) (cells' := 1) (slots' := 4) ⟨rfl, rfl, rfl⟩ (fun f4 hs4 hq4 => ?_)
      refine tz_dup C_ rfl td_X_layer_66 ?_
      refine tz_iload_n C_ 1 rfl rfl td_X_layer_67 ?_
      refine tz_iload_n C_ 2 rfl rfl td_X_layer_68 ?_
      refine tz_iload_n C_ 1 rfl rfl td_X_layer_69 ?_
      refine tz_rS C_ tmi_L_hasB tw_485 tw_484 (As := [.int k]) (by exact ct_L_hasB) rfl (rest := [.int a, .int k, .ref sz, .ref sz, .int (nI ((tz_cur σ).2.1)), .ref (B + 1 + 2)]) rfl (by decide) (Nat.le_of_ble_eq_true rfl) td_X_layer_70 (st1 := [.int (tz_p (k = 2 ∨ k = 5)), .int a, .int k, .ref sz, .ref sz, .int (nI ((tz_cur σ).2.1)), .ref (B + 1 + 2)]) rfl ?_
      refine tz_if_eq C_ td_X_layer_73 (fun h73 => ?_) (fun h73 => ?_)
      · skip
        replace h73 := tz_p0.mp h73
        refine tz_iconst C_ (v := 0) (by decide) td_X_layer_80 ?_
        refine tz_iconst C_ (v := 1) (by decide) td_X_layer_81 ?_
        refine tz_cI C_ tmi_L_init rfl tw_488 tw_487 (As := [.int k, .int a, .int 0, .int 1]) (by exact (ct_L_init hs4 (Or.inr rfl))) rfl (rest := [.ref sz, .int (nI ((tz_cur σ).2.1)), .ref (B + 1 + 2)]) rfl (by decide) (Nat.le_of_ble_eq_true rfl) td_X_layer_82 (sz' := sz + 1) (cells' := 1) (slots' := 4) ⟨rfl, rfl, rfl⟩ (fun f5 hF5 => ?_)
        obtain ⟨hs6, hq6⟩ := hF5
        have k7 : f5 (B + 1 + 2) = some (tz_obj 3 [.ref (B + 1 + 2 + 1), .int (nI (tz_cur σ).2.1)]) := ((hq6 _ (by omega)).trans ((hq4 _ (by omega)).trans ((hqK _ (by omega)).trans hT.2.2.1.1)))
        have k8 : f5 (B + 1 + 2 + 1) = some (tz_refs cs 4 8 o) := ((hq6 _ (by omega)).trans ((hq4 _ (by omega)).trans ((hqK _ (by omega)).trans hT.2.2.1.2)))
        refine tz_cV C_ tmi_S_insert tw_514 tw_515 tw_513 k7 rfl (As := [.int (nI ((tz_cur σ).2.1)), .ref sz]) (by exact (ct_S_insert (L0 := L0) (n := (tz_cur σ).2.1) (o := o) (t := (tz_cur σ).2.1) (v := (k, a, 0, 1)) ⟨k7, k8⟩ (by omega) (by omega) (hag.2.2.1.fs (fun q h9 h8 => by
            have h7 : q < sz := Nat.not_le.mp (fun z => h8 (hlim q z))
            exact ((hq6 q (by omega)).trans ((hq4 q (by omega)).trans (hqK q (by omega)))))) (by omega) (by omega) hs6)) rfl (rest := []) rfl (by decide) (Nat.le_of_ble_eq_true rfl) td_X_layer_85 (st1 := []) rfl (fun f9 hF9 => ?_)
        obtain ⟨hP10, hq10⟩ := hF9
        refine tz_iload C_ 4 rfl td_X_layer_88 ?_
        refine tz_riret C_ hr_ hk_ hQ_ rfl td_X_layer_90 ?_
        have k11 : f9 (B + 166) = some (tz_obj 9 [.ref (B + 166 + 1), .int (nI tn)]) := ((hq10 _ (by omega)).trans ((hq6 _ (by omega)).trans ((hq4 _ (by omega)).trans ((hqK _ (by omega)).trans hTu.1))))
        have k12 : f9 (B + 166 + 1) = some (tz_ints cs 120 tg) := ((hq10 _ (by omega)).trans ((hq6 _ (by omega)).trans ((hq4 _ (by omega)).trans ((hqK _ (by omega)).trans hTu.2))))
        have k13 : f9 (B + 168) = some (tz_obj 0 [.int zA, .int (nI kA)]) := ((hq10 _ (by omega)).trans ((hq6 _ (by omega)).trans ((hq4 _ (by omega)).trans ((hqK _ (by omega)).trans hAl))))
        have k14 : f9 B = some (tz_obj 10 [.ref (B + 1), .ref (B + 15), .ref (B + 157), .ref (B + 166), .ref (B + 168), .ref (B + 169), .ref (B + 177), .int σ.2.2.2]) := ((hq10 _ (by omega)).trans ((hq6 _ (by omega)).trans ((hq4 _ (by omega)).trans k2)))
        have kp15 : tz_Hist cs f9 (B + 15) ((nx + 1) % 20) (min (σ.2.1 + 1) 20) (va_up St nx sK) := hSK.fr (fun q h1_ h2_ => ((hq10 q (by omega)).trans ((hq6 q (by omega)).trans (hq4 q (by omega)))))
        have kp16 : tz_Shs cs f9 (B + 157) Sb := hShs.fr (fun q h1_ h2_ => ((hq10 q (by omega)).trans ((hq6 q (by omega)).trans ((hq4 q (by omega)).trans (hqK q (by omega))))))
        have kp17 : tz_PlX cs f9 (B + 169) := hPlX.fr (fun q h1_ h2_ => ((hq10 q (by omega)).trans ((hq6 q (by omega)).trans ((hq4 q (by omega)).trans (hqK q (by omega))))))
        have kp18 : tz_RoX cs f9 (B + 177) := hRoX.fr (fun q h1_ h2_ => ((hq10 q (by omega)).trans ((hq6 q (by omega)).trans ((hq4 q (by omega)).trans (hqK q (by omega))))))
        have k19 : f9 sz = some (tz_obj 2 [.int k, .int a, .int 0, .int 1]) := ((hq10 _ (by omega)).trans hs6)
        have e9 : sp_layer σ k a b = (nI ((tz_cur σ).2.1), tz_act σ (tz_sl (tz_cur σ) (tz_nlr σ + 1) (tz_inl (tz_lyr σ) (tz_nlr σ) (tz_nlr σ) (k, a, 0, 1)))) := by rw [sp_layer, if_pos h6, if_pos h32, if_neg h73]
        rw [e9]
        exact ⟨rfl, tz_AX_N (s7 := sK) (t' := tz_sl (tz_cur σ) (tz_nlr σ + 1) (tz_inl (tz_lyr σ) (tz_nlr σ) (tz_nlr σ) (k, a, 0, 1))) hW hag hnx hH hQ hpK hhK (fun q h9 h8 => by
            have h7 : q < sz := Nat.not_le.mp (fun z => h8 (hlim q z))
            exact ((hq10 q (by omega)).trans ((hq6 q (by omega)).trans ((hq4 q (by omega)).trans (hqK q (by omega)))))) k14 (hT.lay ⟨hP10.1, hP10.2⟩ (fun q hh => by rw [hq10 q (by omega), hq6 q (by omega), hq4 q (by omega), hqK q (by omega)])) kp15 kp16 ⟨_, _, ⟨k11, k12⟩, htn⟩ ⟨_, _, k13⟩ kp17 kp18 rfl ((hag.2.1.fs (fun q h9 h8 => by
            have h7 : q < sz := Nat.not_le.mp (fun z => h8 (hlim q z))
            exact ((hq10 q (by omega)).trans ((hq6 q (by omega)).trans ((hq4 q (by omega)).trans (hqK q (by omega))))))).ins (t := (tz_cur σ).2.1) (Nat.le_refl _) hsz k19) ((hag.2.2.1.fs (fun q h9 h8 => by
            have h7 : q < sz := Nat.not_le.mp (fun z => h8 (hlim q z))
            exact ((hq10 q (by omega)).trans ((hq6 q (by omega)).trans ((hq4 q (by omega)).trans (hqK q (by omega))))))).ins (t := (tz_cur σ).2.1) (v := (k, a, 0, 1)) hsz k19) hag.2.2.2.1 hag.2.2.2.2, (fun q hh => by rw [hq10 q (by omega), hq6 q (by omega), hq4 q (by omega), hqK q (by omega)])⟩
      · skip
        replace h73 := tz_p1.mp h73
        refine tz_iload_n C_ 3 rfl rfl td_X_layer_76 ?_
        refine tz_goto C_ td_X_layer_77 ?_
        refine tz_iconst C_ (v := 1) (by decide) td_X_layer_81 ?_
        refine tz_cI C_ tmi_L_init rfl tw_488 tw_487 (As := [.int k, .int a, .int b, .int 1]) (by exact (ct_L_init hs4 (Or.inr rfl))) rfl (rest := [.ref sz, .int (nI ((tz_cur σ).2.1)), .ref (B + 1 + 2)]) rfl (by decide) (Nat.le_of_ble_eq_true rfl) td_X_layer_82 (sz' := sz + 1) (cells' := 1) (slots' := 4) ⟨rfl, rfl, rfl⟩ (fun f20 hF20 => ?_)
        obtain ⟨hs21, hq21⟩ := hF20
        have k22 : f20 (B + 1 + 2) = some (tz_obj 3 [.ref (B + 1 + 2 + 1), .int (nI (tz_cur σ).2.1)]) := ((hq21 _ (by omega)).trans ((hq4 _ (by omega)).trans ((hqK _ (by omega)).trans hT.2.2.1.1)))
        have k23 : f20 (B + 1 + 2 + 1) = some (tz_refs cs 4 8 o) := ((hq21 _ (by omega)).trans ((hq4 _ (by omega)).trans ((hqK _ (by omega)).trans hT.2.2.1.2)))
        refine tz_cV C_ tmi_S_insert tw_514 tw_515 tw_513 k22 rfl (As := [.int (nI ((tz_cur σ).2.1)), .ref sz]) (by exact (ct_S_insert (L0 := L0) (n := (tz_cur σ).2.1) (o := o) (t := (tz_cur σ).2.1) (v := (k, a, b, 1)) ⟨k22, k23⟩ (by omega) (by omega) (hag.2.2.1.fs (fun q h9 h8 => by
            have h7 : q < sz := Nat.not_le.mp (fun z => h8 (hlim q z))
            exact ((hq21 q (by omega)).trans ((hq4 q (by omega)).trans (hqK q (by omega)))))) (by omega) (by omega) hs21)) rfl (rest := []) rfl (by decide) (Nat.le_of_ble_eq_true rfl) td_X_layer_85 (st1 := []) rfl (fun f24 hF24 => ?_)
        obtain ⟨hP25, hq25⟩ := hF24
        refine tz_iload C_ 4 rfl td_X_layer_88 ?_
        refine tz_riret C_ hr_ hk_ hQ_ rfl td_X_layer_90 ?_
        have k26 : f24 (B + 166) = some (tz_obj 9 [.ref (B + 166 + 1), .int (nI tn)]) := ((hq25 _ (by omega)).trans ((hq21 _ (by omega)).trans ((hq4 _ (by omega)).trans ((hqK _ (by omega)).trans hTu.1))))
        have k27 : f24 (B + 166 + 1) = some (tz_ints cs 120 tg) := ((hq25 _ (by omega)).trans ((hq21 _ (by omega)).trans ((hq4 _ (by omega)).trans ((hqK _ (by omega)).trans hTu.2))))
        have k28 : f24 (B + 168) = some (tz_obj 0 [.int zA, .int (nI kA)]) := ((hq25 _ (by omega)).trans ((hq21 _ (by omega)).trans ((hq4 _ (by omega)).trans ((hqK _ (by omega)).trans hAl))))
        have k29 : f24 B = some (tz_obj 10 [.ref (B + 1), .ref (B + 15), .ref (B + 157), .ref (B + 166), .ref (B + 168), .ref (B + 169), .ref (B + 177), .int σ.2.2.2]) := ((hq25 _ (by omega)).trans ((hq21 _ (by omega)).trans ((hq4 _ (by omega)).trans k2)))
        have kp30 : tz_Hist cs f24 (B + 15) ((nx + 1) % 20) (min (σ.2.1 + 1) 20) (va_up St nx sK) := hSK.fr (fun q h1_ h2_ => ((hq25 q (by omega)).trans ((hq21 q (by omega)).trans (hq4 q (by omega)))))
        have kp31 : tz_Shs cs f24 (B + 157) Sb := hShs.fr (fun q h1_ h2_ => ((hq25 q (by omega)).trans ((hq21 q (by omega)).trans ((hq4 q (by omega)).trans (hqK q (by omega))))))
        have kp32 : tz_PlX cs f24 (B + 169) := hPlX.fr (fun q h1_ h2_ => ((hq25 q (by omega)).trans ((hq21 q (by omega)).trans ((hq4 q (by omega)).trans (hqK q (by omega))))))
        have kp33 : tz_RoX cs f24 (B + 177) := hRoX.fr (fun q h1_ h2_ => ((hq25 q (by omega)).trans ((hq21 q (by omega)).trans ((hq4 q (by omega)).trans (hqK q (by omega))))))
        have k34 : f24 sz = some (tz_obj 2 [.int k, .int a, .int b, .int 1]) := ((hq25 _ (by omega)).trans hs21)
        have e9 : sp_layer σ k a b = (nI ((tz_cur σ).2.1), tz_act σ (tz_sl (tz_cur σ) (tz_nlr σ + 1) (tz_inl (tz_lyr σ) (tz_nlr σ) (tz_nlr σ) (k, a, b, 1)))) := by rw [sp_layer, if_pos h6, if_pos h32, if_pos h73]
        rw [e9]
        exact ⟨rfl, tz_AX_N (s7 := sK) (t' := tz_sl (tz_cur σ) (tz_nlr σ + 1) (tz_inl (tz_lyr σ) (tz_nlr σ) (tz_nlr σ) (k, a, b, 1))) hW hag hnx hH hQ hpK hhK (fun q h9 h8 => by
            have h7 : q < sz := Nat.not_le.mp (fun z => h8 (hlim q z))
            exact ((hq25 q (by omega)).trans ((hq21 q (by omega)).trans ((hq4 q (by omega)).trans (hqK q (by omega)))))) k29 (hT.lay ⟨hP25.1, hP25.2⟩ (fun q hh => by rw [hq25 q (by omega), hq21 q (by omega), hq4 q (by omega), hqK q (by omega)])) kp30 kp31 ⟨_, _, ⟨k26, k27⟩, htn⟩ ⟨_, _, k28⟩ kp32 kp33 rfl ((hag.2.1.fs (fun q h9 h8 => by
            have h7 : q < sz := Nat.not_le.mp (fun z => h8 (hlim q z))
            exact ((hq25 q (by omega)).trans ((hq21 q (by omega)).trans ((hq4 q (by omega)).trans (hqK q (by omega))))))).ins (t := (tz_cur σ).2.1) (Nat.le_refl _) hsz k34) ((hag.2.2.1.fs (fun q h9 h8 => by
            have h7 : q < sz := Nat.not_le.mp (fun z => h8 (hlim q z))
            exact ((hq25 q (by omega)).trans ((hq21 q (by omega)).trans ((hq4 q (by omega)).trans (hqK q (by omega))))))).ins (t := (tz_cur σ).2.1) (v := (k, a, b, 1)) hsz k34) hag.2.2.2.1 hag.2.2.2.2, (fun q hh => by rw [hq25 q (by omega), hq21 q (by omega), hq4 q (by omega), hqK q (by omega)])⟩
    · skip
      replace h32 := mt (nI_ltI (a := (tz_cur σ).2.1) (b := 8) (by omega) (by omega)).mpr h32
      exact absurd h8 h32
  · skip
    replace h6 := tz_p0.mp h6
    exact absurd hc h6

abbrev rm_X_count : Room := { frames := 2, cells := 0, slots := 0, locals := 44 }
set_option maxHeartbeats 4000000 in
set_option maxRecDepth 100000 in
theorem ct_X_count {l : Launch} {A : Nat → Prop} {D : va_G} {cs : Nat → ClassId} {sz : Nat} {f : tz_PH} {B L0 : Nat} {σ : tz_SG} (hX : tz_AX cs L0 f B σ) (hW : tz_WF σ) (hB : B + 179 ≤ L0) {w : Int32} : tz_CN l tyX_count prog_1_method_30_code 2 (some (.int)) rm_X_count 0 0 A D cs sz [.ref B, .int w] f (some (.int (sp_count σ w).1)) (fun f' => tz_AX cs L0 f' B (sp_count σ w).2 ∧ ∀ q, (q < B ∨ B + 179 ≤ q) → f' q = f q) := by
  refine tz_C.ofB (lv0 := [(0, .ref B), (1, .int w)]) (plainFor_of_name (by decide)) (Nat.le_of_ble_eq_true rfl) rfl ?_
  intro p_ e_ s_ m_ ar_ be_ me_ c_ Q_ C_ hr_ hk_ hnm_ hz_ hQ_
  obtain ⟨R, o, mp, ml, nx, St, Sb, hXB, hag, hnx, hH, hQ⟩ := hX
  obtain ⟨hB0, hT, hHi, hShs, hTuX, hAlX, hPlX, hRoX⟩ := hXB
  have hTu9 := hTuX
  obtain ⟨tn, tg, hTu, htn⟩ := hTu9
  have hAl9 := hAlX
  obtain ⟨zA, kA, hAl⟩ := hAl9
  have hPl9 := hPlX
  obtain ⟨pr, px, pfo, pz, pk, ptn, ptg, pn, pg, pn2, pg2, hPl, hpn, hptn⟩ := hPl9
  have hRo9 := hRoX
  obtain ⟨jn, jg, hRo, hjn⟩ := hRo9
  have hrx := hPl.2.2.2.2.2
  have hRn : ∀ p, p < 4 → (R p).1 ≤ 120 := fun p hp => by rw [(hag.1 p hp).1]; exact (hW.cur.1 p hp).1
  have hnl : (tz_cur σ).2.1 ≤ 8 := hW.cur.2.1
  have hkp : σ.2.1 ≤ 20 := hW.1
  have hSn : ∀ s, s < 4 → (Sb s).2.1 ≤ 120 := fun s hs => by rw [(hQ s hs).2.1]; exact (hW.2.2 s hs).1
  refine tz_iload_n C_ 1 rfl rfl td_X_count_0 ?_
  by_cases h1_0 : w = 0
  · skip
    refine tz_tableIn C_ td_X_count_1 (off := 31) (tgt := 32) (by rw [h1_0]; decide) (by decide) ?_
    refine tz_aload_n C_ 0 rfl rfl td_X_count_32 ?_
    refine tz_get C_ tci_X 0 (by decide) tw_240 hB0 rfl td_X_count_33 ?_
    refine tz_get C_ tci_T 1 (by decide) tw_108 hT.1 rfl td_X_count_36 ?_
    refine tz_rV C_ tmi_S_inAll tw_478 tw_479 tw_477 hT.2.2.1.1 rfl (As := []) (by exact (ct_S_inAll (n := (tz_cur σ).2.1) (o := o) ⟨hT.2.2.1.1, hT.2.2.1.2⟩)) rfl (rest := []) rfl (by decide) (Nat.le_of_ble_eq_true rfl) td_X_count_39 (st1 := [.int (nI ((tz_cur σ).2.1))]) rfl ?_
    refine tz_riret C_ hr_ hk_ hQ_ rfl td_X_count_42 ?_
    have e9 : sp_count σ w = (nI ((tz_cur σ).2.1), σ) := by simp only [sp_count]; rw [if_pos h1_0]
    rw [e9]
    exact ⟨rfl, ⟨R, o, mp, ml, nx, St, Sb, ⟨hB0, hT, hHi, hShs, ⟨_, _, ⟨hTu.1, hTu.2⟩, htn⟩, ⟨_, _, hAl⟩, hPlX, hRoX⟩, hag.fr (fun q h9 => rfl), hnx, hH.fr (fun q h9 => rfl), hQ⟩, (fun q hh => rfl)⟩
  by_cases h1_1 : w = 1
  · skip
    refine tz_tableIn C_ td_X_count_1 (off := 42) (tgt := 43) (by rw [h1_1]; decide) (by decide) ?_
    refine tz_aload_n C_ 0 rfl rfl td_X_count_43 ?_
    refine tz_get C_ tci_X 0 (by decide) tw_240 hB0 rfl td_X_count_44 ?_
    refine tz_get C_ tci_T 1 (by decide) tw_108 hT.1 rfl td_X_count_47 ?_
    refine tz_rV C_ tmi_S_onesOn tw_740 tw_741 tw_739 hT.2.2.1.1 rfl (As := []) (by exact (ct_S_onesOn (n := (tz_cur σ).2.1) (o := o) ⟨hT.2.2.1.1, hT.2.2.1.2⟩ (by omega) hag.2.1)) rfl (rest := []) rfl (by decide) (Nat.le_of_ble_eq_true rfl) td_X_count_50 (st1 := [.int (nI (tz_ct (fun k => decide (¬ ((tz_lyr σ) k).2.2.2 = 0)) ((tz_cur σ).2.1)))]) rfl ?_
    refine tz_riret C_ hr_ hk_ hQ_ rfl td_X_count_53 ?_
    have e9 : sp_count σ w = (nI (tz_ct (fun k => decide (¬ ((tz_lyr σ) k).2.2.2 = 0)) ((tz_cur σ).2.1)), σ) := by simp only [sp_count]; rw [if_neg h1_0, if_pos h1_1]
    rw [e9]
    exact ⟨rfl, ⟨R, o, mp, ml, nx, St, Sb, ⟨hB0, hT, hHi, hShs, ⟨_, _, ⟨hTu.1, hTu.2⟩, htn⟩, ⟨_, _, hAl⟩, hPlX, hRoX⟩, hag.fr (fun q h9 => rfl), hnx, hH.fr (fun q h9 => rfl), hQ⟩, (fun q hh => rfl)⟩
  by_cases h1_2 : w = 2
  · skip
    refine tz_tableIn C_ td_X_count_1 (off := 53) (tgt := 54) (by rw [h1_2]; decide) (by decide) ?_
    refine tz_aload_n C_ 0 rfl rfl td_X_count_54 ?_
    refine tz_get C_ tci_X 0 (by decide) tw_240 hB0 rfl td_X_count_55 ?_
    refine tz_rV C_ tmi_T_marksSomewhere tw_744 tw_745 tw_743 hT.1 rfl (As := []) (by exact (ct_T_marksSomewhere hT)) rfl (rest := []) rfl (by decide) (Nat.le_of_ble_eq_true rfl) td_X_count_58 (st1 := [.int (nI (tz_ct (fun k => decide (¬ ml k = -1)) 6))]) rfl ?_
    refine tz_riret C_ hr_ hk_ hQ_ rfl td_X_count_61 ?_
    have e9 : sp_count σ w = (nI (tz_ct (fun k => decide (¬ ml k = -1)) 6), σ) := by 
      have a1 : tz_ct (fun k => decide (¬ (tz_cur σ).2.2.2.2 k = -1)) 6 = tz_ct (fun k => decide (¬ ml k = -1)) 6 := tz_ct_cg (fun k hk => by rw [hag.2.2.2.2 k hk])
      simp only [sp_count]
      rw [if_neg h1_0, if_neg h1_1, if_pos h1_2, a1]
    rw [e9]
    exact ⟨rfl, ⟨R, o, mp, ml, nx, St, Sb, ⟨hB0, hT, hHi, hShs, ⟨_, _, ⟨hTu.1, hTu.2⟩, htn⟩, ⟨_, _, hAl⟩, hPlX, hRoX⟩, hag.fr (fun q h9 => rfl), hnx, hH.fr (fun q h9 => rfl), hQ⟩, (fun q hh => rfl)⟩
  by_cases h1_3 : w = 3
  · skip
    refine tz_tableIn C_ td_X_count_1 (off := 61) (tgt := 62) (by rw [h1_3]; decide) (by decide) ?_
    refine tz_aload_n C_ 0 rfl rfl td_X_count_62 ?_
    refine tz_get C_ tci_X 7 (by decide) tw_247 hB0 rfl td_X_count_63 ?_
    refine tz_riret C_ hr_ hk_ hQ_ rfl td_X_count_66 ?_
    have e9 : sp_count σ w = (σ.2.2.2, σ) := by simp only [sp_count]; rw [if_neg h1_0, if_neg h1_1, if_neg h1_2, if_pos h1_3]
    rw [e9]
    exact ⟨rfl, ⟨R, o, mp, ml, nx, St, Sb, ⟨hB0, hT, hHi, hShs, ⟨_, _, ⟨hTu.1, hTu.2⟩, htn⟩, ⟨_, _, hAl⟩, hPlX, hRoX⟩, hag.fr (fun q h9 => rfl), hnx, hH.fr (fun q h9 => rfl), hQ⟩, (fun q hh => rfl)⟩
  refine tz_tableOut C_ td_X_count_1 (tgt := 67) (by decide) ?_ ?_
  · skip
    have := lv_neT h1_0 (show (0 : Int32).toInt = 0 by decide)
    have := lv_neT h1_1 (show (1 : Int32).toInt = 1 by decide)
    have := lv_neT h1_2 (show (2 : Int32).toInt = 2 by decide)
    have := lv_neT h1_3 (show (3 : Int32).toInt = 3 by decide)
    omega
  refine tz_aload_n C_ 0 rfl rfl td_X_count_67 ?_
  refine tz_ldc C_ tw_273 td_X_count_68 ?_
  refine tz_cV C_ tmi_X_answer tw_276 tw_0 tw_274 hB0 rfl (As := [.int (-100001)]) (by exact (ct_X_answer (v := -100001) hB0)) rfl (rest := []) rfl (by decide) (Nat.le_of_ble_eq_true rfl) td_X_count_70 (st1 := [.int (-100001)]) rfl (fun f1 hF1 => ?_)
  obtain ⟨hs2, hq2⟩ := hF1
  refine tz_riret C_ hr_ hk_ hQ_ rfl td_X_count_73 ?_
  have k3 : f1 (B + 166) = some (tz_obj 9 [.ref (B + 166 + 1), .int (nI tn)]) := ((hq2 _ (by omega)).trans hTu.1)
  have k4 : f1 (B + 166 + 1) = some (tz_ints cs 120 tg) := ((hq2 _ (by omega)).trans hTu.2)
  have k5 : f1 (B + 168) = some (tz_obj 0 [.int zA, .int (nI kA)]) := ((hq2 _ (by omega)).trans hAl)
  have kp6 : tz_Tape cs f1 (B + 1) R (tz_cur σ).2.1 o mp ml := hT.fr (fun q h1_ h2_ => (hq2 q (by omega)))
  have kp7 : tz_Hist cs f1 (B + 15) nx σ.2.1 St := hHi.fr (fun q h1_ h2_ => (hq2 q (by omega)))
  have kp8 : tz_Shs cs f1 (B + 157) Sb := hShs.fr (fun q h1_ h2_ => (hq2 q (by omega)))
  have kp9 : tz_PlX cs f1 (B + 169) := hPlX.fr (fun q h1_ h2_ => (hq2 q (by omega)))
  have kp10 : tz_RoX cs f1 (B + 177) := hRoX.fr (fun q h1_ h2_ => (hq2 q (by omega)))
  have e9 : sp_count σ w = tz_an σ (-100001) := by simp only [sp_count]; rw [if_neg h1_0, if_neg h1_1, if_neg h1_2, if_neg h1_3]
  rw [e9]
  exact ⟨rfl, ⟨R, o, mp, ml, nx, St, Sb, ⟨hs2, kp6, kp7, kp8, ⟨_, _, ⟨k3, k4⟩, htn⟩, ⟨_, _, k5⟩, kp9, kp10⟩, hag.fr (fun q h9 => (hq2 q (by omega))), hnx, hH.fr (fun q h9 => (hq2 q (by omega))), hQ⟩, (fun q hh => by rw [hq2 q (by omega)])⟩


theorem tz_agM.up {m m' : Nat → Int32} {k : Nat} {x : Int32} (h : tz_agM m m') : tz_agM (upd m k x) (upd m' k x) := by
  intro j hj
  simp only [upd]
  split
  · rfl
  · exact h j hj

abbrev rm_X_mark : Room := { frames := 4, cells := 0, slots := 0, locals := 85 }
set_option maxHeartbeats 4000000 in
set_option maxRecDepth 100000 in
theorem ct_X_mark {l : Launch} {A : Nat → Prop} {D : va_G} {cs : Nat → ClassId} {sz : Nat} {f : tz_PH} {B L0 : Nat} {σ : tz_SG} (hX : tz_AX cs L0 f B σ) (hW : tz_WF σ) (hB : B + 179 ≤ L0) {m p i : Int32} : tz_CN l tyX_mark prog_1_method_27_code 5 (some (.int)) rm_X_mark 0 0 A D cs sz [.ref B, .int m, .int p, .int i] f (some (.int (sp_mark σ m p i).1)) (fun f' => tz_AX cs L0 f' B (sp_mark σ m p i).2 ∧ ∀ q, (q < B ∨ B + 179 ≤ q) → f' q = f q) := by
  refine tz_C.ofB (lv0 := [(0, .ref B), (1, .int m), (2, .int p), (3, .int i)]) (plainFor_of_name (by decide)) (Nat.le_of_ble_eq_true rfl) rfl ?_
  intro p_ e_ s_ m_ ar_ be_ me_ c_ Q_ C_ hr_ hk_ hnm_ hz_ hQ_
  obtain ⟨R, o, mp, ml, nx, St, Sb, hXB, hag, hnx, hH, hQ⟩ := hX
  obtain ⟨hB0, hT, hHi, hShs, hTuX, hAlX, hPlX, hRoX⟩ := hXB
  have hTu9 := hTuX
  obtain ⟨tn, tg, hTu, htn⟩ := hTu9
  have hAl9 := hAlX
  obtain ⟨zA, kA, hAl⟩ := hAl9
  have hPl9 := hPlX
  obtain ⟨pr, px, pfo, pz, pk, ptn, ptg, pn, pg, pn2, pg2, hPl, hpn, hptn⟩ := hPl9
  have hRo9 := hRoX
  obtain ⟨jn, jg, hRo, hjn⟩ := hRo9
  have hrx := hPl.2.2.2.2.2
  have hRn : ∀ p, p < 4 → (R p).1 ≤ 120 := fun p hp => by rw [(hag.1 p hp).1]; exact (hW.cur.1 p hp).1
  have hnl : (tz_cur σ).2.1 ≤ 8 := hW.cur.2.1
  have hkp : σ.2.1 ≤ 20 := hW.1
  have hSn : ∀ s, s < 4 → (Sb s).2.1 ≤ 120 := fun s hs => by rw [(hQ s hs).2.1]; exact (hW.2.2 s hs).1
  refine tz_aload_n C_ 0 rfl rfl td_X_mark_0 ?_
  refine tz_get C_ tci_X 0 (by decide) tw_240 hB0 rfl td_X_mark_1 ?_
  refine tz_iload_n C_ 2 rfl rfl td_X_mark_4 ?_
  refine tz_rV C_ tmi_T_rowAt tw_270 tw_271 tw_269 hT.1 rfl (As := [.int p]) (by exact (ct_T_rowAt hT)) rfl (rest := []) rfl (by decide) (Nat.le_of_ble_eq_true rfl) td_X_mark_5 (st1 := [va_rf (tz_rof (B + 1) p)]) rfl ?_
  refine tz_astoreQ C_ (lv' := [(0, .ref B), (1, .int m), (2, .int p), (3, .int i), (4, va_rf (tz_rof (B + 1) p))]) [1, 2, 3, 4, 0] (by decide) rfl td_X_mark_8 ?_
  refine tz_iload_n C_ 1 rfl rfl td_X_mark_10 ?_
  refine tz_rS C_ tmi_X_isMark tw_712 tw_711 (As := [.int m]) (by exact ct_X_isMark) rfl (rest := []) rfl (by decide) (Nat.le_of_ble_eq_true rfl) td_X_mark_11 (st1 := [.int (tz_p (0 ≤ m ∧ m < 6))]) rfl ?_
  refine tz_if_eq C_ td_X_mark_14 (fun h14 => ?_) (fun h14 => ?_)
  · skip
    replace h14 := tz_p0.mp h14
    refine tz_aload_n C_ 0 rfl rfl td_X_mark_36 ?_
    refine tz_ldc C_ tw_273 td_X_mark_37 ?_
    refine tz_cV C_ tmi_X_answer tw_276 tw_0 tw_274 hB0 rfl (As := [.int (-100001)]) (by exact (ct_X_answer (v := -100001) hB0)) rfl (rest := []) rfl (by decide) (Nat.le_of_ble_eq_true rfl) td_X_mark_39 (st1 := [.int (-100001)]) rfl (fun f1 hF1 => ?_)
    obtain ⟨hs2, hq2⟩ := hF1
    refine tz_riret C_ hr_ hk_ hQ_ rfl td_X_mark_42 ?_
    have k3 : f1 (B + 166) = some (tz_obj 9 [.ref (B + 166 + 1), .int (nI tn)]) := ((hq2 _ (by omega)).trans hTu.1)
    have k4 : f1 (B + 166 + 1) = some (tz_ints cs 120 tg) := ((hq2 _ (by omega)).trans hTu.2)
    have k5 : f1 (B + 168) = some (tz_obj 0 [.int zA, .int (nI kA)]) := ((hq2 _ (by omega)).trans hAl)
    have kp6 : tz_Tape cs f1 (B + 1) R (tz_cur σ).2.1 o mp ml := hT.fr (fun q h1_ h2_ => (hq2 q (by omega)))
    have kp7 : tz_Hist cs f1 (B + 15) nx σ.2.1 St := hHi.fr (fun q h1_ h2_ => (hq2 q (by omega)))
    have kp8 : tz_Shs cs f1 (B + 157) Sb := hShs.fr (fun q h1_ h2_ => (hq2 q (by omega)))
    have kp9 : tz_PlX cs f1 (B + 169) := hPlX.fr (fun q h1_ h2_ => (hq2 q (by omega)))
    have kp10 : tz_RoX cs f1 (B + 177) := hRoX.fr (fun q h1_ h2_ => (hq2 q (by omega)))
    have e9 : sp_mark σ m p i = tz_an σ (-100001) := by rw [sp_mark, if_neg h14]
    rw [e9]
    exact ⟨rfl, ⟨R, o, mp, ml, nx, St, Sb, ⟨hs2, kp6, kp7, kp8, ⟨_, _, ⟨k3, k4⟩, htn⟩, ⟨_, _, k5⟩, kp9, kp10⟩, hag.fr (fun q h9 => (hq2 q (by omega))), hnx, hH.fr (fun q h9 => (hq2 q (by omega))), hQ⟩, (fun q hh => by rw [hq2 q (by omega)])⟩
  · skip
    replace h14 := tz_p1.mp h14
    refine tz_aloadQ C_ 4 rfl td_X_mark_17 ?_
    refine tz_ifnull C_ td_X_mark_19 (fun h19 => ?_) (fun q19 h19 => ?_)
    · skip
      rw [h19]
      have hpk19 := tz_pk_none h19
      refine tz_aload_n C_ 0 rfl rfl td_X_mark_36 ?_
      refine tz_ldc C_ tw_273 td_X_mark_37 ?_
      refine tz_cV C_ tmi_X_answer tw_276 tw_0 tw_274 hB0 rfl (As := [.int (-100001)]) (by exact (ct_X_answer (v := -100001) hB0)) rfl (rest := []) rfl (by decide) (Nat.le_of_ble_eq_true rfl) td_X_mark_39 (st1 := [.int (-100001)]) rfl (fun f11 hF11 => ?_)
      obtain ⟨hs12, hq12⟩ := hF11
      refine tz_riret C_ hr_ hk_ hQ_ rfl td_X_mark_42 ?_
      have k13 : f11 (B + 166) = some (tz_obj 9 [.ref (B + 166 + 1), .int (nI tn)]) := ((hq12 _ (by omega)).trans hTu.1)
      have k14 : f11 (B + 166 + 1) = some (tz_ints cs 120 tg) := ((hq12 _ (by omega)).trans hTu.2)
      have k15 : f11 (B + 168) = some (tz_obj 0 [.int zA, .int (nI kA)]) := ((hq12 _ (by omega)).trans hAl)
      have kp16 : tz_Tape cs f11 (B + 1) R (tz_cur σ).2.1 o mp ml := hT.fr (fun q h1_ h2_ => (hq12 q (by omega)))
      have kp17 : tz_Hist cs f11 (B + 15) nx σ.2.1 St := hHi.fr (fun q h1_ h2_ => (hq12 q (by omega)))
      have kp18 : tz_Shs cs f11 (B + 157) Sb := hShs.fr (fun q h1_ h2_ => (hq12 q (by omega)))
      have kp19 : tz_PlX cs f11 (B + 169) := hPlX.fr (fun q h1_ h2_ => (hq12 q (by omega)))
      have kp20 : tz_RoX cs f11 (B + 177) := hRoX.fr (fun q h1_ h2_ => (hq12 q (by omega)))
      have e9 : sp_mark σ m p i = tz_an σ (-100001) := by rw [sp_mark, if_pos h14]; simp only [hpk19]
      rw [e9]
      exact ⟨rfl, ⟨R, o, mp, ml, nx, St, Sb, ⟨hs12, kp16, kp17, kp18, ⟨_, _, ⟨k13, k14⟩, htn⟩, ⟨_, _, k15⟩, kp19, kp20⟩, hag.fr (fun q h9 => (hq12 q (by omega))), hnx, hH.fr (fun q h9 => (hq12 q (by omega))), hQ⟩, (fun q hh => by rw [hq12 q (by omega)])⟩
    · skip
      obtain ⟨kr19, hkr19, ekr19, eqkr19⟩ := tz_rof_some h19
      rw [h19]
      subst eqkr19
      subst ekr19
      have hpk19 := tz_pk_N hkr19
      have hRnkr19 := hRn kr19 hkr19
      have hlkr19 : (R kr19).1 = tz_ln σ kr19 := (hag.1 kr19 hkr19).1
      have hgkr19 : ∀ j, j < tz_ln σ kr19 → (R kr19).2 j = tz_sg σ kr19 j := (hag.1 kr19 hkr19).2
      have hakr19 : tz_at (R kr19).1 (R kr19).2 = tz_at (tz_ln σ kr19) (tz_sg σ kr19) := tz_agR.at hag.1 hkr19 (hW.cur.1 kr19 hkr19).1
      have hckr19 : tz_ln σ kr19 ≤ 120 := (hW.cur.1 kr19 hkr19).1
      refine tz_iload_n C_ 3 rfl rfl td_X_mark_22 ?_
      refine tz_iconst C_ (v := -1) (by decide) td_X_mark_23 ?_
      refine tz_icmp_eq C_ td_X_mark_24 (fun h24 => ?_) (fun h24 => ?_)
      · skip
        obtain ⟨mm, hmm, emm⟩ := vp_in_of (x := m) (n := 6) (tz_inI (tz_le_nlt h14.1) (show m < nI 6 from h14.2) (by decide)) (by decide)
        subst emm
        refine tz_aload_n C_ 0 rfl rfl td_X_mark_43 ?_
        refine tz_get C_ tci_X 1 (by decide) tw_241 hB0 rfl td_X_mark_44 ?_
        refine tz_aload_n C_ 0 rfl rfl td_X_mark_47 ?_
        refine tz_get C_ tci_X 0 (by decide) tw_240 hB0 rfl td_X_mark_48 ?_
        refine tz_iconst C_ (v := -1) (by decide) td_X_mark_51 ?_
        refine tz_cV C_ tmi_H_keep tw_280 tw_281 tw_279 hHi.1 rfl (As := [.ref (B + 1), .int (-1)]) (by exact (ct_H_keep hHi hnx hkp hT (by omega) (hag.2.2.1.fr (fun q h9 => rfl)) (by omega))) rfl (rest := []) rfl (by decide) (Nat.le_of_ble_eq_true rfl) td_X_mark_52 (st1 := []) rfl (fun f21 hF21 => ?_)
        obtain ⟨⟨sK, hSK, hpK, hhK⟩, hqK⟩ := hF21
        refine tz_aload_n C_ 0 rfl rfl td_X_mark_55 ?_
        have k22 : f21 B = some (tz_obj 10 [.ref (B + 1), .ref (B + 15), .ref (B + 157), .ref (B + 166), .ref (B + 168), .ref (B + 169), .ref (B + 177), .int σ.2.2.2]) := ((hqK _ (by omega)).trans hB0)
        refine tz_get C_ tci_X 0 (by decide) tw_240 k22 rfl td_X_mark_56 ?_
        have k23 : f21 (B + 1) = some (tz_obj 8 [.ref (B + 1 + 1), .ref (B + 1 + 2), .ref (B + 1 + 4), .ref (B + 1 + 5)]) := ((hqK _ (by omega)).trans hT.1)
        refine tz_get C_ tci_T 2 (by decide) tw_111 k23 rfl td_X_mark_59 ?_
        refine tz_iload_n C_ 1 rfl rfl td_X_mark_62 ?_
        refine tz_iload_n C_ 2 rfl rfl td_X_mark_63 ?_
        have k24 : f21 (B + 1 + 4) = some (tz_ints cs 6 mp) := ((hqK _ (by omega)).trans hT.2.2.2.1)
        refine tz_wiastN C_ k24 (by omega) (by decide) (g' := upd mp mm (nI kr19)) rfl td_X_mark_64 (fun f25 hs25 hq25 => ?_)
        refine tz_aload_n C_ 0 rfl rfl td_X_mark_65 ?_
        have k26 : f25 B = some (tz_obj 10 [.ref (B + 1), .ref (B + 15), .ref (B + 157), .ref (B + 166), .ref (B + 168), .ref (B + 169), .ref (B + 177), .int σ.2.2.2]) := ((hq25 _ (by omega)).trans k22)
        refine tz_get C_ tci_X 0 (by decide) tw_240 k26 rfl td_X_mark_66 ?_
        have k27 : f25 (B + 1) = some (tz_obj 8 [.ref (B + 1 + 1), .ref (B + 1 + 2), .ref (B + 1 + 4), .ref (B + 1 + 5)]) := ((hq25 _ (by omega)).trans k23)
        refine tz_get C_ tci_T 3 (by decide) tw_114 k27 rfl td_X_mark_69 ?_
        refine tz_iload_n C_ 1 rfl rfl td_X_mark_72 ?_
        refine tz_iload_n C_ 3 rfl rfl td_X_mark_73 ?_
        have k28 : f25 (B + 1 + 5) = some (tz_ints cs 6 ml) := ((hq25 _ (by omega)).trans ((hqK _ (by omega)).trans hT.2.2.2.2.1))
        refine tz_wiastN C_ k28 (by omega) (by decide) (g' := upd ml mm i) rfl td_X_mark_74 (fun f29 hs29 hq29 => ?_)
        refine tz_iconst C_ (v := 1) (by decide) td_X_mark_75 ?_
        refine tz_riret C_ hr_ hk_ hQ_ rfl td_X_mark_76 ?_
        have k30 : f29 (B + 166) = some (tz_obj 9 [.ref (B + 166 + 1), .int (nI tn)]) := ((hq29 _ (by omega)).trans ((hq25 _ (by omega)).trans ((hqK _ (by omega)).trans hTu.1)))
        have k31 : f29 (B + 166 + 1) = some (tz_ints cs 120 tg) := ((hq29 _ (by omega)).trans ((hq25 _ (by omega)).trans ((hqK _ (by omega)).trans hTu.2)))
        have k32 : f29 (B + 168) = some (tz_obj 0 [.int zA, .int (nI kA)]) := ((hq29 _ (by omega)).trans ((hq25 _ (by omega)).trans ((hqK _ (by omega)).trans hAl)))
        have k33 : f29 B = some (tz_obj 10 [.ref (B + 1), .ref (B + 15), .ref (B + 157), .ref (B + 166), .ref (B + 168), .ref (B + 169), .ref (B + 177), .int σ.2.2.2]) := ((hq29 _ (by omega)).trans k26)
        have k34 : f29 (B + 1 + 4) = some (tz_ints cs 6 (upd mp mm (nI kr19))) := ((hq29 _ (by omega)).trans hs25)
        have kp35 : tz_Hist cs f29 (B + 15) ((nx + 1) % 20) (min (σ.2.1 + 1) 20) (va_up St nx sK) := hSK.fr (fun q h1_ h2_ => ((hq29 q (by omega)).trans (hq25 q (by omega))))
        have kp36 : tz_Shs cs f29 (B + 157) Sb := hShs.fr (fun q h1_ h2_ => ((hq29 q (by omega)).trans ((hq25 q (by omega)).trans (hqK q (by omega)))))
        have kp37 : tz_PlX cs f29 (B + 169) := hPlX.fr (fun q h1_ h2_ => ((hq29 q (by omega)).trans ((hq25 q (by omega)).trans (hqK q (by omega)))))
        have kp38 : tz_RoX cs f29 (B + 177) := hRoX.fr (fun q h1_ h2_ => ((hq29 q (by omega)).trans ((hq25 q (by omega)).trans (hqK q (by omega)))))
        have e9 : sp_mark σ (nI mm) (nI kr19) i = (1, tz_act σ (tz_smk (tz_cur σ) (upd (tz_cur σ).2.2.2.1 mm (nI kr19)) (upd (tz_cur σ).2.2.2.2 mm i))) := by rw [sp_mark, if_pos h14]; simp only [hpk19]; rw [if_pos (Or.inl h24), nI_clamp (by omega)]
        rw [e9]
        exact ⟨rfl, tz_AX_N (s7 := sK) (t' := tz_smk (tz_cur σ) (upd (tz_cur σ).2.2.2.1 mm (nI kr19)) (upd (tz_cur σ).2.2.2.2 mm i)) hW hag hnx hH hQ hpK hhK (fun q h9 h8 => ((hq29 q (by omega)).trans ((hq25 q (by omega)).trans (hqK q (by omega))))) k33 (hT.mark k34 hs29 (fun q hh => by rw [hq29 q (by omega), hq25 q (by omega), hqK q (by omega)])) kp35 kp36 ⟨_, _, ⟨k30, k31⟩, htn⟩ ⟨_, _, k32⟩ kp37 kp38 rfl (hag.2.1.fr (fun q h9 => ((hq29 q (by omega)).trans ((hq25 q (by omega)).trans (hqK q (by omega)))))) (hag.2.2.1.fr (fun q h9 => ((hq29 q (by omega)).trans ((hq25 q (by omega)).trans (hqK q (by omega)))))) hag.2.2.2.1.up hag.2.2.2.2.up, (fun q hh => by rw [hq29 q (by omega), hq25 q (by omega), hqK q (by omega)])⟩
      · skip
        refine tz_aload C_ 4 rfl td_X_mark_27 ?_
        refine tz_iload_n C_ 3 rfl rfl td_X_mark_29 ?_
        refine tz_rV C_ tmi_R_has tw_325 tw_326 tw_324 (hT.2.2.2.2.2 kr19 hkr19).1 rfl (As := [.int i]) (by exact (ct_R_has (n := (R kr19).1) (g := (R kr19).2) ⟨(hT.2.2.2.2.2 kr19 hkr19).1, (hT.2.2.2.2.2 kr19 hkr19).2⟩ (by omega))) rfl (rest := []) rfl (by decide) (Nat.le_of_ble_eq_true rfl) td_X_mark_30 (st1 := [.int (tz_p (0 ≤ i ∧ i < nI ((R kr19).1)))]) rfl ?_
        refine tz_if_ne C_ td_X_mark_33 (fun h33 => ?_) (fun h33 => ?_)
        · skip
          replace h33 := tz_p1.mp h33
          obtain ⟨mm, hmm, emm⟩ := vp_in_of (x := m) (n := 6) (tz_inI (tz_le_nlt h14.1) (show m < nI 6 from h14.2) (by decide)) (by decide)
          subst emm
          refine tz_aload_n C_ 0 rfl rfl td_X_mark_43 ?_
          refine tz_get C_ tci_X 1 (by decide) tw_241 hB0 rfl td_X_mark_44 ?_
          refine tz_aload_n C_ 0 rfl rfl td_X_mark_47 ?_
          refine tz_get C_ tci_X 0 (by decide) tw_240 hB0 rfl td_X_mark_48 ?_
          refine tz_iconst C_ (v := -1) (by decide) td_X_mark_51 ?_
          refine tz_cV C_ tmi_H_keep tw_280 tw_281 tw_279 hHi.1 rfl (As := [.ref (B + 1), .int (-1)]) (by exact (ct_H_keep hHi hnx hkp hT (by omega) (hag.2.2.1.fr (fun q h9 => rfl)) (by omega))) rfl (rest := []) rfl (by decide) (Nat.le_of_ble_eq_true rfl) td_X_mark_52 (st1 := []) rfl (fun f39 hF39 => ?_)
          obtain ⟨⟨sK, hSK, hpK, hhK⟩, hqK⟩ := hF39
          refine tz_aload_n C_ 0 rfl rfl td_X_mark_55 ?_
          have k40 : f39 B = some (tz_obj 10 [.ref (B + 1), .ref (B + 15), .ref (B + 157), .ref (B + 166), .ref (B + 168), .ref (B + 169), .ref (B + 177), .int σ.2.2.2]) := ((hqK _ (by omega)).trans hB0)
          refine tz_get C_ tci_X 0 (by decide) tw_240 k40 rfl td_X_mark_56 ?_
          have k41 : f39 (B + 1) = some (tz_obj 8 [.ref (B + 1 + 1), .ref (B + 1 + 2), .ref (B + 1 + 4), .ref (B + 1 + 5)]) := ((hqK _ (by omega)).trans hT.1)
          refine tz_get C_ tci_T 2 (by decide) tw_111 k41 rfl td_X_mark_59 ?_
          refine tz_iload_n C_ 1 rfl rfl td_X_mark_62 ?_
          refine tz_iload_n C_ 2 rfl rfl td_X_mark_63 ?_
          have k42 : f39 (B + 1 + 4) = some (tz_ints cs 6 mp) := ((hqK _ (by omega)).trans hT.2.2.2.1)
          refine tz_wiastN C_ k42 (by omega) (by decide) (g' := upd mp mm (nI kr19)) rfl td_X_mark_64 (fun f43 hs43 hq43 => ?_)
          refine tz_aload_n C_ 0 rfl rfl td_X_mark_65 ?_
          have k44 : f43 B = some (tz_obj 10 [.ref (B + 1), .ref (B + 15), .ref (B + 157), .ref (B + 166), .ref (B + 168), .ref (B + 169), .ref (B + 177), .int σ.2.2.2]) := ((hq43 _ (by omega)).trans k40)
          refine tz_get C_ tci_X 0 (by decide) tw_240 k44 rfl td_X_mark_66 ?_
          have k45 : f43 (B + 1) = some (tz_obj 8 [.ref (B + 1 + 1), .ref (B + 1 + 2), .ref (B + 1 + 4), .ref (B + 1 + 5)]) := ((hq43 _ (by omega)).trans k41)
          refine tz_get C_ tci_T 3 (by decide) tw_114 k45 rfl td_X_mark_69 ?_
          refine tz_iload_n C_ 1 rfl rfl td_X_mark_72 ?_
          refine tz_iload_n C_ 3 rfl rfl td_X_mark_73 ?_
          have k46 : f43 (B + 1 + 5) = some (tz_ints cs 6 ml) := ((hq43 _ (by omega)).trans ((hqK _ (by omega)).trans hT.2.2.2.2.1))
          refine tz_wiastN C_ k46 (by omega) (by decide) (g' := upd ml mm i) rfl td_X_mark_74 (fun f47 hs47 hq47 => ?_)
          refine tz_iconst C_ (v := 1) (by decide) td_X_mark_75 ?_
          refine tz_riret C_ hr_ hk_ hQ_ rfl td_X_mark_76 ?_
          have k48 : f47 (B + 166) = some (tz_obj 9 [.ref (B + 166 + 1), .int (nI tn)]) := ((hq47 _ (by omega)).trans ((hq43 _ (by omega)).trans ((hqK _ (by omega)).trans hTu.1)))
          have k49 : f47 (B + 166 + 1) = some (tz_ints cs 120 tg) := ((hq47 _ (by omega)).trans ((hq43 _ (by omega)).trans ((hqK _ (by omega)).trans hTu.2)))
          have k50 : f47 (B + 168) = some (tz_obj 0 [.int zA, .int (nI kA)]) := ((hq47 _ (by omega)).trans ((hq43 _ (by omega)).trans ((hqK _ (by omega)).trans hAl)))
          have k51 : f47 B = some (tz_obj 10 [.ref (B + 1), .ref (B + 15), .ref (B + 157), .ref (B + 166), .ref (B + 168), .ref (B + 169), .ref (B + 177), .int σ.2.2.2]) := ((hq47 _ (by omega)).trans k44)
          have k52 : f47 (B + 1 + 4) = some (tz_ints cs 6 (upd mp mm (nI kr19))) := ((hq47 _ (by omega)).trans hs43)
          have kp53 : tz_Hist cs f47 (B + 15) ((nx + 1) % 20) (min (σ.2.1 + 1) 20) (va_up St nx sK) := hSK.fr (fun q h1_ h2_ => ((hq47 q (by omega)).trans (hq43 q (by omega))))
          have kp54 : tz_Shs cs f47 (B + 157) Sb := hShs.fr (fun q h1_ h2_ => ((hq47 q (by omega)).trans ((hq43 q (by omega)).trans (hqK q (by omega)))))
          have kp55 : tz_PlX cs f47 (B + 169) := hPlX.fr (fun q h1_ h2_ => ((hq47 q (by omega)).trans ((hq43 q (by omega)).trans (hqK q (by omega)))))
          have kp56 : tz_RoX cs f47 (B + 177) := hRoX.fr (fun q h1_ h2_ => ((hq47 q (by omega)).trans ((hq43 q (by omega)).trans (hqK q (by omega)))))
          have e9 : sp_mark σ (nI mm) (nI kr19) i = (1, tz_act σ (tz_smk (tz_cur σ) (upd (tz_cur σ).2.2.2.1 mm (nI kr19)) (upd (tz_cur σ).2.2.2.2 mm i))) := by rw [sp_mark, if_pos h14]; simp only [hpk19]; rw [if_pos (Or.inr (hlkr19 ▸ h33)), nI_clamp (by omega)]
          rw [e9]
          exact ⟨rfl, tz_AX_N (s7 := sK) (t' := tz_smk (tz_cur σ) (upd (tz_cur σ).2.2.2.1 mm (nI kr19)) (upd (tz_cur σ).2.2.2.2 mm i)) hW hag hnx hH hQ hpK hhK (fun q h9 h8 => ((hq47 q (by omega)).trans ((hq43 q (by omega)).trans (hqK q (by omega))))) k51 (hT.mark k52 hs47 (fun q hh => by rw [hq47 q (by omega), hq43 q (by omega), hqK q (by omega)])) kp53 kp54 ⟨_, _, ⟨k48, k49⟩, htn⟩ ⟨_, _, k50⟩ kp55 kp56 rfl (hag.2.1.fr (fun q h9 => ((hq47 q (by omega)).trans ((hq43 q (by omega)).trans (hqK q (by omega)))))) (hag.2.2.1.fr (fun q h9 => ((hq47 q (by omega)).trans ((hq43 q (by omega)).trans (hqK q (by omega)))))) hag.2.2.2.1.up hag.2.2.2.2.up, (fun q hh => by rw [hq47 q (by omega), hq43 q (by omega), hqK q (by omega)])⟩
        · skip
          replace h33 := tz_p0.mp h33
          refine tz_aload_n C_ 0 rfl rfl td_X_mark_36 ?_
          refine tz_ldc C_ tw_273 td_X_mark_37 ?_
          refine tz_cV C_ tmi_X_answer tw_276 tw_0 tw_274 hB0 rfl (As := [.int (-100001)]) (by exact (ct_X_answer (v := -100001) hB0)) rfl (rest := []) rfl (by decide) (Nat.le_of_ble_eq_true rfl) td_X_mark_39 (st1 := [.int (-100001)]) rfl (fun f57 hF57 => ?_)
          obtain ⟨hs58, hq58⟩ := hF57
          refine tz_riret C_ hr_ hk_ hQ_ rfl td_X_mark_42 ?_
          have k59 : f57 (B + 166) = some (tz_obj 9 [.ref (B + 166 + 1), .int (nI tn)]) := ((hq58 _ (by omega)).trans hTu.1)
          have k60 : f57 (B + 166 + 1) = some (tz_ints cs 120 tg) := ((hq58 _ (by omega)).trans hTu.2)
          have k61 : f57 (B + 168) = some (tz_obj 0 [.int zA, .int (nI kA)]) := ((hq58 _ (by omega)).trans hAl)
          have kp62 : tz_Tape cs f57 (B + 1) R (tz_cur σ).2.1 o mp ml := hT.fr (fun q h1_ h2_ => (hq58 q (by omega)))
          have kp63 : tz_Hist cs f57 (B + 15) nx σ.2.1 St := hHi.fr (fun q h1_ h2_ => (hq58 q (by omega)))
          have kp64 : tz_Shs cs f57 (B + 157) Sb := hShs.fr (fun q h1_ h2_ => (hq58 q (by omega)))
          have kp65 : tz_PlX cs f57 (B + 169) := hPlX.fr (fun q h1_ h2_ => (hq58 q (by omega)))
          have kp66 : tz_RoX cs f57 (B + 177) := hRoX.fr (fun q h1_ h2_ => (hq58 q (by omega)))
          have e9 : sp_mark σ m (nI kr19) i = tz_an σ (-100001) := by rw [sp_mark, if_pos h14]; simp only [hpk19]; rw [if_neg (by rw [← hlkr19]; exact not_or.mpr ⟨h24, h33⟩)]
          rw [e9]
          exact ⟨rfl, ⟨R, o, mp, ml, nx, St, Sb, ⟨hs58, kp62, kp63, kp64, ⟨_, _, ⟨k59, k60⟩, htn⟩, ⟨_, _, k61⟩, kp65, kp66⟩, hag.fr (fun q h9 => (hq58 q (by omega))), hnx, hH.fr (fun q h9 => (hq58 q (by omega))), hQ⟩, (fun q hh => by rw [hq58 q (by omega)])⟩
