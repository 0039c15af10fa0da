
def sp_size (s : tz_SG) (p : Int32) : tz_AN := match tz_pk p with
  | none => tz_an s tz_BE
  | some k => (nI (tz_ou (tz_cur s) k (-1)).1, s)
def sp_out (s : tz_SG) (p i : Int32) : tz_AN := match tz_pk p with
  | none => tz_an s tz_BE
  | some k => if 0 ≤ i ∧ i < nI (tz_ou (tz_cur s) k (-1)).1 then tz_an s (tz_at (tz_ou (tz_cur s) k (-1)).1 (tz_ou (tz_cur s) k (-1)).2.1 i) else tz_an s tz_BE
def sp_heard (s : tz_SG) (p w : Int32) : tz_AN := match tz_pk p with
  | none => tz_an s tz_BE
  | some k => if w = 0 then (tz_loud (tz_ou (tz_cur s) k (-1)).2.1 (tz_ou (tz_cur s) k (-1)).1, s) else if w = 1 then (nI (tz_lost (tz_ou (tz_cur s) k (-1)).1 (tz_ou (tz_cur s) k (-1)).2.1), s) else if w = 2 then (nI (tz_unl (tz_ou (tz_cur s) k (-1)).1 (tz_ou (tz_cur s) k (-1)).2.1 (tz_ln s k) (tz_sg s k)), s) else tz_an s tz_BE
def sp_power (s : tz_SG) (p : Int32) : Int64 × tz_SG := match tz_pk p with
  | none => ((tz_an s tz_BE).1.toInt64, (tz_an s tz_BE).2)
  | some k => (tz_sq (tz_ou (tz_cur s) k (-1)).2.1 (tz_ou (tz_cur s) k (-1)).1, s)
def sp_bake (s : tz_SG) (p q : Int32) : tz_AN := match tz_pk p with
  | none => tz_an s tz_BE
  | some a => match tz_pk q with
    | none => tz_an s tz_BE
    | some b => (nI (tz_ou (tz_cur s) a (-1)).1, tz_act s (tz_sr (tz_cur s) b ((tz_ou (tz_cur s) a (-1)).1, (tz_ou (tz_cur s) a (-1)).2.1)))
def sp_align (s : tz_SG) (p q w : Int32) : tz_AN := match tz_pk p with
  | none => tz_an s tz_BE
  | some a => match tz_pk q with
    | none => tz_an s tz_BE
    | some b => if 0 ≤ w ∧ w ≤ 9 then tz_an s (tz_sh (tz_sg s a) (tz_ln s a) (tz_ln s b) (tz_sg s b) (2 * w.toNatClampNeg + 1)).1 else tz_an s tz_BE
def sp_differ (s : tz_SG) (p q d z : Int32) : tz_AN := match tz_pk p with
  | none => tz_an s tz_BE
  | some a => match tz_pk q with
    | none => tz_an s tz_BE
    | some b => if -9 ≤ d ∧ d ≤ 9 then (if z = 0 then tz_ds (tz_sg s a) (tz_ln s b) (tz_sg s b) d (tz_ln s a) else nI (tz_dn (tz_sg s a) (tz_ln s b) (tz_sg s b) d (tz_ln s a)), s) else tz_an s tz_BE
def sp_moment (s : tz_SG) (m : Int32) : tz_AN := if 0 ≤ m ∧ m < 6 then (match tz_pk ((tz_cur s).2.2.2.1 m.toNatClampNeg) with
  | none => tz_an s tz_NO
  | some k => if 0 ≤ (tz_cur s).2.2.2.2 m.toNatClampNeg ∧ (tz_cur s).2.2.2.2 m.toNatClampNeg < nI (tz_ln s k) then (if (tz_ou (tz_cur s) k ((tz_cur s).2.2.2.2 m.toNatClampNeg)).2.2 = -1 then tz_an s tz_LO else ((tz_ou (tz_cur s) k ((tz_cur s).2.2.2.2 m.toNatClampNeg)).2.2, s)) else tz_an s tz_NO) else tz_an s tz_BE

abbrev rm_X_size : Room := { frames := 6, cells := 0, slots := 0, locals := 149 }
set_option maxHeartbeats 4000000 in
set_option maxRecDepth 100000 in
theorem ct_X_size {l : Launch} {A : Nat → Prop} {D : va_G} {cs : Nat → ClassId} {sz : Nat} {f : tz_PH} {B L0 : Nat} {σ : tz_SG} (hX : tz_AX cs L0 f B σ) (hW : tz_WF σ) (hB : B + 179 ≤ L0) {p : Int32} : tz_CN l tyX_size prog_1_method_18_code 3 (some (.int)) rm_X_size 0 0 A D cs sz [.ref B, .int p] f (some (.int (sp_size σ p).1)) (fun f' => tz_AX cs L0 f' B (sp_size σ p).2 ∧ ∀ q, (q < B ∨ B + 179 ≤ q) → f' q = f q) := by
  refine tz_C.ofB (lv0 := [(0, .ref B), (1, .int p)]) (plainFor_of_name (by decide)) (Nat.le_of_ble_eq_true rfl) rfl ?_
  intro p_ e_ s_ m_ ar_ be_ me_ c_ Q_ C_ hr_ hk_ hnm_ hz_ hQ_
  obtain ⟨R, o, mp, ml, nx, St, Sb, hXB, hag, hnx, hH, hQ⟩ := hX
  obtain ⟨hB0, hT, hHi, hShs, hTuX, hAlX, hPlX, hRoX⟩ := hXB
  have hTu9 := hTuX
  obtain ⟨tn, tg, hTu, htn⟩ := hTu9
  have hAl9 := hAlX
  obtain ⟨zA, kA, hAl⟩ := hAl9
  have hPl9 := hPlX
  obtain ⟨pr, px, pfo, pz, pk, ptn, ptg, pn, pg, pn2, pg2, hPl, hpn, hptn⟩ := hPl9
  have hRo9 := hRoX
  obtain ⟨jn, jg, hRo, hjn⟩ := hRo9
  have hrx := hPl.2.2.2.2.2
  have hRn : ∀ p, p < 4 → (R p).1 ≤ 120 := fun p hp => by rw [(hag.1 p hp).1]; exact (hW.cur.1 p hp).1
  have hnl : (tz_cur σ).2.1 ≤ 8 := hW.cur.2.1
  have hkp : σ.2.1 ≤ 20 := hW.1
  have hSn : ∀ s, s < 4 → (Sb s).2.1 ≤ 120 := fun s hs => by rw [(hQ s hs).2.1]; exact (hW.2.2 s hs).1
  refine tz_aload_n C_ 0 rfl rfl td_X_size_0 ?_
  refine tz_get C_ tci_X 0 (by decide) tw_240 hB0 rfl td_X_size_1 ?_
  refine tz_iload_n C_ 1 rfl rfl td_X_size_4 ?_
  refine tz_rV C_ tmi_T_rowAt tw_270 tw_271 tw_269 hT.1 rfl (As := [.int p]) (by exact (ct_T_rowAt hT)) rfl (rest := []) rfl (by decide) (Nat.le_of_ble_eq_true rfl) td_X_size_5 (st1 := [va_rf (tz_rof (B + 1) p)]) rfl ?_
  refine tz_astore_nQ C_ (lv' := [(0, .ref B), (1, .int p), (2, va_rf (tz_rof (B + 1) p))]) [1, 2, 0] rfl (by decide) rfl td_X_size_8 ?_
  refine tz_aload_nQ C_ 2 rfl rfl td_X_size_9 ?_
  refine tz_ifnonnull C_ td_X_size_10 (fun q10 h10 => ?_) (fun h10 => ?_)
  · skip
    obtain ⟨kr10, hkr10, ekr10, eqkr10⟩ := tz_rof_some h10
    rw [h10]
    subst eqkr10
    subst ekr10
    have hpk10 := tz_pk_N hkr10
    have hRnkr10 := hRn kr10 hkr10
    have hlkr10 : (R kr10).1 = tz_ln σ kr10 := (hag.1 kr10 hkr10).1
    have hgkr10 : ∀ j, j < tz_ln σ kr10 → (R kr10).2 j = tz_sg σ kr10 j := (hag.1 kr10 hkr10).2
    have hakr10 : tz_at (R kr10).1 (R kr10).2 = tz_at (tz_ln σ kr10) (tz_sg σ kr10) := tz_agR.at hag.1 hkr10 (hW.cur.1 kr10 hkr10).1
    have hckr10 : tz_ln σ kr10 ≤ 120 := (hW.cur.1 kr10 hkr10).1
    refine tz_aload_n C_ 0 rfl rfl td_X_size_20 ?_
    refine tz_get C_ tci_X 5 (by decide) tw_245 hB0 rfl td_X_size_21 ?_
    refine tz_aload_n C_ 0 rfl rfl td_X_size_24 ?_
    refine tz_get C_ tci_X 0 (by decide) tw_240 hB0 rfl td_X_size_25 ?_
    refine tz_aload_n C_ 2 rfl rfl td_X_size_28 ?_
    refine tz_iconst C_ (v := -1) (by decide) td_X_size_29 ?_
    refine tz_cVQ C_ tmi_P_play tw_561 tw_562 tw_560 hPl.1 rfl (As := [.ref (B + 1), .ref (B + 1 + 6 + 2 * kr10), .int (-1)]) (by exact (ct_P_play (lay := tz_lyr σ) hPl hpn hptn hT (hag.2.1.fr (fun q h9 => rfl)) (fun k hk => (hW.cur.2.2.1 k hk).1) hnl hRn (by omega) (by omega) ⟨(hT.2.2.2.2.2 kr10 hkr10).1, (hT.2.2.2.2.2 kr10 hkr10).2⟩ (by omega) (by omega))) rfl (rest := []) rfl (by decide) (Nat.le_of_ble_eq_true rfl) td_X_size_30 (fun qr1 f1 hF1 => ?_)
    obtain ⟨⟨xP, foP, zP, kP, tnP, tgP, nP, gP, n2P, g2P, hPlP, hIP, hnP, htnP⟩, hqP⟩ := hF1
    have hrxP := hPlP.2.2.2.2.2
    obtain ⟨hou1, hou2, hou3⟩ := tz_ou_of hag hW.cur hkr10 hIP
    have houl := tz_ou_le hW.cur hkr10 (-1)
    have hPXP : tz_PlX cs f1 (B + 169) := ⟨qr1, xP, foP, zP, kP, tnP, tgP, nP, gP, n2P, g2P, hPlP, hnP, htnP⟩
    refine tz_rV C_ tmi_R_length tw_308 tw_309 tw_307 hPlP.2.2.2.1.1 rfl (As := []) (by exact (ct_R_length (n := nP) (g := gP) ⟨hPlP.2.2.2.1.1, hPlP.2.2.2.1.2⟩)) rfl (rest := []) rfl (by decide) (Nat.le_of_ble_eq_true rfl) td_X_size_33 (st1 := [.int (nI nP)]) rfl ?_
    refine tz_riret C_ hr_ hk_ hQ_ rfl td_X_size_36 ?_
    have k2 : f1 (B + 166) = some (tz_obj 9 [.ref (B + 166 + 1), .int (nI tn)]) := ((hqP _ (by omega)).trans hTu.1)
    have k3 : f1 (B + 166 + 1) = some (tz_ints cs 120 tg) := ((hqP _ (by omega)).trans hTu.2)
    have k4 : f1 (B + 168) = some (tz_obj 0 [.int zA, .int (nI kA)]) := ((hqP _ (by omega)).trans hAl)
    have k5 : f1 B = some (tz_obj 10 [.ref (B + 1), .ref (B + 15), .ref (B + 157), .ref (B + 166), .ref (B + 168), .ref (B + 169), .ref (B + 177), .int σ.2.2.2]) := ((hqP _ (by omega)).trans hB0)
    have kp6 : tz_Tape cs f1 (B + 1) R (tz_cur σ).2.1 o mp ml := hT.fr (fun q h1_ h2_ => (hqP q (by omega)))
    have kp7 : tz_Hist cs f1 (B + 15) nx σ.2.1 St := hHi.fr (fun q h1_ h2_ => (hqP q (by omega)))
    have kp8 : tz_Shs cs f1 (B + 157) Sb := hShs.fr (fun q h1_ h2_ => (hqP q (by omega)))
    have kp9 : tz_RoX cs f1 (B + 177) := hRoX.fr (fun q h1_ h2_ => (hqP q (by omega)))
    have e9 : sp_size σ (nI kr10) = (nI nP, σ) := by simp only [sp_size, hpk10]; rw [hou1]
    rw [e9]
    exact ⟨rfl, ⟨R, o, mp, ml, nx, St, Sb, ⟨k5, kp6, kp7, kp8, ⟨_, _, ⟨k2, k3⟩, htn⟩, ⟨_, _, k4⟩, hPXP, kp9⟩, hag.fr (fun q h9 => (hqP q (by omega))), hnx, hH.fr (fun q h9 => (hqP q (by omega))), hQ⟩, (fun q hh => by rw [hqP q (by omega)])⟩
  · skip
    rw [h10]
    have hpk10 := tz_pk_none h10
    refine tz_aload_n C_ 0 rfl rfl td_X_size_13 ?_
    refine tz_ldc C_ tw_273 td_X_size_14 ?_
    refine tz_cV C_ tmi_X_answer tw_276 tw_0 tw_274 hB0 rfl (As := [.int (-100001)]) (by exact (ct_X_answer (v := -100001) hB0)) rfl (rest := []) rfl (by decide) (Nat.le_of_ble_eq_true rfl) td_X_size_16 (st1 := [.int (-100001)]) rfl (fun f10 hF10 => ?_)
    obtain ⟨hs11, hq11⟩ := hF10
    refine tz_riret C_ hr_ hk_ hQ_ rfl td_X_size_19 ?_
    have k12 : f10 (B + 166) = some (tz_obj 9 [.ref (B + 166 + 1), .int (nI tn)]) := ((hq11 _ (by omega)).trans hTu.1)
    have k13 : f10 (B + 166 + 1) = some (tz_ints cs 120 tg) := ((hq11 _ (by omega)).trans hTu.2)
    have k14 : f10 (B + 168) = some (tz_obj 0 [.int zA, .int (nI kA)]) := ((hq11 _ (by omega)).trans hAl)
    have kp15 : tz_Tape cs f10 (B + 1) R (tz_cur σ).2.1 o mp ml := hT.fr (fun q h1_ h2_ => (hq11 q (by omega)))
    have kp16 : tz_Hist cs f10 (B + 15) nx σ.2.1 St := hHi.fr (fun q h1_ h2_ => (hq11 q (by omega)))
    have kp17 : tz_Shs cs f10 (B + 157) Sb := hShs.fr (fun q h1_ h2_ => (hq11 q (by omega)))
    have kp18 : tz_PlX cs f10 (B + 169) := hPlX.fr (fun q h1_ h2_ => (hq11 q (by omega)))
    have kp19 : tz_RoX cs f10 (B + 177) := hRoX.fr (fun q h1_ h2_ => (hq11 q (by omega)))
    have e9 : sp_size σ p = tz_an σ (-100001) := by simp only [sp_size, hpk10]
    rw [e9]
    exact ⟨rfl, ⟨R, o, mp, ml, nx, St, Sb, ⟨hs11, kp15, kp16, kp17, ⟨_, _, ⟨k12, k13⟩, htn⟩, ⟨_, _, k14⟩, kp18, kp19⟩, hag.fr (fun q h9 => (hq11 q (by omega))), hnx, hH.fr (fun q h9 => (hq11 q (by omega))), hQ⟩, (fun q hh => by rw [hq11 q (by omega)])⟩

abbrev rm_X_out : Room := { frames := 6, cells := 0, slots := 0, locals := 149 }
set_option maxHeartbeats 4000000 in
set_option maxRecDepth 100000 in
theorem ct_X_out {l : Launch} {A : Nat → Prop} {D : va_G} {cs : Nat → ClassId} {sz : Nat} {f : tz_PH} {B L0 : Nat} {σ : tz_SG} (hX : tz_AX cs L0 f B σ) (hW : tz_WF σ) (hB : B + 179 ≤ L0) {p i : Int32} : tz_CN l tyX_out prog_1_method_19_code 5 (some (.int)) rm_X_out 0 0 A D cs sz [.ref B, .int p, .int i] f (some (.int (sp_out σ p i).1)) (fun f' => tz_AX cs L0 f' B (sp_out σ p i).2 ∧ ∀ q, (q < B ∨ B + 179 ≤ q) → f' q = f q) := by
  refine tz_C.ofB (lv0 := [(0, .ref B), (1, .int p), (2, .int i)]) (plainFor_of_name (by decide)) (Nat.le_of_ble_eq_true rfl) rfl ?_
  intro p_ e_ s_ m_ ar_ be_ me_ c_ Q_ C_ hr_ hk_ hnm_ hz_ hQ_
  obtain ⟨R, o, mp, ml, nx, St, Sb, hXB, hag, hnx, hH, hQ⟩ := hX
  obtain ⟨hB0, hT, hHi, hShs, hTuX, hAlX, hPlX, hRoX⟩ := hXB
  have hTu9 := hTuX
  obtain ⟨tn, tg, hTu, htn⟩ := hTu9
  have hAl9 := hAlX
  obtain ⟨zA, kA, hAl⟩ := hAl9
  have hPl9 := hPlX
  obtain ⟨pr, px, pfo, pz, pk, ptn, ptg, pn, pg, pn2, pg2, hPl, hpn, hptn⟩ := hPl9
  have hRo9 := hRoX
  obtain ⟨jn, jg, hRo, hjn⟩ := hRo9
  have hrx := hPl.2.2.2.2.2
  have hRn : ∀ p, p < 4 → (R p).1 ≤ 120 := fun p hp => by rw [(hag.1 p hp).1]; exact (hW.cur.1 p hp).1
  have hnl : (tz_cur σ).2.1 ≤ 8 := hW.cur.2.1
  have hkp : σ.2.1 ≤ 20 := hW.1
  have hSn : ∀ s, s < 4 → (Sb s).2.1 ≤ 120 := fun s hs => by rw [(hQ s hs).2.1]; exact (hW.2.2 s hs).1
  refine tz_aload_n C_ 0 rfl rfl td_X_out_0 ?_
  refine tz_get C_ tci_X 0 (by decide) tw_240 hB0 rfl td_X_out_1 ?_
  refine tz_iload_n C_ 1 rfl rfl td_X_out_4 ?_
  refine tz_rV C_ tmi_T_rowAt tw_270 tw_271 tw_269 hT.1 rfl (As := [.int p]) (by exact (ct_T_rowAt hT)) rfl (rest := []) rfl (by decide) (Nat.le_of_ble_eq_true rfl) td_X_out_5 (st1 := [va_rf (tz_rof (B + 1) p)]) rfl ?_
  refine tz_astore_nQ C_ (lv' := [(0, .ref B), (1, .int p), (2, .int i), (3, va_rf (tz_rof (B + 1) p))]) [1, 2, 3, 0] rfl (by decide) rfl td_X_out_8 ?_
  refine tz_aload_nQ C_ 3 rfl rfl td_X_out_9 ?_
  refine tz_ifnonnull C_ td_X_out_10 (fun q10 h10 => ?_) (fun h10 => ?_)
  · skip
    obtain ⟨kr10, hkr10, ekr10, eqkr10⟩ := tz_rof_some h10
    rw [h10]
    subst eqkr10
    subst ekr10
    have hpk10 := tz_pk_N hkr10
    have hRnkr10 := hRn kr10 hkr10
    have hlkr10 : (R kr10).1 = tz_ln σ kr10 := (hag.1 kr10 hkr10).1
    have hgkr10 : ∀ j, j < tz_ln σ kr10 → (R kr10).2 j = tz_sg σ kr10 j := (hag.1 kr10 hkr10).2
    have hakr10 : tz_at (R kr10).1 (R kr10).2 = tz_at (tz_ln σ kr10) (tz_sg σ kr10) := tz_agR.at hag.1 hkr10 (hW.cur.1 kr10 hkr10).1
    have hckr10 : tz_ln σ kr10 ≤ 120 := (hW.cur.1 kr10 hkr10).1
    refine tz_aload_n C_ 0 rfl rfl td_X_out_20 ?_
    refine tz_get C_ tci_X 5 (by decide) tw_245 hB0 rfl td_X_out_21 ?_
    refine tz_aload_n C_ 0 rfl rfl td_X_out_24 ?_
    refine tz_get C_ tci_X 0 (by decide) tw_240 hB0 rfl td_X_out_25 ?_
    refine tz_aload_n C_ 3 rfl rfl td_X_out_28 ?_
    refine tz_iconst C_ (v := -1) (by decide) td_X_out_29 ?_
    refine tz_cVQ C_ tmi_P_play tw_561 tw_562 tw_560 hPl.1 rfl (As := [.ref (B + 1), .ref (B + 1 + 6 + 2 * kr10), .int (-1)]) (by exact (ct_P_play (lay := tz_lyr σ) hPl hpn hptn hT (hag.2.1.fr (fun q h9 => rfl)) (fun k hk => (hW.cur.2.2.1 k hk).1) hnl hRn (by omega) (by omega) ⟨(hT.2.2.2.2.2 kr10 hkr10).1, (hT.2.2.2.2.2 kr10 hkr10).2⟩ (by omega) (by omega))) rfl (rest := []) rfl (by decide) (Nat.le_of_ble_eq_true rfl) td_X_out_30 (fun qr1 f1 hF1 => ?_)
    obtain ⟨⟨xP, foP, zP, kP, tnP, tgP, nP, gP, n2P, g2P, hPlP, hIP, hnP, htnP⟩, hqP⟩ := hF1
    have hrxP := hPlP.2.2.2.2.2
    obtain ⟨hou1, hou2, hou3⟩ := tz_ou_of hag hW.cur hkr10 hIP
    have houl := tz_ou_le hW.cur hkr10 (-1)
    have hPXP : tz_PlX cs f1 (B + 169) := ⟨qr1, xP, foP, zP, kP, tnP, tgP, nP, gP, n2P, g2P, hPlP, hnP, htnP⟩
    refine tz_astore C_ (lv' := [(0, .ref B), (1, .int (nI kr10)), (2, .int i), (3, .ref (B + 1 + 6 + 2 * kr10)), (4, .ref qr1)]) [1, 2, 3, 4, 0] (by decide) rfl td_X_out_33 ?_
    refine tz_aload C_ 4 rfl td_X_out_35 ?_
    refine tz_iload_n C_ 2 rfl rfl td_X_out_37 ?_
    refine tz_rV C_ tmi_R_has tw_325 tw_326 tw_324 hPlP.2.2.2.1.1 rfl (As := [.int i]) (by exact (ct_R_has (n := nP) (g := gP) ⟨hPlP.2.2.2.1.1, hPlP.2.2.2.1.2⟩ (by omega))) rfl (rest := []) rfl (by decide) (Nat.le_of_ble_eq_true rfl) td_X_out_38 (st1 := [.int (tz_p (0 ≤ i ∧ i < nI nP))]) rfl ?_
    refine tz_if_ne C_ td_X_out_41 (fun h41 => ?_) (fun h41 => ?_)
    · skip
      replace h41 := tz_p1.mp h41
      refine tz_aload_n C_ 0 rfl rfl td_X_out_51 ?_
      refine tz_aload C_ 4 rfl td_X_out_52 ?_
      refine tz_iload_n C_ 2 rfl rfl td_X_out_54 ?_
      refine tz_rV C_ tmi_R_at tw_332 tw_333 tw_331 hPlP.2.2.2.1.1 rfl (As := [.int i]) (by exact (ct_R_at (n := nP) (g := gP) ⟨hPlP.2.2.2.1.1, hPlP.2.2.2.1.2⟩ (by omega))) rfl (rest := [.ref B]) rfl (by decide) (Nat.le_of_ble_eq_true rfl) td_X_out_55 (st1 := [.int (tz_at nP gP i), .ref B]) rfl ?_
      have k2 : f1 B = some (tz_obj 10 [.ref (B + 1), .ref (B + 15), .ref (B + 157), .ref (B + 166), .ref (B + 168), .ref (B + 169), .ref (B + 177), .int σ.2.2.2]) := ((hqP _ (by omega)).trans hB0)
      refine tz_cV C_ tmi_X_answer tw_276 tw_0 tw_274 k2 rfl (As := [.int (tz_at nP gP i)]) (by exact (ct_X_answer (v := tz_at nP gP i) k2)) rfl (rest := []) rfl (by decide) (Nat.le_of_ble_eq_true rfl) td_X_out_58 (st1 := [.int (tz_at nP gP i)]) rfl (fun f3 hF3 => ?_)
      obtain ⟨hs4, hq4⟩ := hF3
      refine tz_riret C_ hr_ hk_ hQ_ rfl td_X_out_61 ?_
      have k5 : f3 (B + 166) = some (tz_obj 9 [.ref (B + 166 + 1), .int (nI tn)]) := ((hq4 _ (by omega)).trans ((hqP _ (by omega)).trans hTu.1))
      have k6 : f3 (B + 166 + 1) = some (tz_ints cs 120 tg) := ((hq4 _ (by omega)).trans ((hqP _ (by omega)).trans hTu.2))
      have k7 : f3 (B + 168) = some (tz_obj 0 [.int zA, .int (nI kA)]) := ((hq4 _ (by omega)).trans ((hqP _ (by omega)).trans hAl))
      have kp8 : tz_Tape cs f3 (B + 1) R (tz_cur σ).2.1 o mp ml := hT.fr (fun q h1_ h2_ => ((hq4 q (by omega)).trans (hqP q (by omega))))
      have kp9 : tz_Hist cs f3 (B + 15) nx σ.2.1 St := hHi.fr (fun q h1_ h2_ => ((hq4 q (by omega)).trans (hqP q (by omega))))
      have kp10 : tz_Shs cs f3 (B + 157) Sb := hShs.fr (fun q h1_ h2_ => ((hq4 q (by omega)).trans (hqP q (by omega))))
      have kp11 : tz_PlX cs f3 (B + 169) := hPXP.fr (fun q h1_ h2_ => (hq4 q (by omega)))
      have kp12 : tz_RoX cs f3 (B + 177) := hRoX.fr (fun q h1_ h2_ => ((hq4 q (by omega)).trans (hqP q (by omega))))
      have e9 : sp_out σ (nI kr10) i = tz_an σ (tz_at nP gP i) := by 
        have a1 : tz_at nP gP = tz_at (tz_ou (tz_cur σ) kr10 (-1)).1 (tz_ou (tz_cur σ) kr10 (-1)).2.1 := by rw [hou1]; exact tz_at_cg hou2 houl
        simp only [sp_out, hpk10]; rw [if_pos (hou1 ▸ h41), a1]
      rw [e9]
      exact ⟨rfl, ⟨R, o, mp, ml, nx, St, Sb, ⟨hs4, kp8, kp9, kp10, ⟨_, _, ⟨k5, k6⟩, htn⟩, ⟨_, _, k7⟩, kp11, kp12⟩, hag.fr (fun q h9 => ((hq4 q (by omega)).trans (hqP q (by omega)))), hnx, hH.fr (fun q h9 => ((hq4 q (by omega)).trans (hqP q (by omega)))), hQ⟩, (fun q hh => by rw [hq4 q (by omega), hqP q (by omega)])⟩
    · skip
      replace h41 := tz_p0.mp h41
      refine tz_aload_n C_ 0 rfl rfl td_X_out_44 ?_
      refine tz_ldc C_ tw_273 td_X_out_45 ?_
      have k13 : f1 B = some (tz_obj 10 [.ref (B + 1), .ref (B + 15), .ref (B + 157), .ref (B + 166), .ref (B + 168), .ref (B + 169), .ref (B + 177), .int σ.2.2.2]) := ((hqP _ (by omega)).trans hB0)
      refine tz_cV C_ tmi_X_answer tw_276 tw_0 tw_274 k13 rfl (As := [.int (-100001)]) (by exact (ct_X_answer (v := -100001) k13)) rfl (rest := []) rfl (by decide) (Nat.le_of_ble_eq_true rfl) td_X_out_47 (st1 := [.int (-100001)]) rfl (fun f14 hF14 => ?_)
      obtain ⟨hs15, hq15⟩ := hF14
      refine tz_riret C_ hr_ hk_ hQ_ rfl td_X_out_50 ?_
      have k16 : f14 (B + 166) = some (tz_obj 9 [.ref (B + 166 + 1), .int (nI tn)]) := ((hq15 _ (by omega)).trans ((hqP _ (by omega)).trans hTu.1))
      have k17 : f14 (B + 166 + 1) = some (tz_ints cs 120 tg) := ((hq15 _ (by omega)).trans ((hqP _ (by omega)).trans hTu.2))
      have k18 : f14 (B + 168) = some (tz_obj 0 [.int zA, .int (nI kA)]) := ((hq15 _ (by omega)).trans ((hqP _ (by omega)).trans hAl))
      have kp19 : tz_Tape cs f14 (B + 1) R (tz_cur σ).2.1 o mp ml := hT.fr (fun q h1_ h2_ => ((hq15 q (by omega)).trans (hqP q (by omega))))
      have kp20 : tz_Hist cs f14 (B + 15) nx σ.2.1 St := hHi.fr (fun q h1_ h2_ => ((hq15 q (by omega)).trans (hqP q (by omega))))
      have kp21 : tz_Shs cs f14 (B + 157) Sb := hShs.fr (fun q h1_ h2_ => ((hq15 q (by omega)).trans (hqP q (by omega))))
      have kp22 : tz_PlX cs f14 (B + 169) := hPXP.fr (fun q h1_ h2_ => (hq15 q (by omega)))
      have kp23 : tz_RoX cs f14 (B + 177) := hRoX.fr (fun q h1_ h2_ => ((hq15 q (by omega)).trans (hqP q (by omega))))
      have e9 : sp_out σ (nI kr10) i = tz_an σ (-100001) := by simp only [sp_out, hpk10]; rw [if_neg (hou1 ▸ h41)]
      rw [e9]
      exact ⟨rfl, ⟨R, o, mp, ml, nx, St, Sb, ⟨hs15, kp19, kp20, kp21, ⟨_, _, ⟨k16, k17⟩, htn⟩, ⟨_, _, k18⟩, kp22, kp23⟩, hag.fr (fun q h9 => ((hq15 q (by omega)).trans (hqP q (by omega)))), hnx, hH.fr (fun q h9 => ((hq15 q (by omega)).trans (hqP q (by omega)))), hQ⟩, (fun q hh => by rw [hq15 q (by omega), hqP q (by omega)])⟩
  · skip
    rw [h10]
    have hpk10 := tz_pk_none h10
    refine tz_aload_n C_ 0 rfl rfl td_X_out_13 ?_
    refine tz_ldc C_ tw_273 td_X_out_14 ?_
    refine tz_cV C_ tmi_X_answer tw_276 tw_0 tw_274 hB0 rfl (As := [.int (-100001)]) (by exact (ct_X_answer (v := -100001) hB0)) rfl (rest := []) rfl (by decide) (Nat.le_of_ble_eq_true rfl) td_X_out_16 (st1 := [.int (-100001)]) rfl (fun f24 hF24 => ?_)
    obtain ⟨hs25, hq25⟩ := hF24
    refine tz_riret C_ hr_ hk_ hQ_ rfl td_X_out_19 ?_
    have k26 : f24 (B + 166) = some (tz_obj 9 [.ref (B + 166 + 1), .int (nI tn)]) := ((hq25 _ (by omega)).trans hTu.1)
    have k27 : f24 (B + 166 + 1) = some (tz_ints cs 120 tg) := ((hq25 _ (by omega)).trans hTu.2)
    have k28 : f24 (B + 168) = some (tz_obj 0 [.int zA, .int (nI kA)]) := ((hq25 _ (by omega)).trans hAl)
    have kp29 : tz_Tape cs f24 (B + 1) R (tz_cur σ).2.1 o mp ml := hT.fr (fun q h1_ h2_ => (hq25 q (by omega)))
    have kp30 : tz_Hist cs f24 (B + 15) nx σ.2.1 St := hHi.fr (fun q h1_ h2_ => (hq25 q (by omega)))
    have kp31 : tz_Shs cs f24 (B + 157) Sb := hShs.fr (fun q h1_ h2_ => (hq25 q (by omega)))
    have kp32 : tz_PlX cs f24 (B + 169) := hPlX.fr (fun q h1_ h2_ => (hq25 q (by omega)))
    have kp33 : tz_RoX cs f24 (B + 177) := hRoX.fr (fun q h1_ h2_ => (hq25 q (by omega)))
    have e9 : sp_out σ p i = tz_an σ (-100001) := by simp only [sp_out, hpk10]
    rw [e9]
    exact ⟨rfl, ⟨R, o, mp, ml, nx, St, Sb, ⟨hs25, kp29, kp30, kp31, ⟨_, _, ⟨k26, k27⟩, htn⟩, ⟨_, _, k28⟩, kp32, kp33⟩, hag.fr (fun q h9 => (hq25 q (by omega))), hnx, hH.fr (fun q h9 => (hq25 q (by omega))), hQ⟩, (fun q hh => by rw [hq25 q (by omega)])⟩

abbrev rm_X_heard : Room := { frames := 6, cells := 0, slots := 0, locals := 149 }
set_option maxHeartbeats 4000000 in
set_option maxRecDepth 100000 in
theorem ct_X_heard {l : Launch} {A : Nat → Prop} {D : va_G} {cs : Nat → ClassId} {sz : Nat} {f : tz_PH} {B L0 : Nat} {σ : tz_SG} (hX : tz_AX cs L0 f B σ) (hW : tz_WF σ) (hB : B + 179 ≤ L0) {p w : Int32} : tz_CN l tyX_heard prog_1_method_20_code 5 (some (.int)) rm_X_heard 0 0 A D cs sz [.ref B, .int p, .int w] f (some (.int (sp_heard σ p w).1)) (fun f' => tz_AX cs L0 f' B (sp_heard σ p w).2 ∧ ∀ q, (q < B ∨ B + 179 ≤ q) → f' q = f q) := by
  refine tz_C.ofB (lv0 := [(0, .ref B), (1, .int p), (2, .int w)]) (plainFor_of_name (by decide)) (Nat.le_of_ble_eq_true rfl) rfl ?_
  intro p_ e_ s_ m_ ar_ be_ me_ c_ Q_ C_ hr_ hk_ hnm_ hz_ hQ_
  obtain ⟨R, o, mp, ml, nx, St, Sb, hXB, hag, hnx, hH, hQ⟩ := hX
  obtain ⟨hB0, hT, hHi, hShs, hTuX, hAlX, hPlX, hRoX⟩ := hXB
  have hTu9 := hTuX
  obtain ⟨tn, tg, hTu, htn⟩ := hTu9
  have hAl9 := hAlX
  obtain ⟨zA, kA, hAl⟩ := hAl9
  have hPl9 := hPlX
  obtain ⟨pr, px, pfo, pz, pk, ptn, ptg, pn, pg, pn2, pg2, hPl, hpn, hptn⟩ := hPl9
  have hRo9 := hRoX
  obtain ⟨jn, jg, hRo, hjn⟩ := hRo9
  have hrx := hPl.2.2.2.2.2
  have hRn : ∀ p, p < 4 → (R p).1 ≤ 120 := fun p hp => by rw [(hag.1 p hp).1]; exact (hW.cur.1 p hp).1
  have hnl : (tz_cur σ).2.1 ≤ 8 := hW.cur.2.1
  have hkp : σ.2.1 ≤ 20 := hW.1
  have hSn : ∀ s, s < 4 → (Sb s).2.1 ≤ 120 := fun s hs => by rw [(hQ s hs).2.1]; exact (hW.2.2 s hs).1
  refine tz_aload_n C_ 0 rfl rfl td_X_heard_0 ?_
  refine tz_get C_ tci_X 0 (by decide) tw_240 hB0 rfl td_X_heard_1 ?_
  refine tz_iload_n C_ 1 rfl rfl td_X_heard_4 ?_
  refine tz_rV C_ tmi_T_rowAt tw_270 tw_271 tw_269 hT.1 rfl (As := [.int p]) (by exact (ct_T_rowAt hT)) rfl (rest := []) rfl (by decide) (Nat.le_of_ble_eq_true rfl) td_X_heard_5 (st1 := [va_rf (tz_rof (B + 1) p)]) rfl ?_
  refine tz_astore_nQ C_ (lv' := [(0, .ref B), (1, .int p), (2, .int w), (3, va_rf (tz_rof (B + 1) p))]) [1, 2, 3, 0] rfl (by decide) rfl td_X_heard_8 ?_
  refine tz_aload_nQ C_ 3 rfl rfl td_X_heard_9 ?_
  refine tz_ifnonnull C_ td_X_heard_10 (fun q10 h10 => ?_) (fun h10 => ?_)
  · skip
    obtain ⟨kr10, hkr10, ekr10, eqkr10⟩ := tz_rof_some h10
    rw [h10]
    subst eqkr10
    subst ekr10
    have hpk10 := tz_pk_N hkr10
    have hRnkr10 := hRn kr10 hkr10
    have hlkr10 : (R kr10).1 = tz_ln σ kr10 := (hag.1 kr10 hkr10).1
    have hgkr10 : ∀ j, j < tz_ln σ kr10 → (R kr10).2 j = tz_sg σ kr10 j := (hag.1 kr10 hkr10).2
    have hakr10 : tz_at (R kr10).1 (R kr10).2 = tz_at (tz_ln σ kr10) (tz_sg σ kr10) := tz_agR.at hag.1 hkr10 (hW.cur.1 kr10 hkr10).1
    have hckr10 : tz_ln σ kr10 ≤ 120 := (hW.cur.1 kr10 hkr10).1
    refine tz_aload_n C_ 0 rfl rfl td_X_heard_20 ?_
    refine tz_get C_ tci_X 5 (by decide) tw_245 hB0 rfl td_X_heard_21 ?_
    refine tz_aload_n C_ 0 rfl rfl td_X_heard_24 ?_
    refine tz_get C_ tci_X 0 (by decide) tw_240 hB0 rfl td_X_heard_25 ?_
    refine tz_aload_n C_ 3 rfl rfl td_X_heard_28 ?_
    refine tz_iconst C_ (v := -1) (by decide) td_X_heard_29 ?_
    refine tz_cVQ C_ tmi_P_play tw_561 tw_562 tw_560 hPl.1 rfl (As := [.ref (B + 1), .ref (B + 1 + 6 + 2 * kr10), .int (-1)]) (by exact (ct_P_play (lay := tz_lyr σ) hPl hpn hptn hT (hag.2.1.fr (fun q h9 => rfl)) (fun k hk => (hW.cur.2.2.1 k hk).1) hnl hRn (by omega) (by omega) ⟨(hT.2.2.2.2.2 kr10 hkr10).1, (hT.2.2.2.2.2 kr10 hkr10).2⟩ (by omega) (by omega))) rfl (rest := []) rfl (by decide) (Nat.le_of_ble_eq_true rfl) td_X_heard_30 (fun qr1 f1 hF1 => ?_)
    obtain ⟨⟨xP, foP, zP, kP, tnP, tgP, nP, gP, n2P, g2P, hPlP, hIP, hnP, htnP⟩, hqP⟩ := hF1
    have hrxP := hPlP.2.2.2.2.2
    obtain ⟨hou1, hou2, hou3⟩ := tz_ou_of hag hW.cur hkr10 hIP
    have houl := tz_ou_le hW.cur hkr10 (-1)
    have hPXP : tz_PlX cs f1 (B + 169) := ⟨qr1, xP, foP, zP, kP, tnP, tgP, nP, gP, n2P, g2P, hPlP, hnP, htnP⟩
    refine tz_astore C_ (lv' := [(0, .ref B), (1, .int (nI kr10)), (2, .int w), (3, .ref (B + 1 + 6 + 2 * kr10)), (4, .ref qr1)]) [1, 2, 3, 4, 0] (by decide) rfl td_X_heard_33 ?_
    refine tz_iload_n C_ 2 rfl rfl td_X_heard_35 ?_
    by_cases h36_0 : w = 0
    · skip
      refine tz_tableIn C_ td_X_heard_36 (off := 28) (tgt := 64) (by rw [h36_0]; decide) (by decide) ?_
      refine tz_aload C_ 4 rfl td_X_heard_64 ?_
      refine tz_rV C_ tmi_R_loudest tw_657 tw_658 tw_656 hPlP.2.2.2.1.1 rfl (As := []) (by exact (ct_R_loudest (n := nP) (g := gP) ⟨hPlP.2.2.2.1.1, hPlP.2.2.2.1.2⟩ (by omega))) rfl (rest := []) rfl (by decide) (Nat.le_of_ble_eq_true rfl) td_X_heard_66 (st1 := [.int (tz_loud gP nP)]) rfl ?_
      refine tz_riret C_ hr_ hk_ hQ_ rfl td_X_heard_69 ?_
      have k2 : f1 (B + 166) = some (tz_obj 9 [.ref (B + 166 + 1), .int (nI tn)]) := ((hqP _ (by omega)).trans hTu.1)
      have k3 : f1 (B + 166 + 1) = some (tz_ints cs 120 tg) := ((hqP _ (by omega)).trans hTu.2)
      have k4 : f1 (B + 168) = some (tz_obj 0 [.int zA, .int (nI kA)]) := ((hqP _ (by omega)).trans hAl)
      have k5 : f1 B = some (tz_obj 10 [.ref (B + 1), .ref (B + 15), .ref (B + 157), .ref (B + 166), .ref (B + 168), .ref (B + 169), .ref (B + 177), .int σ.2.2.2]) := ((hqP _ (by omega)).trans hB0)
      have kp6 : tz_Tape cs f1 (B + 1) R (tz_cur σ).2.1 o mp ml := hT.fr (fun q h1_ h2_ => (hqP q (by omega)))
      have kp7 : tz_Hist cs f1 (B + 15) nx σ.2.1 St := hHi.fr (fun q h1_ h2_ => (hqP q (by omega)))
      have kp8 : tz_Shs cs f1 (B + 157) Sb := hShs.fr (fun q h1_ h2_ => (hqP q (by omega)))
      have kp9 : tz_RoX cs f1 (B + 177) := hRoX.fr (fun q h1_ h2_ => (hqP q (by omega)))
      have e9 : sp_heard σ (nI kr10) w = (tz_loud gP nP, σ) := by simp only [sp_heard, hpk10]; rw [if_pos h36_0, hou1, tz_loud_cg hou2]
      rw [e9]
      exact ⟨rfl, ⟨R, o, mp, ml, nx, St, Sb, ⟨k5, kp6, kp7, kp8, ⟨_, _, ⟨k2, k3⟩, htn⟩, ⟨_, _, k4⟩, hPXP, kp9⟩, hag.fr (fun q h9 => (hqP q (by omega))), hnx, hH.fr (fun q h9 => (hqP q (by omega))), hQ⟩, (fun q hh => by rw [hqP q (by omega)])⟩
    by_cases h36_1 : w = 1
    · skip
      refine tz_tableIn C_ td_X_heard_36 (off := 34) (tgt := 70) (by rw [h36_1]; decide) (by decide) ?_
      refine tz_aload C_ 4 rfl td_X_heard_70 ?_
      refine tz_rV C_ tmi_R_lostOnes tw_350 tw_351 tw_349 hPlP.2.2.2.1.1 rfl (As := []) (by exact (ct_R_lostOnes (n := nP) (g := gP) ⟨hPlP.2.2.2.1.1, hPlP.2.2.2.1.2⟩ (by omega))) rfl (rest := []) rfl (by decide) (Nat.le_of_ble_eq_true rfl) td_X_heard_72 (st1 := [.int (nI (tz_ct (fun k => decide (gP k = tz_LO)) nP))]) rfl ?_
      refine tz_riret C_ hr_ hk_ hQ_ rfl td_X_heard_75 ?_
      have k10 : f1 (B + 166) = some (tz_obj 9 [.ref (B + 166 + 1), .int (nI tn)]) := ((hqP _ (by omega)).trans hTu.1)
      have k11 : f1 (B + 166 + 1) = some (tz_ints cs 120 tg) := ((hqP _ (by omega)).trans hTu.2)
      have k12 : f1 (B + 168) = some (tz_obj 0 [.int zA, .int (nI kA)]) := ((hqP _ (by omega)).trans hAl)
      have k13 : f1 B = some (tz_obj 10 [.ref (B + 1), .ref (B + 15), .ref (B + 157), .ref (B + 166), .ref (B + 168), .ref (B + 169), .ref (B + 177), .int σ.2.2.2]) := ((hqP _ (by omega)).trans hB0)
      have kp14 : tz_Tape cs f1 (B + 1) R (tz_cur σ).2.1 o mp ml := hT.fr (fun q h1_ h2_ => (hqP q (by omega)))
      have kp15 : tz_Hist cs f1 (B + 15) nx σ.2.1 St := hHi.fr (fun q h1_ h2_ => (hqP q (by omega)))
      have kp16 : tz_Shs cs f1 (B + 157) Sb := hShs.fr (fun q h1_ h2_ => (hqP q (by omega)))
      have kp17 : tz_RoX cs f1 (B + 177) := hRoX.fr (fun q h1_ h2_ => (hqP q (by omega)))
      have e9 : sp_heard σ (nI kr10) w = (nI (tz_ct (fun k => decide (gP k = tz_LO)) nP), σ) := by 
        have a1 : tz_lost (tz_ou (tz_cur σ) kr10 (-1)).1 (tz_ou (tz_cur σ) kr10 (-1)).2.1 = tz_lost nP gP := by rw [hou1]; exact (tz_lost_cg hou2).symm
        simp only [sp_heard, hpk10]; rw [if_neg h36_0, if_pos h36_1, a1]; rfl
      rw [e9]
      exact ⟨rfl, ⟨R, o, mp, ml, nx, St, Sb, ⟨k13, kp14, kp15, kp16, ⟨_, _, ⟨k10, k11⟩, htn⟩, ⟨_, _, k12⟩, hPXP, kp17⟩, hag.fr (fun q h9 => (hqP q (by omega))), hnx, hH.fr (fun q h9 => (hqP q (by omega))), hQ⟩, (fun q hh => by rw [hqP q (by omega)])⟩
    by_cases h36_2 : w = 2
    · skip
      refine tz_tableIn C_ td_X_heard_36 (off := 40) (tgt := 76) (by rw [h36_2]; decide) (by decide) ?_
      refine tz_aload C_ 4 rfl td_X_heard_76 ?_
      refine tz_aload_n C_ 3 rfl rfl td_X_heard_78 ?_
      have k18 : f1 (B + 1 + 6 + 2 * kr10) = some (tz_obj 5 [.ref (B + 1 + 6 + 2 * kr10 + 1), .int (nI (R kr10).1)]) := ((hqP _ (by omega)).trans (hT.2.2.2.2.2 kr10 hkr10).1)
      have k19 : f1 (B + 1 + 6 + 2 * kr10 + 1) = some (tz_ints cs 120 ((R kr10).2)) := ((hqP _ (by omega)).trans (hT.2.2.2.2.2 kr10 hkr10).2)
      refine tz_rV C_ tmi_R_placesUnlike tw_662 tw_663 tw_661 hPlP.2.2.2.1.1 rfl (As := [.ref (B + 1 + 6 + 2 * kr10)]) (by exact (ct_R_placesUnlike (n := nP) (g := gP) (n2 := (R kr10).1) (g2 := (R kr10).2) ⟨hPlP.2.2.2.1.1, hPlP.2.2.2.1.2⟩ (by omega) ⟨k18, k19⟩ (by omega))) rfl (rest := []) rfl (by decide) (Nat.le_of_ble_eq_true rfl) td_X_heard_79 (st1 := [.int (nI (tz_ct (fun k => decide (¬ (k < (R kr10).1 ∧ gP k = ((R kr10).2) k))) nP))]) rfl ?_
      refine tz_riret C_ hr_ hk_ hQ_ rfl td_X_heard_82 ?_
      have k20 : f1 (B + 166) = some (tz_obj 9 [.ref (B + 166 + 1), .int (nI tn)]) := ((hqP _ (by omega)).trans hTu.1)
      have k21 : f1 (B + 166 + 1) = some (tz_ints cs 120 tg) := ((hqP _ (by omega)).trans hTu.2)
      have k22 : f1 (B + 168) = some (tz_obj 0 [.int zA, .int (nI kA)]) := ((hqP _ (by omega)).trans hAl)
      have k23 : f1 B = some (tz_obj 10 [.ref (B + 1), .ref (B + 15), .ref (B + 157), .ref (B + 166), .ref (B + 168), .ref (B + 169), .ref (B + 177), .int σ.2.2.2]) := ((hqP _ (by omega)).trans hB0)
      have kp24 : tz_Tape cs f1 (B + 1) R (tz_cur σ).2.1 o mp ml := hT.fr (fun q h1_ h2_ => (hqP q (by omega)))
      have kp25 : tz_Hist cs f1 (B + 15) nx σ.2.1 St := hHi.fr (fun q h1_ h2_ => (hqP q (by omega)))
      have kp26 : tz_Shs cs f1 (B + 157) Sb := hShs.fr (fun q h1_ h2_ => (hqP q (by omega)))
      have kp27 : tz_RoX cs f1 (B + 177) := hRoX.fr (fun q h1_ h2_ => (hqP q (by omega)))
      have e9 : sp_heard σ (nI kr10) w = (nI (tz_ct (fun k => decide (¬ (k < (R kr10).1 ∧ gP k = ((R kr10).2) k))) nP), σ) := by 
        have a1 : tz_unl (tz_ou (tz_cur σ) kr10 (-1)).1 (tz_ou (tz_cur σ) kr10 (-1)).2.1 (tz_ln σ kr10) (tz_sg σ kr10) = tz_unl nP gP (R kr10).1 (R kr10).2 := by rw [hou1, hlkr10]; exact (tz_unl_cg hou2 hgkr10).symm
        simp only [sp_heard, hpk10]; rw [if_neg h36_0, if_neg h36_1, if_pos h36_2, a1]; rfl
      rw [e9]
      exact ⟨rfl, ⟨R, o, mp, ml, nx, St, Sb, ⟨k23, kp24, kp25, kp26, ⟨_, _, ⟨k20, k21⟩, htn⟩, ⟨_, _, k22⟩, hPXP, kp27⟩, hag.fr (fun q h9 => (hqP q (by omega))), hnx, hH.fr (fun q h9 => (hqP q (by omega))), hQ⟩, (fun q hh => by rw [hqP q (by omega)])⟩
    refine tz_tableOut C_ td_X_heard_36 (tgt := 83) (by decide) ?_ ?_
    · skip
      have := lv_neT h36_0 (show (0 : Int32).toInt = 0 by decide)
      have := lv_neT h36_1 (show (1 : Int32).toInt = 1 by decide)
      have := lv_neT h36_2 (show (2 : Int32).toInt = 2 by decide)
      omega
    refine tz_aload_n C_ 0 rfl rfl td_X_heard_83 ?_
    refine tz_ldc C_ tw_273 td_X_heard_84 ?_
    have k28 : f1 B = some (tz_obj 10 [.ref (B + 1), .ref (B + 15), .ref (B + 157), .ref (B + 166), .ref (B + 168), .ref (B + 169), .ref (B + 177), .int σ.2.2.2]) := ((hqP _ (by omega)).trans hB0)
    refine tz_cV C_ tmi_X_answer tw_276 tw_0 tw_274 k28 rfl (As := [.int (-100001)]) (by exact (ct_X_answer (v := -100001) k28)) rfl (rest := []) rfl (by decide) (Nat.le_of_ble_eq_true rfl) td_X_heard_86 (st1 := [.int (-100001)]) rfl (fun f29 hF29 => ?_)
    obtain ⟨hs30, hq30⟩ := hF29
    refine tz_riret C_ hr_ hk_ hQ_ rfl td_X_heard_89 ?_
    have k31 : f29 (B + 166) = some (tz_obj 9 [.ref (B + 166 + 1), .int (nI tn)]) := ((hq30 _ (by omega)).trans ((hqP _ (by omega)).trans hTu.1))
    have k32 : f29 (B + 166 + 1) = some (tz_ints cs 120 tg) := ((hq30 _ (by omega)).trans ((hqP _ (by omega)).trans hTu.2))
    have k33 : f29 (B + 168) = some (tz_obj 0 [.int zA, .int (nI kA)]) := ((hq30 _ (by omega)).trans ((hqP _ (by omega)).trans hAl))
    have kp34 : tz_Tape cs f29 (B + 1) R (tz_cur σ).2.1 o mp ml := hT.fr (fun q h1_ h2_ => ((hq30 q (by omega)).trans (hqP q (by omega))))
    have kp35 : tz_Hist cs f29 (B + 15) nx σ.2.1 St := hHi.fr (fun q h1_ h2_ => ((hq30 q (by omega)).trans (hqP q (by omega))))
    have kp36 : tz_Shs cs f29 (B + 157) Sb := hShs.fr (fun q h1_ h2_ => ((hq30 q (by omega)).trans (hqP q (by omega))))
    have kp37 : tz_PlX cs f29 (B + 169) := hPXP.fr (fun q h1_ h2_ => (hq30 q (by omega)))
    have kp38 : tz_RoX cs f29 (B + 177) := hRoX.fr (fun q h1_ h2_ => ((hq30 q (by omega)).trans (hqP q (by omega))))
    have e9 : sp_heard σ (nI kr10) w = tz_an σ (-100001) := by simp only [sp_heard, hpk10]; rw [if_neg h36_0, if_neg h36_1, if_neg h36_2]
    rw [e9]
    exact ⟨rfl, ⟨R, o, mp, ml, nx, St, Sb, ⟨hs30, kp34, kp35, kp36, ⟨_, _, ⟨k31, k32⟩, htn⟩, ⟨_, _, k33⟩, kp37, kp38⟩, hag.fr (fun q h9 => ((hq30 q (by omega)).trans (hqP q (by omega)))), hnx, hH.fr (fun q h9 => ((hq30 q (by omega)).trans (hqP q (by omega)))), hQ⟩, (fun q hh => by rw [hq30 q (by omega), hqP q (by omega)])⟩
  · skip
    rw [h10]
    have hpk10 := tz_pk_none h10
    refine tz_aload_n C_ 0 rfl rfl td_X_heard_13 ?_
    refine tz_ldc C_ tw_273 td_X_heard_14 ?_
    refine tz_cV C_ tmi_X_answer tw_276 tw_0 tw_274 hB0 rfl (As := [.int (-100001)]) (by exact (ct_X_answer (v := -100001) hB0)) rfl (rest := []) rfl (by decide) (Nat.le_of_ble_eq_true rfl) td_X_heard_16 (st1 := [.int (-100001)]) rfl (fun f39 hF39 => ?_)
    obtain ⟨hs40, hq40⟩ := hF39
    refine tz_riret C_ hr_ hk_ hQ_ rfl td_X_heard_19 ?_
    have k41 : f39 (B + 166) = some (tz_obj 9 [.ref (B + 166 + 1), .int (nI tn)]) := ((hq40 _ (by omega)).trans hTu.1)
    have k42 : f39 (B + 166 + 1) = some (tz_ints cs 120 tg) := ((hq40 _ (by omega)).trans hTu.2)
    have k43 : f39 (B + 168) = some (tz_obj 0 [.int zA, .int (nI kA)]) := ((hq40 _ (by omega)).trans hAl)
    have kp44 : tz_Tape cs f39 (B + 1) R (tz_cur σ).2.1 o mp ml := hT.fr (fun q h1_ h2_ => (hq40 q (by omega)))
    have kp45 : tz_Hist cs f39 (B + 15) nx σ.2.1 St := hHi.fr (fun q h1_ h2_ => (hq40 q (by omega)))
    have kp46 : tz_Shs cs f39 (B + 157) Sb := hShs.fr (fun q h1_ h2_ => (hq40 q (by omega)))
    have kp47 : tz_PlX cs f39 (B + 169) := hPlX.fr (fun q h1_ h2_ => (hq40 q (by omega)))
    have kp48 : tz_RoX cs f39 (B + 177) := hRoX.fr (fun q h1_ h2_ => (hq40 q (by omega)))
    have e9 : sp_heard σ p w = tz_an σ (-100001) := by simp only [sp_heard, hpk10]
    rw [e9]
    exact ⟨rfl, ⟨R, o, mp, ml, nx, St, Sb, ⟨hs40, kp44, kp45, kp46, ⟨_, _, ⟨k41, k42⟩, htn⟩, ⟨_, _, k43⟩, kp47, kp48⟩, hag.fr (fun q h9 => (hq40 q (by omega))), hnx, hH.fr (fun q h9 => (hq40 q (by omega))), hQ⟩, (fun q hh => by rw [hq40 q (by omega)])⟩

abbrev rm_X_power : Room := { frames := 6, cells := 0, slots := 0, locals := 149 }
set_option maxHeartbeats 4000000 in
set_option maxRecDepth 100000 in
theorem ct_X_power {l : Launch} {A : Nat → Prop} {D : va_G} {cs : Nat → ClassId} {sz : Nat} {f : tz_PH} {B L0 : Nat} {σ : tz_SG} (hX : tz_AX cs L0 f B σ) (hW : tz_WF σ) (hB : B + 179 ≤ L0) {p : Int32} : tz_CN l tyX_power prog_1_method_21_code 3 (some (.long)) rm_X_power 0 0 A D cs sz [.ref B, .int p] f (some (.long (sp_power σ p).1)) (fun f' => tz_AX cs L0 f' B (sp_power σ p).2 ∧ ∀ q, (q < B ∨ B + 179 ≤ q) → f' q = f q) := by
  refine tz_C.ofB (lv0 := [(0, .ref B), (1, .int p)]) (plainFor_of_name (by decide)) (Nat.le_of_ble_eq_true rfl) rfl ?_
  intro p_ e_ s_ m_ ar_ be_ me_ c_ Q_ C_ hr_ hk_ hnm_ hz_ hQ_
  obtain ⟨R, o, mp, ml, nx, St, Sb, hXB, hag, hnx, hH, hQ⟩ := hX
  obtain ⟨hB0, hT, hHi, hShs, hTuX, hAlX, hPlX, hRoX⟩ := hXB
  have hTu9 := hTuX
  obtain ⟨tn, tg, hTu, htn⟩ := hTu9
  have hAl9 := hAlX
  obtain ⟨zA, kA, hAl⟩ := hAl9
  have hPl9 := hPlX
  obtain ⟨pr, px, pfo, pz, pk, ptn, ptg, pn, pg, pn2, pg2, hPl, hpn, hptn⟩ := hPl9
  have hRo9 := hRoX
  obtain ⟨jn, jg, hRo, hjn⟩ := hRo9
  have hrx := hPl.2.2.2.2.2
  have hRn : ∀ p, p < 4 → (R p).1 ≤ 120 := fun p hp => by rw [(hag.1 p hp).1]; exact (hW.cur.1 p hp).1
  have hnl : (tz_cur σ).2.1 ≤ 8 := hW.cur.2.1
  have hkp : σ.2.1 ≤ 20 := hW.1
  have hSn : ∀ s, s < 4 → (Sb s).2.1 ≤ 120 := fun s hs => by rw [(hQ s hs).2.1]; exact (hW.2.2 s hs).1
  refine tz_aload_n C_ 0 rfl rfl td_X_power_0 ?_
  refine tz_get C_ tci_X 0 (by decide) tw_240 hB0 rfl td_X_power_1 ?_
  refine tz_iload_n C_ 1 rfl rfl td_X_power_4 ?_
  refine tz_rV C_ tmi_T_rowAt tw_270 tw_271 tw_269 hT.1 rfl (As := [.int p]) (by exact (ct_T_rowAt hT)) rfl (rest := []) rfl (by decide) (Nat.le_of_ble_eq_true rfl) td_X_power_5 (st1 := [va_rf (tz_rof (B + 1) p)]) rfl ?_
  refine tz_astore_nQ C_ (lv' := [(0, .ref B), (1, .int p), (2, va_rf (tz_rof (B + 1) p))]) [1, 2, 0] rfl (by decide) rfl td_X_power_8 ?_
  refine tz_aload_nQ C_ 2 rfl rfl td_X_power_9 ?_
  refine tz_ifnonnull C_ td_X_power_10 (fun q10 h10 => ?_) (fun h10 => ?_)
  · skip
    obtain ⟨kr10, hkr10, ekr10, eqkr10⟩ := tz_rof_some h10
    rw [h10]
    subst eqkr10
    subst ekr10
    have hpk10 := tz_pk_N hkr10
    have hRnkr10 := hRn kr10 hkr10
    have hlkr10 : (R kr10).1 = tz_ln σ kr10 := (hag.1 kr10 hkr10).1
    have hgkr10 : ∀ j, j < tz_ln σ kr10 → (R kr10).2 j = tz_sg σ kr10 j := (hag.1 kr10 hkr10).2
    have hakr10 : tz_at (R kr10).1 (R kr10).2 = tz_at (tz_ln σ kr10) (tz_sg σ kr10) := tz_agR.at hag.1 hkr10 (hW.cur.1 kr10 hkr10).1
    have hckr10 : tz_ln σ kr10 ≤ 120 := (hW.cur.1 kr10 hkr10).1
    refine tz_aload_n C_ 0 rfl rfl td_X_power_21 ?_
    refine tz_get C_ tci_X 5 (by decide) tw_245 hB0 rfl td_X_power_22 ?_
    refine tz_aload_n C_ 0 rfl rfl td_X_power_25 ?_
    refine tz_get C_ tci_X 0 (by decide) tw_240 hB0 rfl td_X_power_26 ?_
    refine tz_aload_n C_ 2 rfl rfl td_X_power_29 ?_
    refine tz_iconst C_ (v := -1) (by decide) td_X_power_30 ?_
    refine tz_cVQ C_ tmi_P_play tw_561 tw_562 tw_560 hPl.1 rfl (As := [.ref (B + 1), .ref (B + 1 + 6 + 2 * kr10), .int (-1)]) (by exact (ct_P_play (lay := tz_lyr σ) hPl hpn hptn hT (hag.2.1.fr (fun q h9 => rfl)) (fun k hk => (hW.cur.2.2.1 k hk).1) hnl hRn (by omega) (by omega) ⟨(hT.2.2.2.2.2 kr10 hkr10).1, (hT.2.2.2.2.2 kr10 hkr10).2⟩ (by omega) (by omega))) rfl (rest := []) rfl (by decide) (Nat.le_of_ble_eq_true rfl) td_X_power_31 (fun qr1 f1 hF1 => ?_)
    obtain ⟨⟨xP, foP, zP, kP, tnP, tgP, nP, gP, n2P, g2P, hPlP, hIP, hnP, htnP⟩, hqP⟩ := hF1
    have hrxP := hPlP.2.2.2.2.2
    obtain ⟨hou1, hou2, hou3⟩ := tz_ou_of hag hW.cur hkr10 hIP
    have houl := tz_ou_le hW.cur hkr10 (-1)
    have hPXP : tz_PlX cs f1 (B + 169) := ⟨qr1, xP, foP, zP, kP, tnP, tgP, nP, gP, n2P, g2P, hPlP, hnP, htnP⟩
    refine tz_rV C_ tmi_R_sumOfSquares tw_670 tw_671 tw_669 hPlP.2.2.2.1.1 rfl (As := []) (by exact (ct_R_sumOfSquares (n := nP) (g := gP) ⟨hPlP.2.2.2.1.1, hPlP.2.2.2.1.2⟩ (by omega))) rfl (rest := []) rfl (by decide) (Nat.le_of_ble_eq_true rfl) td_X_power_34 (st1 := [.long (tz_sq gP nP)]) rfl ?_
    refine tz_rlret C_ hr_ hk_ hQ_ rfl td_X_power_37 ?_
    have k2 : f1 (B + 166) = some (tz_obj 9 [.ref (B + 166 + 1), .int (nI tn)]) := ((hqP _ (by omega)).trans hTu.1)
    have k3 : f1 (B + 166 + 1) = some (tz_ints cs 120 tg) := ((hqP _ (by omega)).trans hTu.2)
    have k4 : f1 (B + 168) = some (tz_obj 0 [.int zA, .int (nI kA)]) := ((hqP _ (by omega)).trans hAl)
    have k5 : f1 B = some (tz_obj 10 [.ref (B + 1), .ref (B + 15), .ref (B + 157), .ref (B + 166), .ref (B + 168), .ref (B + 169), .ref (B + 177), .int σ.2.2.2]) := ((hqP _ (by omega)).trans hB0)
    have kp6 : tz_Tape cs f1 (B + 1) R (tz_cur σ).2.1 o mp ml := hT.fr (fun q h1_ h2_ => (hqP q (by omega)))
    have kp7 : tz_Hist cs f1 (B + 15) nx σ.2.1 St := hHi.fr (fun q h1_ h2_ => (hqP q (by omega)))
    have kp8 : tz_Shs cs f1 (B + 157) Sb := hShs.fr (fun q h1_ h2_ => (hqP q (by omega)))
    have kp9 : tz_RoX cs f1 (B + 177) := hRoX.fr (fun q h1_ h2_ => (hqP q (by omega)))
    have e9 : sp_power σ (nI kr10) = (tz_sq gP nP, σ) := by simp only [sp_power, hpk10]; rw [hou1, tz_sq_cg hou2]
    rw [e9]
    exact ⟨rfl, ⟨R, o, mp, ml, nx, St, Sb, ⟨k5, kp6, kp7, kp8, ⟨_, _, ⟨k2, k3⟩, htn⟩, ⟨_, _, k4⟩, hPXP, kp9⟩, hag.fr (fun q h9 => (hqP q (by omega))), hnx, hH.fr (fun q h9 => (hqP q (by omega))), hQ⟩, (fun q hh => by rw [hqP q (by omega)])⟩
  · skip
    rw [h10]
    have hpk10 := tz_pk_none h10
    refine tz_aload_n C_ 0 rfl rfl td_X_power_13 ?_
    refine tz_ldc C_ tw_273 td_X_power_14 ?_
    refine tz_cV C_ tmi_X_answer tw_276 tw_0 tw_274 hB0 rfl (As := [.int (-100001)]) (by exact (ct_X_answer (v := -100001) hB0)) rfl (rest := []) rfl (by decide) (Nat.le_of_ble_eq_true rfl) td_X_power_16 (st1 := [.int (-100001)]) rfl (fun f10 hF10 => ?_)
    obtain ⟨hs11, hq11⟩ := hF10
    refine tz_i2l C_ td_X_power_19 ?_
    refine tz_rlret C_ hr_ hk_ hQ_ rfl td_X_power_20 ?_
    have k12 : f10 (B + 166) = some (tz_obj 9 [.ref (B + 166 + 1), .int (nI tn)]) := ((hq11 _ (by omega)).trans hTu.1)
    have k13 : f10 (B + 166 + 1) = some (tz_ints cs 120 tg) := ((hq11 _ (by omega)).trans hTu.2)
    have k14 : f10 (B + 168) = some (tz_obj 0 [.int zA, .int (nI kA)]) := ((hq11 _ (by omega)).trans hAl)
    have kp15 : tz_Tape cs f10 (B + 1) R (tz_cur σ).2.1 o mp ml := hT.fr (fun q h1_ h2_ => (hq11 q (by omega)))
    have kp16 : tz_Hist cs f10 (B + 15) nx σ.2.1 St := hHi.fr (fun q h1_ h2_ => (hq11 q (by omega)))
    have kp17 : tz_Shs cs f10 (B + 157) Sb := hShs.fr (fun q h1_ h2_ => (hq11 q (by omega)))
    have kp18 : tz_PlX cs f10 (B + 169) := hPlX.fr (fun q h1_ h2_ => (hq11 q (by omega)))
    have kp19 : tz_RoX cs f10 (B + 177) := hRoX.fr (fun q h1_ h2_ => (hq11 q (by omega)))
    have e9 : sp_power σ p = (Int32.toInt64 (-100001), (tz_an σ (-100001)).2) := by simp only [sp_power, hpk10]; rfl
    rw [e9]
    exact ⟨rfl, ⟨R, o, mp, ml, nx, St, Sb, ⟨hs11, kp15, kp16, kp17, ⟨_, _, ⟨k12, k13⟩, htn⟩, ⟨_, _, k14⟩, kp18, kp19⟩, hag.fr (fun q h9 => (hq11 q (by omega))), hnx, hH.fr (fun q h9 => (hq11 q (by omega))), hQ⟩, (fun q hh => by rw [hq11 q (by omega)])⟩

abbrev rm_X_bake : Room := { frames := 6, cells := 0, slots := 0, locals := 149 }
set_option maxHeartbeats 4000000 in
set_option maxRecDepth 100000 in
theorem ct_X_bake {l : Launch} {A : Nat → Prop} {D : va_G} {cs : Nat → ClassId} {sz : Nat} {f : tz_PH} {B L0 : Nat} {σ : tz_SG} (hX : tz_AX cs L0 f B σ) (hW : tz_WF σ) (hB : B + 179 ≤ L0) {p p2 : Int32} : tz_CN l tyX_bake prog_1_method_22_code 5 (some (.int)) rm_X_bake 0 0 A D cs sz [.ref B, .int p, .int p2] f (some (.int (sp_bake σ p p2).1)) (fun f' => tz_AX cs L0 f' B (sp_bake σ p p2).2 ∧ ∀ q, (q < B ∨ B + 179 ≤ q) → f' q = f q) := by
  refine tz_C.ofB (lv0 := [(0, .ref B), (1, .int p), (2, .int p2)]) (plainFor_of_name (by decide)) (Nat.le_of_ble_eq_true rfl) rfl ?_
  intro p_ e_ s_ m_ ar_ be_ me_ c_ Q_ C_ hr_ hk_ hnm_ hz_ hQ_
  obtain ⟨R, o, mp, ml, nx, St, Sb, hXB, hag, hnx, hH, hQ⟩ := hX
  obtain ⟨hB0, hT, hHi, hShs, hTuX, hAlX, hPlX, hRoX⟩ := hXB
  have hTu9 := hTuX
  obtain ⟨tn, tg, hTu, htn⟩ := hTu9
  have hAl9 := hAlX
  obtain ⟨zA, kA, hAl⟩ := hAl9
  have hPl9 := hPlX
  obtain ⟨pr, px, pfo, pz, pk, ptn, ptg, pn, pg, pn2, pg2, hPl, hpn, hptn⟩ := hPl9
  have hRo9 := hRoX
  obtain ⟨jn, jg, hRo, hjn⟩ := hRo9
  have hrx := hPl.2.2.2.2.2
  have hRn : ∀ p, p < 4 → (R p).1 ≤ 120 := fun p hp => by rw [(hag.1 p hp).1]; exact (hW.cur.1 p hp).1
  have hnl : (tz_cur σ).2.1 ≤ 8 := hW.cur.2.1
  have hkp : σ.2.1 ≤ 20 := hW.1
  have hSn : ∀ s, s < 4 → (Sb s).2.1 ≤ 120 := fun s hs => by rw [(hQ s hs).2.1]; exact (hW.2.2 s hs).1
  refine tz_aload_n C_ 0 rfl rfl td_X_bake_0 ?_
  refine tz_get C_ tci_X 0 (by decide) tw_240 hB0 rfl td_X_bake_1 ?_
  refine tz_iload_n C_ 1 rfl rfl td_X_bake_4 ?_
  refine tz_rV C_ tmi_T_rowAt tw_270 tw_271 tw_269 hT.1 rfl (As := [.int p]) (by exact (ct_T_rowAt hT)) rfl (rest := []) rfl (by decide) (Nat.le_of_ble_eq_true rfl) td_X_bake_5 (st1 := [va_rf (tz_rof (B + 1) p)]) rfl ?_
  refine tz_astore_nQ C_ (lv' := [(0, .ref B), (1, .int p), (2, .int p2), (3, va_rf (tz_rof (B + 1) p))]) [1, 2, 3, 0] rfl (by decide) rfl td_X_bake_8 ?_
  refine tz_aload_n C_ 0 rfl rfl td_X_bake_9 ?_
  refine tz_get C_ tci_X 0 (by decide) tw_240 hB0 rfl td_X_bake_10 ?_
  refine tz_iload_n C_ 2 rfl rfl td_X_bake_13 ?_
  refine tz_rV C_ tmi_T_rowAt tw_270 tw_271 tw_269 hT.1 rfl (As := [.int p2]) (by exact (ct_T_rowAt hT)) rfl (rest := []) rfl (by decide) (Nat.le_of_ble_eq_true rfl) td_X_bake_14 (st1 := [va_rf (tz_rof (B + 1) p2)]) rfl ?_
  refine tz_astoreQ C_ (lv' := [(0, .ref B), (1, .int p), (2, .int p2), (3, va_rf (tz_rof (B + 1) p)), (4, va_rf (tz_rof (B + 1) p2))]) [1, 2, 3, 4, 0] (by decide) (by generalize tz_rof (B + 1) p = z9; cases z9 <;> rfl) td_X_bake_17 ?_
  refine tz_aload_nQ C_ 3 rfl rfl td_X_bake_19 ?_
  refine tz_ifnull C_ td_X_bake_20 (fun h20 => ?_) (fun q20 h20 => ?_)
  · skip
    rw [h20]
    have hpk20 := tz_pk_none h20
    refine tz_aload_n C_ 0 rfl rfl td_X_bake_28 ?_
    refine tz_ldc C_ tw_273 td_X_bake_29 ?_
    refine tz_cV C_ tmi_X_answer tw_276 tw_0 tw_274 hB0 rfl (As := [.int (-100001)]) (by exact (ct_X_answer (v := -100001) hB0)) rfl (rest := []) rfl (by decide) (Nat.le_of_ble_eq_true rfl) td_X_bake_31 (st1 := [.int (-100001)]) rfl (fun f1 hF1 => ?_)
    obtain ⟨hs2, hq2⟩ := hF1
    refine tz_riret C_ hr_ hk_ hQ_ rfl td_X_bake_34 ?_
    have k3 : f1 (B + 166) = some (tz_obj 9 [.ref (B + 166 + 1), .int (nI tn)]) := ((hq2 _ (by omega)).trans hTu.1)
    have k4 : f1 (B + 166 + 1) = some (tz_ints cs 120 tg) := ((hq2 _ (by omega)).trans hTu.2)
    have k5 : f1 (B + 168) = some (tz_obj 0 [.int zA, .int (nI kA)]) := ((hq2 _ (by omega)).trans hAl)
    have kp6 : tz_Tape cs f1 (B + 1) R (tz_cur σ).2.1 o mp ml := hT.fr (fun q h1_ h2_ => (hq2 q (by omega)))
    have kp7 : tz_Hist cs f1 (B + 15) nx σ.2.1 St := hHi.fr (fun q h1_ h2_ => (hq2 q (by omega)))
    have kp8 : tz_Shs cs f1 (B + 157) Sb := hShs.fr (fun q h1_ h2_ => (hq2 q (by omega)))
    have kp9 : tz_PlX cs f1 (B + 169) := hPlX.fr (fun q h1_ h2_ => (hq2 q (by omega)))
    have kp10 : tz_RoX cs f1 (B + 177) := hRoX.fr (fun q h1_ h2_ => (hq2 q (by omega)))
    have e9 : sp_bake σ p p2 = tz_an σ (-100001) := by simp only [sp_bake, hpk20]
    rw [e9]
    exact ⟨rfl, ⟨R, o, mp, ml, nx, St, Sb, ⟨hs2, kp6, kp7, kp8, ⟨_, _, ⟨k3, k4⟩, htn⟩, ⟨_, _, k5⟩, kp9, kp10⟩, hag.fr (fun q h9 => (hq2 q (by omega))), hnx, hH.fr (fun q h9 => (hq2 q (by omega))), hQ⟩, (fun q hh => by rw [hq2 q (by omega)])⟩
  · skip
    obtain ⟨kr20, hkr20, ekr20, eqkr20⟩ := tz_rof_some h20
    rw [h20]
    subst eqkr20
    subst ekr20
    have hpk20 := tz_pk_N hkr20
    have hRnkr20 := hRn kr20 hkr20
    have hlkr20 : (R kr20).1 = tz_ln σ kr20 := (hag.1 kr20 hkr20).1
    have hgkr20 : ∀ j, j < tz_ln σ kr20 → (R kr20).2 j = tz_sg σ kr20 j := (hag.1 kr20 hkr20).2
    have hakr20 : tz_at (R kr20).1 (R kr20).2 = tz_at (tz_ln σ kr20) (tz_sg σ kr20) := tz_agR.at hag.1 hkr20 (hW.cur.1 kr20 hkr20).1
    have hckr20 : tz_ln σ kr20 ≤ 120 := (hW.cur.1 kr20 hkr20).1
    refine tz_aloadQ C_ 4 rfl td_X_bake_23 ?_
    refine tz_ifnonnull C_ td_X_bake_25 (fun q25 h25 => ?_) (fun h25 => ?_)
    · skip
      obtain ⟨kr25, hkr25, ekr25, eqkr25⟩ := tz_rof_some h25
      rw [h25]
      subst eqkr25
      subst ekr25
      have hpk25 := tz_pk_N hkr25
      have hRnkr25 := hRn kr25 hkr25
      have hlkr25 : (R kr25).1 = tz_ln σ kr25 := (hag.1 kr25 hkr25).1
      have hgkr25 : ∀ j, j < tz_ln σ kr25 → (R kr25).2 j = tz_sg σ kr25 j := (hag.1 kr25 hkr25).2
      have hakr25 : tz_at (R kr25).1 (R kr25).2 = tz_at (tz_ln σ kr25) (tz_sg σ kr25) := tz_agR.at hag.1 hkr25 (hW.cur.1 kr25 hkr25).1
      have hckr25 : tz_ln σ kr25 ≤ 120 := (hW.cur.1 kr25 hkr25).1
      refine tz_aload_n C_ 0 rfl rfl td_X_bake_35 ?_
      refine tz_get C_ tci_X 1 (by decide) tw_241 hB0 rfl td_X_bake_36 ?_
      refine tz_aload_n C_ 0 rfl rfl td_X_bake_39 ?_
      refine tz_get C_ tci_X 0 (by decide) tw_240 hB0 rfl td_X_bake_40 ?_
      refine tz_iload_n C_ 2 rfl rfl td_X_bake_43 ?_
      refine tz_cV C_ tmi_H_keep tw_280 tw_281 tw_279 hHi.1 rfl (As := [.ref (B + 1), .int (nI kr25)]) (by exact (ct_H_keep hHi hnx hkp hT (by omega) (hag.2.2.1.fr (fun q h9 => rfl)) (by omega))) rfl (rest := []) rfl (by decide) (Nat.le_of_ble_eq_true rfl) td_X_bake_44 (st1 := []) rfl (fun f11 hF11 => ?_)
      obtain ⟨⟨sK, hSK, hpK, hhK⟩, hqK⟩ := hF11
      refine tz_aload C_ 4 rfl td_X_bake_47 ?_
      refine tz_aload_n C_ 0 rfl rfl td_X_bake_49 ?_
      have k12 : f11 B = some (tz_obj 10 [.ref (B + 1), .ref (B + 15), .ref (B + 157), .ref (B + 166), .ref (B + 168), .ref (B + 169), .ref (B + 177), .int σ.2.2.2]) := ((hqK _ (by omega)).trans hB0)
      refine tz_get C_ tci_X 5 (by decide) tw_245 k12 rfl td_X_bake_50 ?_
      refine tz_aload_n C_ 0 rfl rfl td_X_bake_53 ?_
      refine tz_get C_ tci_X 0 (by decide) tw_240 k12 rfl td_X_bake_54 ?_
      refine tz_aload_n C_ 3 rfl rfl td_X_bake_57 ?_
      refine tz_iconst C_ (v := -1) (by decide) td_X_bake_58 ?_
      have k13 : f11 (B + 1 + 6 + 2 * kr20) = some (tz_obj 5 [.ref (B + 1 + 6 + 2 * kr20 + 1), .int (nI (R kr20).1)]) := ((hqK _ (by omega)).trans (hT.2.2.2.2.2 kr20 hkr20).1)
      have k14 : f11 (B + 1 + 6 + 2 * kr20 + 1) = some (tz_ints cs 120 ((R kr20).2)) := ((hqK _ (by omega)).trans (hT.2.2.2.2.2 kr20 hkr20).2)
      have kp15 : tz_Pl cs f11 (B + 169) pr px pfo pz pk ptn ptg pn pg pn2 pg2 := hPl.fr (fun q h1_ h2_ => (hqK q (by omega)))
      have kp16 : tz_Tape cs f11 (B + 1) R (tz_cur σ).2.1 o mp ml := hT.fr (fun q h1_ h2_ => (hqK q (by omega)))
      have k17 : f11 (B + 169) = some (tz_obj 4 [.ref (B + 169 + 1), .ref (B + 169 + 2), .ref pr, .ref px, .int pfo]) := ((hqK _ (by omega)).trans hPl.1)
      refine tz_cVQ C_ tmi_P_play tw_561 tw_562 tw_560 k17 rfl (As := [.ref (B + 1), .ref (B + 1 + 6 + 2 * kr20), .int (-1)]) (by exact (ct_P_play (lay := tz_lyr σ) kp15 hpn hptn kp16 (hag.2.1.fr (fun q h9 => (hqK q (by omega)))) (fun k hk => (hW.cur.2.2.1 k hk).1) hnl hRn (by omega) (by omega) ⟨k13, k14⟩ (by omega) (by omega))) rfl (rest := [.ref (B + 1 + 6 + 2 * kr25)]) rfl (by decide) (Nat.le_of_ble_eq_true rfl) td_X_bake_59 (fun qr18 f18 hF18 => ?_)
      obtain ⟨⟨xP, foP, zP, kP, tnP, tgP, nP, gP, n2P, g2P, hPlP, hIP, hnP, htnP⟩, hqP⟩ := hF18
      have hrxP := hPlP.2.2.2.2.2
      obtain ⟨hou1, hou2, hou3⟩ := tz_ou_of hag hW.cur hkr20 hIP
      have houl := tz_ou_le hW.cur hkr20 (-1)
      have hPXP : tz_PlX cs f18 (B + 169) := ⟨qr18, xP, foP, zP, kP, tnP, tgP, nP, gP, n2P, g2P, hPlP, hnP, htnP⟩
      have k19 : f18 (B + 1 + 6 + 2 * kr25) = some (tz_obj 5 [.ref (B + 1 + 6 + 2 * kr25 + 1), .int (nI (R kr25).1)]) := ((hqP _ (by omega)).trans ((hqK _ (by omega)).trans (hT.2.2.2.2.2 kr25 hkr25).1))
      have k20 : f18 (B + 1 + 6 + 2 * kr25 + 1) = some (tz_ints cs 120 ((R kr25).2)) := ((hqP _ (by omega)).trans ((hqK _ (by omega)).trans (hT.2.2.2.2.2 kr25 hkr25).2))
      refine tz_cV C_ tmi_R_become tw_293 tw_294 tw_677 k19 rfl (As := [.ref qr18]) (by exact (ct_R_become (n := (R kr25).1) (g := (R kr25).2) (n2 := nP) (g2 := gP) ⟨k19, k20⟩ ⟨hPlP.2.2.2.1.1, hPlP.2.2.2.1.2⟩ (by omega))) rfl (rest := []) rfl (by decide) (Nat.le_of_ble_eq_true rfl) td_X_bake_62 (st1 := []) rfl (fun f21 hF21 => ?_)
      obtain ⟨hP22, hq22⟩ := hF21
      refine tz_aload C_ 4 rfl td_X_bake_65 ?_
      refine tz_rV C_ tmi_R_length tw_308 tw_309 tw_307 hP22.1 rfl (As := []) (by exact (ct_R_length (n := nP) (g := va_cpy gP ((R kr25).2) 0 0 120) ⟨hP22.1, hP22.2⟩)) rfl (rest := []) rfl (by decide) (Nat.le_of_ble_eq_true rfl) td_X_bake_67 (st1 := [.int (nI nP)]) rfl ?_
      refine tz_riret C_ hr_ hk_ hQ_ rfl td_X_bake_70 ?_
      have k23 : f21 (B + 166) = some (tz_obj 9 [.ref (B + 166 + 1), .int (nI tn)]) := ((hq22 _ (by omega)).trans ((hqP _ (by omega)).trans ((hqK _ (by omega)).trans hTu.1)))
      have k24 : f21 (B + 166 + 1) = some (tz_ints cs 120 tg) := ((hq22 _ (by omega)).trans ((hqP _ (by omega)).trans ((hqK _ (by omega)).trans hTu.2)))
      have k25 : f21 (B + 168) = some (tz_obj 0 [.int zA, .int (nI kA)]) := ((hq22 _ (by omega)).trans ((hqP _ (by omega)).trans ((hqK _ (by omega)).trans hAl)))
      have k26 : f21 B = some (tz_obj 10 [.ref (B + 1), .ref (B + 15), .ref (B + 157), .ref (B + 166), .ref (B + 168), .ref (B + 169), .ref (B + 177), .int σ.2.2.2]) := ((hq22 _ (by omega)).trans ((hqP _ (by omega)).trans k12))
      have kp27 : tz_Hist cs f21 (B + 15) ((nx + 1) % 20) (min (σ.2.1 + 1) 20) (va_up St nx sK) := hSK.fr (fun q h1_ h2_ => ((hq22 q (by omega)).trans (hqP q (by omega))))
      have kp28 : tz_Shs cs f21 (B + 157) Sb := hShs.fr (fun q h1_ h2_ => ((hq22 q (by omega)).trans ((hqP q (by omega)).trans (hqK q (by omega)))))
      have kp29 : tz_PlX cs f21 (B + 169) := hPXP.fr (fun q h1_ h2_ => (hq22 q (by omega)))
      have kp30 : tz_RoX cs f21 (B + 177) := hRoX.fr (fun q h1_ h2_ => ((hq22 q (by omega)).trans ((hqP q (by omega)).trans (hqK q (by omega)))))
      have e9 : sp_bake σ (nI kr20) (nI kr25) = (nI nP, tz_act σ (tz_sr (tz_cur σ) kr25 ((tz_ou (tz_cur σ) kr20 (-1)).1, (tz_ou (tz_cur σ) kr20 (-1)).2.1))) := by simp only [sp_bake, hpk20, hpk25]; rw [hou1]
      rw [e9]
      refine ⟨(by rfl), tz_AX_row (s7 := sK) hW hB hT hag hnx hH hQ hkr25 hpK hhK (fun q hh => by rw [hq22 q (by omega), hqP q (by omega), hqK q (by omega)]) k26 kp27 kp28 ⟨_, _, ⟨k23, k24⟩, htn⟩ ⟨_, _, k25⟩ kp29 kp30 ⟨hP22.1, hP22.2⟩ ?_, (fun q hh => by rw [hq22 q (by omega), hqP q (by omega), hqK q (by omega)])⟩
      exact ⟨hou1, fun j hj => (tz_cpy_in (Nat.lt_of_lt_of_le hj houl)).trans (hou2 j hj)⟩
    · skip
      rw [h25]
      have hpk25 := tz_pk_none h25
      refine tz_aload_n C_ 0 rfl rfl td_X_bake_28 ?_
      refine tz_ldc C_ tw_273 td_X_bake_29 ?_
      refine tz_cV C_ tmi_X_answer tw_276 tw_0 tw_274 hB0 rfl (As := [.int (-100001)]) (by exact (ct_X_answer (v := -100001) hB0)) rfl (rest := []) rfl (by decide) (Nat.le_of_ble_eq_true rfl) td_X_bake_31 (st1 := [.int (-100001)]) rfl (fun f31 hF31 => ?_)
      obtain ⟨hs32, hq32⟩ := hF31
      refine tz_riret C_ hr_ hk_ hQ_ rfl td_X_bake_34 ?_
      have k33 : f31 (B + 166) = some (tz_obj 9 [.ref (B + 166 + 1), .int (nI tn)]) := ((hq32 _ (by omega)).trans hTu.1)
      have k34 : f31 (B + 166 + 1) = some (tz_ints cs 120 tg) := ((hq32 _ (by omega)).trans hTu.2)
      have k35 : f31 (B + 168) = some (tz_obj 0 [.int zA, .int (nI kA)]) := ((hq32 _ (by omega)).trans hAl)
      have kp36 : tz_Tape cs f31 (B + 1) R (tz_cur σ).2.1 o mp ml := hT.fr (fun q h1_ h2_ => (hq32 q (by omega)))
      have kp37 : tz_Hist cs f31 (B + 15) nx σ.2.1 St := hHi.fr (fun q h1_ h2_ => (hq32 q (by omega)))
      have kp38 : tz_Shs cs f31 (B + 157) Sb := hShs.fr (fun q h1_ h2_ => (hq32 q (by omega)))
      have kp39 : tz_PlX cs f31 (B + 169) := hPlX.fr (fun q h1_ h2_ => (hq32 q (by omega)))
      have kp40 : tz_RoX cs f31 (B + 177) := hRoX.fr (fun q h1_ h2_ => (hq32 q (by omega)))
      have e9 : sp_bake σ (nI kr20) p2 = tz_an σ (-100001) := by simp only [sp_bake, hpk20, hpk25]
      rw [e9]
      exact ⟨rfl, ⟨R, o, mp, ml, nx, St, Sb, ⟨hs32, kp36, kp37, kp38, ⟨_, _, ⟨k33, k34⟩, htn⟩, ⟨_, _, k35⟩, kp39, kp40⟩, hag.fr (fun q h9 => (hq32 q (by omega))), hnx, hH.fr (fun q h9 => (hq32 q (by omega))), hQ⟩, (fun q hh => by rw [hq32 q (by omega)])⟩

abbrev rm_X_align : Room := { frames := 3, cells := 0, slots := 0, locals := 77 }
set_option maxHeartbeats 4000000 in
set_option maxRecDepth 100000 in
theorem ct_X_align {l : Launch} {A : Nat → Prop} {D : va_G} {cs : Nat → ClassId} {sz : Nat} {f : tz_PH} {B L0 : Nat} {σ : tz_SG} (hX : tz_AX cs L0 f B σ) (hW : tz_WF σ) (hB : B + 179 ≤ L0) {p p2 w : Int32} : tz_CN l tyX_align prog_1_method_23_code 6 (some (.int)) rm_X_align 0 0 A D cs sz [.ref B, .int p, .int p2, .int w] f (some (.int (sp_align σ p p2 w).1)) (fun f' => tz_AX cs L0 f' B (sp_align σ p p2 w).2 ∧ ∀ q, (q < B ∨ B + 179 ≤ q) → f' q = f q) := by
  refine tz_C.ofB (lv0 := [(0, .ref B), (1, .int p), (2, .int p2), (3, .int w)]) (plainFor_of_name (by decide)) (Nat.le_of_ble_eq_true rfl) rfl ?_
  intro p_ e_ s_ m_ ar_ be_ me_ c_ Q_ C_ hr_ hk_ hnm_ hz_ hQ_
  obtain ⟨R, o, mp, ml, nx, St, Sb, hXB, hag, hnx, hH, hQ⟩ := hX
  obtain ⟨hB0, hT, hHi, hShs, hTuX, hAlX, hPlX, hRoX⟩ := hXB
  have hTu9 := hTuX
  obtain ⟨tn, tg, hTu, htn⟩ := hTu9
  have hAl9 := hAlX
  obtain ⟨zA, kA, hAl⟩ := hAl9
  have hPl9 := hPlX
  obtain ⟨pr, px, pfo, pz, pk, ptn, ptg, pn, pg, pn2, pg2, hPl, hpn, hptn⟩ := hPl9
  have hRo9 := hRoX
  obtain ⟨jn, jg, hRo, hjn⟩ := hRo9
  have hrx := hPl.2.2.2.2.2
  have hRn : ∀ p, p < 4 → (R p).1 ≤ 120 := fun p hp => by rw [(hag.1 p hp).1]; exact (hW.cur.1 p hp).1
  have hnl : (tz_cur σ).2.1 ≤ 8 := hW.cur.2.1
  have hkp : σ.2.1 ≤ 20 := hW.1
  have hSn : ∀ s, s < 4 → (Sb s).2.1 ≤ 120 := fun s hs => by rw [(hQ s hs).2.1]; exact (hW.2.2 s hs).1
  refine tz_aload_n C_ 0 rfl rfl td_X_align_0 ?_
  refine tz_get C_ tci_X 0 (by decide) tw_240 hB0 rfl td_X_align_1 ?_
  refine tz_iload_n C_ 1 rfl rfl td_X_align_4 ?_
  refine tz_rV C_ tmi_T_rowAt tw_270 tw_271 tw_269 hT.1 rfl (As := [.int p]) (by exact (ct_T_rowAt hT)) rfl (rest := []) rfl (by decide) (Nat.le_of_ble_eq_true rfl) td_X_align_5 (st1 := [va_rf (tz_rof (B + 1) p)]) rfl ?_
  refine tz_astoreQ C_ (lv' := [(0, .ref B), (1, .int p), (2, .int p2), (3, .int w), (4, va_rf (tz_rof (B + 1) p))]) [1, 2, 3, 4, 0] (by decide) rfl td_X_align_8 ?_
  refine tz_aload_n C_ 0 rfl rfl td_X_align_10 ?_
  refine tz_get C_ tci_X 0 (by decide) tw_240 hB0 rfl td_X_align_11 ?_
  refine tz_iload_n C_ 2 rfl rfl td_X_align_14 ?_
  refine tz_rV C_ tmi_T_rowAt tw_270 tw_271 tw_269 hT.1 rfl (As := [.int p2]) (by exact (ct_T_rowAt hT)) rfl (rest := []) rfl (by decide) (Nat.le_of_ble_eq_true rfl) td_X_align_15 (st1 := [va_rf (tz_rof (B + 1) p2)]) rfl ?_
  refine tz_astoreQ C_ (lv' := [(0, .ref B), (1, .int p), (2, .int p2), (3, .int w), (4, va_rf (tz_rof (B + 1) p)), (5, va_rf (tz_rof (B + 1) p2))]) [1, 2, 3, 4, 5, 0] (by decide) (by generalize tz_rof (B + 1) p = z9; cases z9 <;> rfl) td_X_align_18 ?_
  refine tz_aloadQ C_ 4 rfl td_X_align_20 ?_
  refine tz_ifnull C_ td_X_align_22 (fun h22 => ?_) (fun q22 h22 => ?_)
  · skip
    rw [h22]
    have hpk22 := tz_pk_none h22
    refine tz_aload_n C_ 0 rfl rfl td_X_align_40 ?_
    refine tz_ldc C_ tw_273 td_X_align_41 ?_
    refine tz_cV C_ tmi_X_answer tw_276 tw_0 tw_274 hB0 rfl (As := [.int (-100001)]) (by exact (ct_X_answer (v := -100001) hB0)) rfl (rest := []) rfl (by decide) (Nat.le_of_ble_eq_true rfl) td_X_align_43 (st1 := [.int (-100001)]) rfl (fun f1 hF1 => ?_)
    obtain ⟨hs2, hq2⟩ := hF1
    refine tz_riret C_ hr_ hk_ hQ_ rfl td_X_align_46 ?_
    have k3 : f1 (B + 166) = some (tz_obj 9 [.ref (B + 166 + 1), .int (nI tn)]) := ((hq2 _ (by omega)).trans hTu.1)
    have k4 : f1 (B + 166 + 1) = some (tz_ints cs 120 tg) := ((hq2 _ (by omega)).trans hTu.2)
    have k5 : f1 (B + 168) = some (tz_obj 0 [.int zA, .int (nI kA)]) := ((hq2 _ (by omega)).trans hAl)
    have kp6 : tz_Tape cs f1 (B + 1) R (tz_cur σ).2.1 o mp ml := hT.fr (fun q h1_ h2_ => (hq2 q (by omega)))
    have kp7 : tz_Hist cs f1 (B + 15) nx σ.2.1 St := hHi.fr (fun q h1_ h2_ => (hq2 q (by omega)))
    have kp8 : tz_Shs cs f1 (B + 157) Sb := hShs.fr (fun q h1_ h2_ => (hq2 q (by omega)))
    have kp9 : tz_PlX cs f1 (B + 169) := hPlX.fr (fun q h1_ h2_ => (hq2 q (by omega)))
    have kp10 : tz_RoX cs f1 (B + 177) := hRoX.fr (fun q h1_ h2_ => (hq2 q (by omega)))
    have e9 : sp_align σ p p2 w = tz_an σ (-100001) := by simp only [sp_align, hpk22]
    rw [e9]
    exact ⟨rfl, ⟨R, o, mp, ml, nx, St, Sb, ⟨hs2, kp6, kp7, kp8, ⟨_, _, ⟨k3, k4⟩, htn⟩, ⟨_, _, k5⟩, kp9, kp10⟩, hag.fr (fun q h9 => (hq2 q (by omega))), hnx, hH.fr (fun q h9 => (hq2 q (by omega))), hQ⟩, (fun q hh => by rw [hq2 q (by omega)])⟩
  · skip
    obtain ⟨kr22, hkr22, ekr22, eqkr22⟩ := tz_rof_some h22
    rw [h22]
    subst eqkr22
    subst ekr22
    have hpk22 := tz_pk_N hkr22
    have hRnkr22 := hRn kr22 hkr22
    have hlkr22 : (R kr22).1 = tz_ln σ kr22 := (hag.1 kr22 hkr22).1
    have hgkr22 : ∀ j, j < tz_ln σ kr22 → (R kr22).2 j = tz_sg σ kr22 j := (hag.1 kr22 hkr22).2
    have hakr22 : tz_at (R kr22).1 (R kr22).2 = tz_at (tz_ln σ kr22) (tz_sg σ kr22) := tz_agR.at hag.1 hkr22 (hW.cur.1 kr22 hkr22).1
    have hckr22 : tz_ln σ kr22 ≤ 120 := (hW.cur.1 kr22 hkr22).1
    refine tz_aloadQ C_ 5 rfl td_X_align_25 ?_
    refine tz_ifnull C_ td_X_align_27 (fun h27 => ?_) (fun q27 h27 => ?_)
    · skip
      rw [h27]
      have hpk27 := tz_pk_none h27
      refine tz_aload_n C_ 0 rfl rfl td_X_align_40 ?_
      refine tz_ldc C_ tw_273 td_X_align_41 ?_
      refine tz_cV C_ tmi_X_answer tw_276 tw_0 tw_274 hB0 rfl (As := [.int (-100001)]) (by exact (ct_X_answer (v := -100001) hB0)) rfl (rest := []) rfl (by decide) (Nat.le_of_ble_eq_true rfl) td_X_align_43 (st1 := [.int (-100001)]) rfl (fun f11 hF11 => ?_)
      obtain ⟨hs12, hq12⟩ := hF11
      refine tz_riret C_ hr_ hk_ hQ_ rfl td_X_align_46 ?_
      have k13 : f11 (B + 166) = some (tz_obj 9 [.ref (B + 166 + 1), .int (nI tn)]) := ((hq12 _ (by omega)).trans hTu.1)
      have k14 : f11 (B + 166 + 1) = some (tz_ints cs 120 tg) := ((hq12 _ (by omega)).trans hTu.2)
      have k15 : f11 (B + 168) = some (tz_obj 0 [.int zA, .int (nI kA)]) := ((hq12 _ (by omega)).trans hAl)
      have kp16 : tz_Tape cs f11 (B + 1) R (tz_cur σ).2.1 o mp ml := hT.fr (fun q h1_ h2_ => (hq12 q (by omega)))
      have kp17 : tz_Hist cs f11 (B + 15) nx σ.2.1 St := hHi.fr (fun q h1_ h2_ => (hq12 q (by omega)))
      have kp18 : tz_Shs cs f11 (B + 157) Sb := hShs.fr (fun q h1_ h2_ => (hq12 q (by omega)))
      have kp19 : tz_PlX cs f11 (B + 169) := hPlX.fr (fun q h1_ h2_ => (hq12 q (by omega)))
      have kp20 : tz_RoX cs f11 (B + 177) := hRoX.fr (fun q h1_ h2_ => (hq12 q (by omega)))
      have e9 : sp_align σ (nI kr22) p2 w = tz_an σ (-100001) := by simp only [sp_align, hpk22, hpk27]
      rw [e9]
      exact ⟨rfl, ⟨R, o, mp, ml, nx, St, Sb, ⟨hs12, kp16, kp17, kp18, ⟨_, _, ⟨k13, k14⟩, htn⟩, ⟨_, _, k15⟩, kp19, kp20⟩, hag.fr (fun q h9 => (hq12 q (by omega))), hnx, hH.fr (fun q h9 => (hq12 q (by omega))), hQ⟩, (fun q hh => by rw [hq12 q (by omega)])⟩
    · skip
      obtain ⟨kr27, hkr27, ekr27, eqkr27⟩ := tz_rof_some h27
      rw [h27]
      subst eqkr27
      subst ekr27
      have hpk27 := tz_pk_N hkr27
      have hRnkr27 := hRn kr27 hkr27
      have hlkr27 : (R kr27).1 = tz_ln σ kr27 := (hag.1 kr27 hkr27).1
      have hgkr27 : ∀ j, j < tz_ln σ kr27 → (R kr27).2 j = tz_sg σ kr27 j := (hag.1 kr27 hkr27).2
      have hakr27 : tz_at (R kr27).1 (R kr27).2 = tz_at (tz_ln σ kr27) (tz_sg σ kr27) := tz_agR.at hag.1 hkr27 (hW.cur.1 kr27 hkr27).1
      have hckr27 : tz_ln σ kr27 ≤ 120 := (hW.cur.1 kr27 hkr27).1
      refine tz_iload_n C_ 3 rfl rfl td_X_align_30 ?_
      refine tz_if_lt C_ td_X_align_31 (fun h31 => ?_) (fun h31 => ?_)
      · skip
        refine tz_aload_n C_ 0 rfl rfl td_X_align_40 ?_
        refine tz_ldc C_ tw_273 td_X_align_41 ?_
        refine tz_cV C_ tmi_X_answer tw_276 tw_0 tw_274 hB0 rfl (As := [.int (-100001)]) (by exact (ct_X_answer (v := -100001) hB0)) rfl (rest := []) rfl (by decide) (Nat.le_of_ble_eq_true rfl) td_X_align_43 (st1 := [.int (-100001)]) rfl (fun f21 hF21 => ?_)
        obtain ⟨hs22, hq22⟩ := hF21
        refine tz_riret C_ hr_ hk_ hQ_ rfl td_X_align_46 ?_
        have k23 : f21 (B + 166) = some (tz_obj 9 [.ref (B + 166 + 1), .int (nI tn)]) := ((hq22 _ (by omega)).trans hTu.1)
        have k24 : f21 (B + 166 + 1) = some (tz_ints cs 120 tg) := ((hq22 _ (by omega)).trans hTu.2)
        have k25 : f21 (B + 168) = some (tz_obj 0 [.int zA, .int (nI kA)]) := ((hq22 _ (by omega)).trans hAl)
        have kp26 : tz_Tape cs f21 (B + 1) R (tz_cur σ).2.1 o mp ml := hT.fr (fun q h1_ h2_ => (hq22 q (by omega)))
        have kp27 : tz_Hist cs f21 (B + 15) nx σ.2.1 St := hHi.fr (fun q h1_ h2_ => (hq22 q (by omega)))
        have kp28 : tz_Shs cs f21 (B + 157) Sb := hShs.fr (fun q h1_ h2_ => (hq22 q (by omega)))
        have kp29 : tz_PlX cs f21 (B + 169) := hPlX.fr (fun q h1_ h2_ => (hq22 q (by omega)))
        have kp30 : tz_RoX cs f21 (B + 177) := hRoX.fr (fun q h1_ h2_ => (hq22 q (by omega)))
        have e9 : sp_align σ (nI kr22) (nI kr27) w = tz_an σ (-100001) := by simp only [sp_align, hpk22, hpk27]; rw [if_neg (by grind)]
        rw [e9]
        exact ⟨rfl, ⟨R, o, mp, ml, nx, St, Sb, ⟨hs22, kp26, kp27, kp28, ⟨_, _, ⟨k23, k24⟩, htn⟩, ⟨_, _, k25⟩, kp29, kp30⟩, hag.fr (fun q h9 => (hq22 q (by omega))), hnx, hH.fr (fun q h9 => (hq22 q (by omega))), hQ⟩, (fun q hh => by rw [hq22 q (by omega)])⟩
      · skip
        refine tz_iload_n C_ 3 rfl rfl td_X_align_34 ?_
        refine tz_bipush C_ (v := 9) (by decide) td_X_align_35 ?_
        refine tz_icmp_le C_ td_X_align_37 (fun h37 => ?_) (fun h37 => ?_)
        · skip
          obtain ⟨m, hm, em⟩ := tz_toN h31 (show w ≤ nI 9 from h37) (by decide)
          subst em
          refine tz_aload_n C_ 0 rfl rfl td_X_align_47 ?_
          refine tz_aload_n C_ 0 rfl rfl td_X_align_48 ?_
          refine tz_get C_ tci_X 4 (by decide) tw_244 hB0 rfl td_X_align_49 ?_
          refine tz_aload C_ 4 rfl td_X_align_52 ?_
          refine tz_aload C_ 5 rfl td_X_align_54 ?_
          refine tz_iload_n C_ 3 rfl rfl td_X_align_56 ?_
          refine tz_cV C_ tmi_A_shift tw_593 tw_594 tw_682 hAl rfl (As := [.ref (B + 1 + 6 + 2 * kr22), .ref (B + 1 + 6 + 2 * kr27), .int (nI m)]) (by exact (ct_A_shift (z := zA) (x := kA) (n := (R kr22).1) (g := (R kr22).2) (n2 := (R kr27).1) (g2 := (R kr27).2) (w := m) hAl ⟨(hT.2.2.2.2.2 kr22 hkr22).1, (hT.2.2.2.2.2 kr22 hkr22).2⟩ (by omega) ⟨(hT.2.2.2.2.2 kr27 hkr27).1, (hT.2.2.2.2.2 kr27 hkr27).2⟩ (by omega) (by omega) (by omega))) rfl (rest := [.ref B]) rfl (by decide) (Nat.le_of_ble_eq_true rfl) td_X_align_57 (st1 := [.int ((tz_sh ((R kr22).2) ((R kr22).1) ((R kr27).1) ((R kr27).2) (2 * m + 1)).1), .ref B]) rfl (fun f31 hF31 => ?_)
          obtain ⟨zz32, xx32, hU32, hq32⟩ := hF31
          have k33 : f31 B = some (tz_obj 10 [.ref (B + 1), .ref (B + 15), .ref (B + 157), .ref (B + 166), .ref (B + 168), .ref (B + 169), .ref (B + 177), .int σ.2.2.2]) := ((hq32 _ (by omega)).trans hB0)
          refine tz_cV C_ tmi_X_answer tw_276 tw_0 tw_274 k33 rfl (As := [.int ((tz_sh ((R kr22).2) ((R kr22).1) ((R kr27).1) ((R kr27).2) (2 * m + 1)).1)]) (by exact (ct_X_answer (v := (tz_sh ((R kr22).2) ((R kr22).1) ((R kr27).1) ((R kr27).2) (2 * m + 1)).1) k33)) rfl (rest := []) rfl (by decide) (Nat.le_of_ble_eq_true rfl) td_X_align_60 (st1 := [.int ((tz_sh ((R kr22).2) ((R kr22).1) ((R kr27).1) ((R kr27).2) (2 * m + 1)).1)]) rfl (fun f34 hF34 => ?_)
          obtain ⟨hs35, hq35⟩ := hF34
          refine tz_riret C_ hr_ hk_ hQ_ rfl td_X_align_63 ?_
          have k36 : f34 (B + 166) = some (tz_obj 9 [.ref (B + 166 + 1), .int (nI tn)]) := ((hq35 _ (by omega)).trans ((hq32 _ (by omega)).trans hTu.1))
          have k37 : f34 (B + 166 + 1) = some (tz_ints cs 120 tg) := ((hq35 _ (by omega)).trans ((hq32 _ (by omega)).trans hTu.2))
          have k38 : f34 (B + 168) = some (tz_obj 0 [.int zz32, .int (nI xx32)]) := ((hq35 _ (by omega)).trans hU32)
          have kp39 : tz_Tape cs f34 (B + 1) R (tz_cur σ).2.1 o mp ml := hT.fr (fun q h1_ h2_ => ((hq35 q (by omega)).trans (hq32 q (by omega))))
          have kp40 : tz_Hist cs f34 (B + 15) nx σ.2.1 St := hHi.fr (fun q h1_ h2_ => ((hq35 q (by omega)).trans (hq32 q (by omega))))
          have kp41 : tz_Shs cs f34 (B + 157) Sb := hShs.fr (fun q h1_ h2_ => ((hq35 q (by omega)).trans (hq32 q (by omega))))
          have kp42 : tz_PlX cs f34 (B + 169) := hPlX.fr (fun q h1_ h2_ => ((hq35 q (by omega)).trans (hq32 q (by omega))))
          have kp43 : tz_RoX cs f34 (B + 177) := hRoX.fr (fun q h1_ h2_ => ((hq35 q (by omega)).trans (hq32 q (by omega))))
          have e9 : sp_align σ (nI kr22) (nI kr27) (nI m) = tz_an σ ((tz_sh ((R kr22).2) ((R kr22).1) ((R kr27).1) ((R kr27).2) (2 * m + 1)).1) := by 
            have a1 : tz_sh (R kr22).2 (R kr22).1 (R kr27).1 (R kr27).2 (2 * m + 1) = tz_sh (tz_sg σ kr22) (tz_ln σ kr22) (tz_ln σ kr27) (tz_sg σ kr27) (2 * m + 1) := by rw [tz_sh_ca hakr27, hlkr22, tz_sh_cg hgkr22]
            simp only [sp_align, hpk22, hpk27]
            rw [if_pos ⟨nI_pos' (by omega), nI_le (a := m) (b := 9) (by omega) (by omega)⟩, nI_clamp (by omega), ← a1]
          rw [e9]
          exact ⟨rfl, ⟨R, o, mp, ml, nx, St, Sb, ⟨hs35, kp39, kp40, kp41, ⟨_, _, ⟨k36, k37⟩, htn⟩, ⟨_, _, k38⟩, kp42, kp43⟩, hag.fr (fun q h9 => ((hq35 q (by omega)).trans (hq32 q (by omega)))), hnx, hH.fr (fun q h9 => ((hq35 q (by omega)).trans (hq32 q (by omega)))), hQ⟩, (fun q hh => by rw [hq35 q (by omega), hq32 q (by omega)])⟩
        · skip
          refine tz_aload_n C_ 0 rfl rfl td_X_align_40 ?_
          refine tz_ldc C_ tw_273 td_X_align_41 ?_
          refine tz_cV C_ tmi_X_answer tw_276 tw_0 tw_274 hB0 rfl (As := [.int (-100001)]) (by exact (ct_X_answer (v := -100001) hB0)) rfl (rest := []) rfl (by decide) (Nat.le_of_ble_eq_true rfl) td_X_align_43 (st1 := [.int (-100001)]) rfl (fun f44 hF44 => ?_)
          obtain ⟨hs45, hq45⟩ := hF44
          refine tz_riret C_ hr_ hk_ hQ_ rfl td_X_align_46 ?_
          have k46 : f44 (B + 166) = some (tz_obj 9 [.ref (B + 166 + 1), .int (nI tn)]) := ((hq45 _ (by omega)).trans hTu.1)
          have k47 : f44 (B + 166 + 1) = some (tz_ints cs 120 tg) := ((hq45 _ (by omega)).trans hTu.2)
          have k48 : f44 (B + 168) = some (tz_obj 0 [.int zA, .int (nI kA)]) := ((hq45 _ (by omega)).trans hAl)
          have kp49 : tz_Tape cs f44 (B + 1) R (tz_cur σ).2.1 o mp ml := hT.fr (fun q h1_ h2_ => (hq45 q (by omega)))
          have kp50 : tz_Hist cs f44 (B + 15) nx σ.2.1 St := hHi.fr (fun q h1_ h2_ => (hq45 q (by omega)))
          have kp51 : tz_Shs cs f44 (B + 157) Sb := hShs.fr (fun q h1_ h2_ => (hq45 q (by omega)))
          have kp52 : tz_PlX cs f44 (B + 169) := hPlX.fr (fun q h1_ h2_ => (hq45 q (by omega)))
          have kp53 : tz_RoX cs f44 (B + 177) := hRoX.fr (fun q h1_ h2_ => (hq45 q (by omega)))
          have e9 : sp_align σ (nI kr22) (nI kr27) w = tz_an σ (-100001) := by simp only [sp_align, hpk22, hpk27]; rw [if_neg (by grind)]
          rw [e9]
          exact ⟨rfl, ⟨R, o, mp, ml, nx, St, Sb, ⟨hs45, kp49, kp50, kp51, ⟨_, _, ⟨k46, k47⟩, htn⟩, ⟨_, _, k48⟩, kp52, kp53⟩, hag.fr (fun q h9 => (hq45 q (by omega))), hnx, hH.fr (fun q h9 => (hq45 q (by omega))), hQ⟩, (fun q hh => by rw [hq45 q (by omega)])⟩

abbrev rm_X_differ : Room := { frames := 2, cells := 0, slots := 0, locals := 47 }
set_option maxHeartbeats 4000000 in
set_option maxRecDepth 100000 in
theorem ct_X_differ {l : Launch} {A : Nat → Prop} {D : va_G} {cs : Nat → ClassId} {sz : Nat} {f : tz_PH} {B L0 : Nat} {σ : tz_SG} (hX : tz_AX cs L0 f B σ) (hW : tz_WF σ) (hB : B + 179 ≤ L0) {p p2 d z : Int32} : tz_CN l tyX_differ prog_1_method_24_code 7 (some (.int)) rm_X_differ 0 0 A D cs sz [.ref B, .int p, .int p2, .int d, .int z] f (some (.int (sp_differ σ p p2 d z).1)) (fun f' => tz_AX cs L0 f' B (sp_differ σ p p2 d z).2 ∧ ∀ q, (q < B ∨ B + 179 ≤ q) → f' q = f q) := by
  refine tz_C.ofB (lv0 := [(0, .ref B), (1, .int p), (2, .int p2), (3, .int d), (4, .int z)]) (plainFor_of_name (by decide)) (Nat.le_of_ble_eq_true rfl) rfl ?_
  intro p_ e_ s_ m_ ar_ be_ me_ c_ Q_ C_ hr_ hk_ hnm_ hz_ hQ_
  obtain ⟨R, o, mp, ml, nx, St, Sb, hXB, hag, hnx, hH, hQ⟩ := hX
  obtain ⟨hB0, hT, hHi, hShs, hTuX, hAlX, hPlX, hRoX⟩ := hXB
  have hTu9 := hTuX
  obtain ⟨tn, tg, hTu, htn⟩ := hTu9
  have hAl9 := hAlX
  obtain ⟨zA, kA, hAl⟩ := hAl9
  have hPl9 := hPlX
  obtain ⟨pr, px, pfo, pz, pk, ptn, ptg, pn, pg, pn2, pg2, hPl, hpn, hptn⟩ := hPl9
  have hRo9 := hRoX
  obtain ⟨jn, jg, hRo, hjn⟩ := hRo9
  have hrx := hPl.2.2.2.2.2
  have hRn : ∀ p, p < 4 → (R p).1 ≤ 120 := fun p hp => by rw [(hag.1 p hp).1]; exact (hW.cur.1 p hp).1
  have hnl : (tz_cur σ).2.1 ≤ 8 := hW.cur.2.1
  have hkp : σ.2.1 ≤ 20 := hW.1
  have hSn : ∀ s, s < 4 → (Sb s).2.1 ≤ 120 := fun s hs => by rw [(hQ s hs).2.1]; exact (hW.2.2 s hs).1
  refine tz_aload_n C_ 0 rfl rfl td_X_differ_0 ?_
  refine tz_get C_ tci_X 0 (by decide) tw_240 hB0 rfl td_X_differ_1 ?_
  refine tz_iload_n C_ 1 rfl rfl td_X_differ_4 ?_
  refine tz_rV C_ tmi_T_rowAt tw_270 tw_271 tw_269 hT.1 rfl (As := [.int p]) (by exact (ct_T_rowAt hT)) rfl (rest := []) rfl (by decide) (Nat.le_of_ble_eq_true rfl) td_X_differ_5 (st1 := [va_rf (tz_rof (B + 1) p)]) rfl ?_
  refine tz_astoreQ C_ (lv' := [(0, .ref B), (1, .int p), (2, .int p2), (3, .int d), (4, .int z), (5, va_rf (tz_rof (B + 1) p))]) [1, 2, 3, 4, 5, 0] (by decide) rfl td_X_differ_8 ?_
  refine tz_aload_n C_ 0 rfl rfl td_X_differ_10 ?_
  refine tz_get C_ tci_X 0 (by decide) tw_240 hB0 rfl td_X_differ_11 ?_
  refine tz_iload_n C_ 2 rfl rfl td_X_differ_14 ?_
  refine tz_rV C_ tmi_T_rowAt tw_270 tw_271 tw_269 hT.1 rfl (As := [.int p2]) (by exact (ct_T_rowAt hT)) rfl (rest := []) rfl (by decide) (Nat.le_of_ble_eq_true rfl) td_X_differ_15 (st1 := [va_rf (tz_rof (B + 1) p2)]) rfl ?_
  refine tz_astoreQ C_ (lv' := [(0, .ref B), (1, .int p), (2, .int p2), (3, .int d), (4, .int z), (5, va_rf (tz_rof (B + 1) p)), (6, va_rf (tz_rof (B + 1) p2))]) [1, 2, 3, 4, 5, 6, 0] (by decide) (by generalize tz_rof (B + 1) p = z9; cases z9 <;> rfl) td_X_differ_18 ?_
  refine tz_aloadQ C_ 5 rfl td_X_differ_20 ?_
  refine tz_ifnull C_ td_X_differ_22 (fun h22 => ?_) (fun q22 h22 => ?_)
  · skip
    rw [h22]
    have hpk22 := tz_pk_none h22
    refine tz_aload_n C_ 0 rfl rfl td_X_differ_42 ?_
    refine tz_ldc C_ tw_273 td_X_differ_43 ?_
    refine tz_cV C_ tmi_X_answer tw_276 tw_0 tw_274 hB0 rfl (As := [.int (-100001)]) (by exact (ct_X_answer (v := -100001) hB0)) rfl (rest := []) rfl (by decide) (Nat.le_of_ble_eq_true rfl) td_X_differ_45 (st1 := [.int (-100001)]) rfl (fun f1 hF1 => ?_)
    obtain ⟨hs2, hq2⟩ := hF1
    refine tz_riret C_ hr_ hk_ hQ_ rfl td_X_differ_48 ?_
    have k3 : f1 (B + 166) = some (tz_obj 9 [.ref (B + 166 + 1), .int (nI tn)]) := ((hq2 _ (by omega)).trans hTu.1)
    have k4 : f1 (B + 166 + 1) = some (tz_ints cs 120 tg) := ((hq2 _ (by omega)).trans hTu.2)
    have k5 : f1 (B + 168) = some (tz_obj 0 [.int zA, .int (nI kA)]) := ((hq2 _ (by omega)).trans hAl)
    have kp6 : tz_Tape cs f1 (B + 1) R (tz_cur σ).2.1 o mp ml := hT.fr (fun q h1_ h2_ => (hq2 q (by omega)))
    have kp7 : tz_Hist cs f1 (B + 15) nx σ.2.1 St := hHi.fr (fun q h1_ h2_ => (hq2 q (by omega)))
    have kp8 : tz_Shs cs f1 (B + 157) Sb := hShs.fr (fun q h1_ h2_ => (hq2 q (by omega)))
    have kp9 : tz_PlX cs f1 (B + 169) := hPlX.fr (fun q h1_ h2_ => (hq2 q (by omega)))
    have kp10 : tz_RoX cs f1 (B + 177) := hRoX.fr (fun q h1_ h2_ => (hq2 q (by omega)))
    have e9 : sp_differ σ p p2 d z = tz_an σ (-100001) := by simp only [sp_differ, hpk22]
    rw [e9]
    exact ⟨rfl, ⟨R, o, mp, ml, nx, St, Sb, ⟨hs2, kp6, kp7, kp8, ⟨_, _, ⟨k3, k4⟩, htn⟩, ⟨_, _, k5⟩, kp9, kp10⟩, hag.fr (fun q h9 => (hq2 q (by omega))), hnx, hH.fr (fun q h9 => (hq2 q (by omega))), hQ⟩, (fun q hh => by rw [hq2 q (by omega)])⟩
  · skip
    obtain ⟨kr22, hkr22, ekr22, eqkr22⟩ := tz_rof_some h22
    rw [h22]
    subst eqkr22
    subst ekr22
    have hpk22 := tz_pk_N hkr22
    have hRnkr22 := hRn kr22 hkr22
    have hlkr22 : (R kr22).1 = tz_ln σ kr22 := (hag.1 kr22 hkr22).1
    have hgkr22 : ∀ j, j < tz_ln σ kr22 → (R kr22).2 j = tz_sg σ kr22 j := (hag.1 kr22 hkr22).2
    have hakr22 : tz_at (R kr22).1 (R kr22).2 = tz_at (tz_ln σ kr22) (tz_sg σ kr22) := tz_agR.at hag.1 hkr22 (hW.cur.1 kr22 hkr22).1
    have hckr22 : tz_ln σ kr22 ≤ 120 := (hW.cur.1 kr22 hkr22).1
    refine tz_aloadQ C_ 6 rfl td_X_differ_25 ?_
    refine tz_ifnull C_ td_X_differ_27 (fun h27 => ?_) (fun q27 h27 => ?_)
    · skip
      rw [h27]
      have hpk27 := tz_pk_none h27
      refine tz_aload_n C_ 0 rfl rfl td_X_differ_42 ?_
      refine tz_ldc C_ tw_273 td_X_differ_43 ?_
      refine tz_cV C_ tmi_X_answer tw_276 tw_0 tw_274 hB0 rfl (As := [.int (-100001)]) (by exact (ct_X_answer (v := -100001) hB0)) rfl (rest := []) rfl (by decide) (Nat.le_of_ble_eq_true rfl) td_X_differ_45 (st1 := [.int (-100001)]) rfl (fun f11 hF11 => ?_)
      obtain ⟨hs12, hq12⟩ := hF11
      refine tz_riret C_ hr_ hk_ hQ_ rfl td_X_differ_48 ?_
      have k13 : f11 (B + 166) = some (tz_obj 9 [.ref (B + 166 + 1), .int (nI tn)]) := ((hq12 _ (by omega)).trans hTu.1)
      have k14 : f11 (B + 166 + 1) = some (tz_ints cs 120 tg) := ((hq12 _ (by omega)).trans hTu.2)
      have k15 : f11 (B + 168) = some (tz_obj 0 [.int zA, .int (nI kA)]) := ((hq12 _ (by omega)).trans hAl)
      have kp16 : tz_Tape cs f11 (B + 1) R (tz_cur σ).2.1 o mp ml := hT.fr (fun q h1_ h2_ => (hq12 q (by omega)))
      have kp17 : tz_Hist cs f11 (B + 15) nx σ.2.1 St := hHi.fr (fun q h1_ h2_ => (hq12 q (by omega)))
      have kp18 : tz_Shs cs f11 (B + 157) Sb := hShs.fr (fun q h1_ h2_ => (hq12 q (by omega)))
      have kp19 : tz_PlX cs f11 (B + 169) := hPlX.fr (fun q h1_ h2_ => (hq12 q (by omega)))
      have kp20 : tz_RoX cs f11 (B + 177) := hRoX.fr (fun q h1_ h2_ => (hq12 q (by omega)))
      have e9 : sp_differ σ (nI kr22) p2 d z = tz_an σ (-100001) := by simp only [sp_differ, hpk22, hpk27]
      rw [e9]
      exact ⟨rfl, ⟨R, o, mp, ml, nx, St, Sb, ⟨hs12, kp16, kp17, kp18, ⟨_, _, ⟨k13, k14⟩, htn⟩, ⟨_, _, k15⟩, kp19, kp20⟩, hag.fr (fun q h9 => (hq12 q (by omega))), hnx, hH.fr (fun q h9 => (hq12 q (by omega))), hQ⟩, (fun q hh => by rw [hq12 q (by omega)])⟩
    · skip
      obtain ⟨kr27, hkr27, ekr27, eqkr27⟩ := tz_rof_some h27
      rw [h27]
      subst eqkr27
      subst ekr27
      have hpk27 := tz_pk_N hkr27
      have hRnkr27 := hRn kr27 hkr27
      have hlkr27 : (R kr27).1 = tz_ln σ kr27 := (hag.1 kr27 hkr27).1
      have hgkr27 : ∀ j, j < tz_ln σ kr27 → (R kr27).2 j = tz_sg σ kr27 j := (hag.1 kr27 hkr27).2
      have hakr27 : tz_at (R kr27).1 (R kr27).2 = tz_at (tz_ln σ kr27) (tz_sg σ kr27) := tz_agR.at hag.1 hkr27 (hW.cur.1 kr27 hkr27).1
      have hckr27 : tz_ln σ kr27 ≤ 120 := (hW.cur.1 kr27 hkr27).1
      refine tz_iload_n C_ 3 rfl rfl td_X_differ_30 ?_
      refine tz_bipush C_ (v := -9) (by decide) td_X_differ_31 ?_
      refine tz_icmp_lt C_ td_X_differ_33 (fun h33 => ?_) (fun h33 => ?_)
      · skip
        refine tz_aload_n C_ 0 rfl rfl td_X_differ_42 ?_
        refine tz_ldc C_ tw_273 td_X_differ_43 ?_
        refine tz_cV C_ tmi_X_answer tw_276 tw_0 tw_274 hB0 rfl (As := [.int (-100001)]) (by exact (ct_X_answer (v := -100001) hB0)) rfl (rest := []) rfl (by decide) (Nat.le_of_ble_eq_true rfl) td_X_differ_45 (st1 := [.int (-100001)]) rfl (fun f21 hF21 => ?_)
        obtain ⟨hs22, hq22⟩ := hF21
        refine tz_riret C_ hr_ hk_ hQ_ rfl td_X_differ_48 ?_
        have k23 : f21 (B + 166) = some (tz_obj 9 [.ref (B + 166 + 1), .int (nI tn)]) := ((hq22 _ (by omega)).trans hTu.1)
        have k24 : f21 (B + 166 + 1) = some (tz_ints cs 120 tg) := ((hq22 _ (by omega)).trans hTu.2)
        have k25 : f21 (B + 168) = some (tz_obj 0 [.int zA, .int (nI kA)]) := ((hq22 _ (by omega)).trans hAl)
        have kp26 : tz_Tape cs f21 (B + 1) R (tz_cur σ).2.1 o mp ml := hT.fr (fun q h1_ h2_ => (hq22 q (by omega)))
        have kp27 : tz_Hist cs f21 (B + 15) nx σ.2.1 St := hHi.fr (fun q h1_ h2_ => (hq22 q (by omega)))
        have kp28 : tz_Shs cs f21 (B + 157) Sb := hShs.fr (fun q h1_ h2_ => (hq22 q (by omega)))
        have kp29 : tz_PlX cs f21 (B + 169) := hPlX.fr (fun q h1_ h2_ => (hq22 q (by omega)))
        have kp30 : tz_RoX cs f21 (B + 177) := hRoX.fr (fun q h1_ h2_ => (hq22 q (by omega)))
        have e9 : sp_differ σ (nI kr22) (nI kr27) d z = tz_an σ (-100001) := by simp only [sp_differ, hpk22, hpk27]; rw [if_neg (by grind)]
        rw [e9]
        exact ⟨rfl, ⟨R, o, mp, ml, nx, St, Sb, ⟨hs22, kp26, kp27, kp28, ⟨_, _, ⟨k23, k24⟩, htn⟩, ⟨_, _, k25⟩, kp29, kp30⟩, hag.fr (fun q h9 => (hq22 q (by omega))), hnx, hH.fr (fun q h9 => (hq22 q (by omega))), hQ⟩, (fun q hh => by rw [hq22 q (by omega)])⟩
      · skip
        refine tz_iload_n C_ 3 rfl rfl td_X_differ_36 ?_
        refine tz_bipush C_ (v := 9) (by decide) td_X_differ_37 ?_
        refine tz_icmp_le C_ td_X_differ_39 (fun h39 => ?_) (fun h39 => ?_)
        · skip
          refine tz_aload_n C_ 0 rfl rfl td_X_differ_49 ?_
          refine tz_get C_ tci_X 4 (by decide) tw_244 hB0 rfl td_X_differ_50 ?_
          refine tz_aload C_ 5 rfl td_X_differ_53 ?_
          refine tz_aload C_ 6 rfl td_X_differ_55 ?_
          refine tz_iload_n C_ 3 rfl rfl td_X_differ_57 ?_
          refine tz_cV C_ tmi_A_compare tw_598 tw_599 tw_687 hAl rfl (As := [.ref (B + 1 + 6 + 2 * kr22), .ref (B + 1 + 6 + 2 * kr27), .int d]) (by exact (ct_A_compare (z := zA) (x := kA) (n := (R kr22).1) (g := (R kr22).2) (n2 := (R kr27).1) (g2 := (R kr27).2) hAl ⟨(hT.2.2.2.2.2 kr22 hkr22).1, (hT.2.2.2.2.2 kr22 hkr22).2⟩ (by omega) ⟨(hT.2.2.2.2.2 kr27 hkr27).1, (hT.2.2.2.2.2 kr27 hkr27).2⟩ (by omega) (by omega))) rfl (rest := []) rfl (by decide) (Nat.le_of_ble_eq_true rfl) td_X_differ_58 (st1 := []) rfl (fun f31 hF31 => ?_)
          obtain ⟨hU32, hq32⟩ := hF31
          refine tz_iload C_ 4 rfl td_X_differ_61 ?_
          refine tz_if_eq C_ td_X_differ_63 (fun h63 => ?_) (fun h63 => ?_)
          · skip
            refine tz_aload_n C_ 0 rfl rfl td_X_differ_76 ?_
            have k33 : f31 B = some (tz_obj 10 [.ref (B + 1), .ref (B + 15), .ref (B + 157), .ref (B + 166), .ref (B + 168), .ref (B + 169), .ref (B + 177), .int σ.2.2.2]) := ((hq32 _ (by omega)).trans hB0)
            refine tz_get C_ tci_X 4 (by decide) tw_244 k33 rfl td_X_differ_77 ?_
            refine tz_rV C_ tmi_A_sum tw_693 tw_694 tw_692 hU32 rfl (As := []) (by exact (ct_A_sum (z := tz_ds ((R kr22).2) ((R kr27).1) ((R kr27).2) d ((R kr22).1)) (x := (tz_dn ((R kr22).2) ((R kr27).1) ((R kr27).2) d ((R kr22).1))) hU32)) rfl (rest := []) rfl (by decide) (Nat.le_of_ble_eq_true rfl) td_X_differ_80 (st1 := [.int (tz_ds ((R kr22).2) ((R kr27).1) ((R kr27).2) d ((R kr22).1))]) rfl ?_
            refine tz_riret C_ hr_ hk_ hQ_ rfl td_X_differ_83 ?_
            have k34 : f31 (B + 166) = some (tz_obj 9 [.ref (B + 166 + 1), .int (nI tn)]) := ((hq32 _ (by omega)).trans hTu.1)
            have k35 : f31 (B + 166 + 1) = some (tz_ints cs 120 tg) := ((hq32 _ (by omega)).trans hTu.2)
            have kp36 : tz_Tape cs f31 (B + 1) R (tz_cur σ).2.1 o mp ml := hT.fr (fun q h1_ h2_ => (hq32 q (by omega)))
            have kp37 : tz_Hist cs f31 (B + 15) nx σ.2.1 St := hHi.fr (fun q h1_ h2_ => (hq32 q (by omega)))
            have kp38 : tz_Shs cs f31 (B + 157) Sb := hShs.fr (fun q h1_ h2_ => (hq32 q (by omega)))
            have kp39 : tz_PlX cs f31 (B + 169) := hPlX.fr (fun q h1_ h2_ => (hq32 q (by omega)))
            have kp40 : tz_RoX cs f31 (B + 177) := hRoX.fr (fun q h1_ h2_ => (hq32 q (by omega)))
            have e9 : sp_differ σ (nI kr22) (nI kr27) d z = (tz_ds ((R kr22).2) ((R kr27).1) ((R kr27).2) d ((R kr22).1), σ) := by 
              have a1 : tz_ds (R kr22).2 (R kr27).1 (R kr27).2 d (R kr22).1 = tz_ds (tz_sg σ kr22) (tz_ln σ kr27) (tz_sg σ kr27) d (tz_ln σ kr22) := by rw [tz_ds_ca hakr27, hlkr22, tz_ds_cg hgkr22 _ (Nat.le_refl _)]
              have a2 : tz_dn (R kr22).2 (R kr27).1 (R kr27).2 d (R kr22).1 = tz_dn (tz_sg σ kr22) (tz_ln σ kr27) (tz_sg σ kr27) d (tz_ln σ kr22) := by rw [tz_dn_ca hakr27, hlkr22, tz_dn_cg hgkr22]
              simp only [sp_differ, hpk22, hpk27]
              rw [if_pos ⟨Int32.not_lt.mp h33, h39⟩, if_pos h63, ← a1]
            rw [e9]
            exact ⟨rfl, ⟨R, o, mp, ml, nx, St, Sb, ⟨k33, kp36, kp37, kp38, ⟨_, _, ⟨k34, k35⟩, htn⟩, ⟨_, _, hU32⟩, kp39, kp40⟩, hag.fr (fun q h9 => (hq32 q (by omega))), hnx, hH.fr (fun q h9 => (hq32 q (by omega))), hQ⟩, (fun q hh => by rw [hq32 q (by omega)])⟩
          · skip
            refine tz_aload_n C_ 0 rfl rfl td_X_differ_66 ?_
            have k41 : f31 B = some (tz_obj 10 [.ref (B + 1), .ref (B + 15), .ref (B + 157), .ref (B + 166), .ref (B + 168), .ref (B + 169), .ref (B + 177), .int σ.2.2.2]) := ((hq32 _ (by omega)).trans hB0)
            refine tz_get C_ tci_X 4 (by decide) tw_244 k41 rfl td_X_differ_67 ?_
            refine tz_rV C_ tmi_A_places tw_689 tw_690 tw_688 hU32 rfl (As := []) (by exact (ct_A_places (z := tz_ds ((R kr22).2) ((R kr27).1) ((R kr27).2) d ((R kr22).1)) (x := (tz_dn ((R kr22).2) ((R kr27).1) ((R kr27).2) d ((R kr22).1))) hU32)) rfl (rest := []) rfl (by decide) (Nat.le_of_ble_eq_true rfl) td_X_differ_70 (st1 := [.int (nI ((tz_dn ((R kr22).2) ((R kr27).1) ((R kr27).2) d ((R kr22).1))))]) rfl ?_
            refine tz_goto C_ td_X_differ_73 ?_
            refine tz_riret C_ hr_ hk_ hQ_ rfl td_X_differ_83 ?_
            have k42 : f31 (B + 166) = some (tz_obj 9 [.ref (B + 166 + 1), .int (nI tn)]) := ((hq32 _ (by omega)).trans hTu.1)
            have k43 : f31 (B + 166 + 1) = some (tz_ints cs 120 tg) := ((hq32 _ (by omega)).trans hTu.2)
            have kp44 : tz_Tape cs f31 (B + 1) R (tz_cur σ).2.1 o mp ml := hT.fr (fun q h1_ h2_ => (hq32 q (by omega)))
            have kp45 : tz_Hist cs f31 (B + 15) nx σ.2.1 St := hHi.fr (fun q h1_ h2_ => (hq32 q (by omega)))
            have kp46 : tz_Shs cs f31 (B + 157) Sb := hShs.fr (fun q h1_ h2_ => (hq32 q (by omega)))
            have kp47 : tz_PlX cs f31 (B + 169) := hPlX.fr (fun q h1_ h2_ => (hq32 q (by omega)))
            have kp48 : tz_RoX cs f31 (B + 177) := hRoX.fr (fun q h1_ h2_ => (hq32 q (by omega)))
            have e9 : sp_differ σ (nI kr22) (nI kr27) d z = (nI ((tz_dn ((R kr22).2) ((R kr27).1) ((R kr27).2) d ((R kr22).1))), σ) := by 
              have a1 : tz_ds (R kr22).2 (R kr27).1 (R kr27).2 d (R kr22).1 = tz_ds (tz_sg σ kr22) (tz_ln σ kr27) (tz_sg σ kr27) d (tz_ln σ kr22) := by rw [tz_ds_ca hakr27, hlkr22, tz_ds_cg hgkr22 _ (Nat.le_refl _)]
              have a2 : tz_dn (R kr22).2 (R kr27).1 (R kr27).2 d (R kr22).1 = tz_dn (tz_sg σ kr22) (tz_ln σ kr27) (tz_sg σ kr27) d (tz_ln σ kr22) := by rw [tz_dn_ca hakr27, hlkr22, tz_dn_cg hgkr22]
              simp only [sp_differ, hpk22, hpk27]
              rw [if_pos ⟨Int32.not_lt.mp h33, h39⟩, if_neg h63, ← a2]
            rw [e9]
            exact ⟨rfl, ⟨R, o, mp, ml, nx, St, Sb, ⟨k41, kp44, kp45, kp46, ⟨_, _, ⟨k42, k43⟩, htn⟩, ⟨_, _, hU32⟩, kp47, kp48⟩, hag.fr (fun q h9 => (hq32 q (by omega))), hnx, hH.fr (fun q h9 => (hq32 q (by omega))), hQ⟩, (fun q hh => by rw [hq32 q (by omega)])⟩
        · skip
          refine tz_aload_n C_ 0 rfl rfl td_X_differ_42 ?_
          refine tz_ldc C_ tw_273 td_X_differ_43 ?_
          refine tz_cV C_ tmi_X_answer tw_276 tw_0 tw_274 hB0 rfl (As := [.int (-100001)]) (by exact (ct_X_answer (v := -100001) hB0)) rfl (rest := []) rfl (by decide) (Nat.le_of_ble_eq_true rfl) td_X_differ_45 (st1 := [.int (-100001)]) rfl (fun f49 hF49 => ?_)
          obtain ⟨hs50, hq50⟩ := hF49
          refine tz_riret C_ hr_ hk_ hQ_ rfl td_X_differ_48 ?_
          have k51 : f49 (B + 166) = some (tz_obj 9 [.ref (B + 166 + 1), .int (nI tn)]) := ((hq50 _ (by omega)).trans hTu.1)
          have k52 : f49 (B + 166 + 1) = some (tz_ints cs 120 tg) := ((hq50 _ (by omega)).trans hTu.2)
          have k53 : f49 (B + 168) = some (tz_obj 0 [.int zA, .int (nI kA)]) := ((hq50 _ (by omega)).trans hAl)
          have kp54 : tz_Tape cs f49 (B + 1) R (tz_cur σ).2.1 o mp ml := hT.fr (fun q h1_ h2_ => (hq50 q (by omega)))
          have kp55 : tz_Hist cs f49 (B + 15) nx σ.2.1 St := hHi.fr (fun q h1_ h2_ => (hq50 q (by omega)))
          have kp56 : tz_Shs cs f49 (B + 157) Sb := hShs.fr (fun q h1_ h2_ => (hq50 q (by omega)))
          have kp57 : tz_PlX cs f49 (B + 169) := hPlX.fr (fun q h1_ h2_ => (hq50 q (by omega)))
          have kp58 : tz_RoX cs f49 (B + 177) := hRoX.fr (fun q h1_ h2_ => (hq50 q (by omega)))
          have e9 : sp_differ σ (nI kr22) (nI kr27) d z = tz_an σ (-100001) := by simp only [sp_differ, hpk22, hpk27]; rw [if_neg (by grind)]
          rw [e9]
          exact ⟨rfl, ⟨R, o, mp, ml, nx, St, Sb, ⟨hs50, kp54, kp55, kp56, ⟨_, _, ⟨k51, k52⟩, htn⟩, ⟨_, _, k53⟩, kp57, kp58⟩, hag.fr (fun q h9 => (hq50 q (by omega))), hnx, hH.fr (fun q h9 => (hq50 q (by omega))), hQ⟩, (fun q hh => by rw [hq50 q (by omega)])⟩
