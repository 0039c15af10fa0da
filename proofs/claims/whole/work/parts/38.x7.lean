
theorem tz_nn {x : Int32} (h : ¬ x < 0) : ∃ k : Nat, k < 2 ^ 31 ∧ x = nI k := by
  have a0 := Int32.le_iff_toInt_le.mp (Int32.not_lt.mp h)
  have z : (0 : Int32).toInt = 0 := rfl
  rw [z] at a0
  have a1 := Int32.toInt_lt x
  refine ⟨x.toInt.toNat, by omega, ?_⟩
  apply Int32.toInt_inj.mp
  rw [nI_toInt (by omega)]
  omega
def tz_sm (n : Nat) (g : Nat → Int32) (n2 : Nat) (g2 : Nat → Int32) (a : Nat) : Nat → Int32 × Int32
  | 0 => (tz_NO, 0)
  | t + 1 =>
    let r := tz_sm n g n2 g2 a t
    if tz_at n g (nI (a + t)) = tz_LO ∨ tz_at n2 g2 (nI (a + t)) = tz_LO then r else
    if r.1 = tz_NO ∨ tz_ab (tz_at n g (nI (a + t)) - tz_at n2 g2 (nI (a + t))) < r.2 then (nI (a + t), tz_ab (tz_at n g (nI (a + t)) - tz_at n2 g2 (nI (a + t)))) else r
theorem tz_sm_ca {n n' n2 n2' a : Nat} {g g' g2 g2' : Nat → Int32} (h : tz_at n g = tz_at n' g') (h2 : tz_at n2 g2 = tz_at n2' g2') : ∀ t, tz_sm n g n2 g2 a t = tz_sm n' g' n2' g2' a t := by
  intro t
  induction t with
  | zero => rfl
  | succ t ih => simp only [tz_sm, ih, h, h2]
def sp_seam (s : tz_SG) (p q x y : Int32) : tz_AN := match tz_pk p with
  | none => tz_an s tz_BE
  | some a => match tz_pk q with
    | none => tz_an s tz_BE
    | some b => if 0 ≤ x ∧ x ≤ y then tz_an s (tz_sm (tz_ln s a) (tz_sg s a) (tz_ln s b) (tz_sg s b) x.toNatClampNeg (min (y.toNatClampNeg + 1) (tz_ln s a) - x.toNatClampNeg)).1 else tz_an s tz_BE
theorem tz_last {my n i : Nat} (hm : my < 2 ^ 31) (hn : n ≤ 120) (hi : i < 2 ^ 31) : tz_mn (nI my) (nI n - 1) < nI i ↔ min (my + 1) n ≤ i := by
  have e1 : (nI n - 1).toInt = (n : Int) - 1 := by
    by_cases h : n = 0
    · subst h; decide
    · rw [show (nI n - 1 : Int32) = nI (n - 1) from pk_sub (a := n) (b := 1) (by omega), nI_toInt (by omega)]
      omega
  unfold tz_mn
  rw [Int32.lt_iff_toInt_lt]
  by_cases h : (nI n - 1 : Int32) < nI my
  · rw [if_pos h]
    rw [Int32.lt_iff_toInt_lt, e1, nI_toInt hm] at h
    rw [e1, nI_toInt hi]
    omega
  · rw [if_neg h]
    rw [Int32.lt_iff_toInt_lt, e1, nI_toInt hm] at h
    rw [nI_toInt hm, nI_toInt hi]
    omega
theorem tz_sm_sk {n n2 a i : Nat} {g g2 : Nat → Int32} {b l : Int32} (hi : a ≤ i) (h : (b, l) = tz_sm n g n2 g2 a (i - a)) (hl : tz_at n g (nI i) = tz_LO ∨ tz_at n2 g2 (nI i) = tz_LO) : (b, l) = tz_sm n g n2 g2 a (i + 1 - a) := by
  rw [show i + 1 - a = (i - a) + 1 by omega, tz_sm]
  simp only [show a + (i - a) = i by omega]
  rw [if_pos hl]; exact h
theorem tz_sm_no {n n2 a i : Nat} {g g2 : Nat → Int32} {b l : Int32} (hi : a ≤ i) (h : (b, l) = tz_sm n g n2 g2 a (i - a)) (hl : ¬ tz_at n g (nI i) = tz_LO) (hl2 : ¬ tz_at n2 g2 (nI i) = tz_LO) (h3 : ¬ b = tz_NO) (h4 : ¬ tz_ab (tz_at n g (nI i) - tz_at n2 g2 (nI i)) < l) : (b, l) = tz_sm n g n2 g2 a (i + 1 - a) := by
  rw [show i + 1 - a = (i - a) + 1 by omega, tz_sm]
  simp only [show a + (i - a) = i by omega]
  rw [if_neg (not_or.mpr ⟨hl, hl2⟩), ← h, if_neg (not_or.mpr ⟨h3, h4⟩)]
theorem tz_sm_ye {n n2 a i : Nat} {g g2 : Nat → Int32} {b l : Int32} (hi : a ≤ i) (h : (b, l) = tz_sm n g n2 g2 a (i - a)) (hl : ¬ tz_at n g (nI i) = tz_LO) (hl2 : ¬ tz_at n2 g2 (nI i) = tz_LO) (h3 : b = tz_NO ∨ tz_ab (tz_at n g (nI i) - tz_at n2 g2 (nI i)) < l) : (nI i, tz_ab (tz_at n g (nI i) - tz_at n2 g2 (nI i))) = tz_sm n g n2 g2 a (i + 1 - a) := by
  rw [show i + 1 - a = (i - a) + 1 by omega, tz_sm]
  simp only [show a + (i - a) = i by omega]
  rw [if_neg (not_or.mpr ⟨hl, hl2⟩), ← h, if_pos h3]

abbrev rm_X_seam : Room := { frames := 1, cells := 0, slots := 0, locals := 21 }
set_option maxHeartbeats 4000000 in
set_option maxRecDepth 100000 in
theorem ct_X_seam {l : Launch} {A : Nat → Prop} {D : va_G} {cs : Nat → ClassId} {sz : Nat} {f : tz_PH} {B L0 : Nat} {σ : tz_SG} (hX : tz_AX cs L0 f B σ) (hW : tz_WF σ) (hB : B + 179 ≤ L0) {p p2 x y : Int32} : tz_CN l tyX_seam prog_1_method_25_code 12 (some (.int)) rm_X_seam 0 0 A D cs sz [.ref B, .int p, .int p2, .int x, .int y] f (some (.int (sp_seam σ p p2 x y).1)) (fun f' => tz_AX cs L0 f' B (sp_seam σ p p2 x y).2 ∧ ∀ q, (q < B ∨ B + 179 ≤ q) → f' q = f q) := by
  refine tz_C.ofB (lv0 := [(0, .ref B), (1, .int p), (2, .int p2), (3, .int x), (4, .int y)]) (plainFor_of_name (by decide)) (Nat.le_of_ble_eq_true rfl) rfl ?_
  intro p_ e_ s_ m_ ar_ be_ me_ c_ Q_ C_ hr_ hk_ hnm_ hz_ hQ_
  obtain ⟨R, o, mp, ml, nx, St, Sb, hXB, hag, hnx, hH, hQ⟩ := hX
  obtain ⟨hB0, hT, hHi, hShs, hTuX, hAlX, hPlX, hRoX⟩ := hXB
  have hTu9 := hTuX
  obtain ⟨tn, tg, hTu, htn⟩ := hTu9
  have hAl9 := hAlX
  obtain ⟨zA, kA, hAl⟩ := hAl9
  have hPl9 := hPlX
  obtain ⟨pr, px, pfo, pz, pk, ptn, ptg, pn, pg, pn2, pg2, hPl, hpn, hptn⟩ := hPl9
  have hRo9 := hRoX
  obtain ⟨jn, jg, hRo, hjn⟩ := hRo9
  have hrx := hPl.2.2.2.2.2
  have hRn : ∀ p, p < 4 → (R p).1 ≤ 120 := fun p hp => by rw [(hag.1 p hp).1]; exact (hW.cur.1 p hp).1
  have hnl : (tz_cur σ).2.1 ≤ 8 := hW.cur.2.1
  have hkp : σ.2.1 ≤ 20 := hW.1
  have hSn : ∀ s, s < 4 → (Sb s).2.1 ≤ 120 := fun s hs => by rw [(hQ s hs).2.1]; exact (hW.2.2 s hs).1
  refine tz_aload_n C_ 0 rfl rfl td_X_seam_0 ?_
  refine tz_get C_ tci_X 0 (by decide) tw_240 hB0 rfl td_X_seam_1 ?_
  refine tz_iload_n C_ 1 rfl rfl td_X_seam_4 ?_
  refine tz_rV C_ tmi_T_rowAt tw_270 tw_271 tw_269 hT.1 rfl (As := [.int p]) (by exact (ct_T_rowAt hT)) rfl (rest := []) rfl (by decide) (Nat.le_of_ble_eq_true rfl) td_X_seam_5 (st1 := [va_rf (tz_rof (B + 1) p)]) rfl ?_
  refine tz_astoreQ C_ (lv' := [(0, .ref B), (1, .int p), (2, .int p2), (3, .int x), (4, .int y), (5, va_rf (tz_rof (B + 1) p))]) [1, 2, 3, 4, 5, 0] (by decide) rfl td_X_seam_8 ?_
  refine tz_aload_n C_ 0 rfl rfl td_X_seam_10 ?_
  refine tz_get C_ tci_X 0 (by decide) tw_240 hB0 rfl td_X_seam_11 ?_
  refine tz_iload_n C_ 2 rfl rfl td_X_seam_14 ?_
  refine tz_rV C_ tmi_T_rowAt tw_270 tw_271 tw_269 hT.1 rfl (As := [.int p2]) (by exact (ct_T_rowAt hT)) rfl (rest := []) rfl (by decide) (Nat.le_of_ble_eq_true rfl) td_X_seam_15 (st1 := [va_rf (tz_rof (B + 1) p2)]) rfl ?_
  refine tz_astoreQ C_ (lv' := [(0, .ref B), (1, .int p), (2, .int p2), (3, .int x), (4, .int y), (5, va_rf (tz_rof (B + 1) p)), (6, va_rf (tz_rof (B + 1) p2))]) [1, 2, 3, 4, 5, 6, 0] (by decide) (by generalize tz_rof (B + 1) p = z9; cases z9 <;> rfl) td_X_seam_18 ?_
  refine tz_aloadQ C_ 5 rfl td_X_seam_20 ?_
  refine tz_ifnull C_ td_X_seam_22 (fun h22 => ?_) (fun q22 h22 => ?_)
  · skip
    rw [h22]
    have hpk22 := tz_pk_none h22
    refine tz_aload_n C_ 0 rfl rfl td_X_seam_40 ?_
    refine tz_ldc C_ tw_273 td_X_seam_41 ?_
    refine tz_cV C_ tmi_X_answer tw_276 tw_0 tw_274 hB0 rfl (As := [.int (-100001)]) (by exact (ct_X_answer (v := -100001) hB0)) rfl (rest := []) rfl (by decide) (Nat.le_of_ble_eq_true rfl) td_X_seam_43 (st1 := [.int (-100001)]) rfl (fun f1 hF1 => ?_)
    obtain ⟨hs2, hq2⟩ := hF1
    refine tz_riret C_ hr_ hk_ hQ_ rfl td_X_seam_46 ?_
    have k3 : f1 (B + 166) = some (tz_obj 9 [.ref (B + 166 + 1), .int (nI tn)]) := ((hq2 _ (by omega)).trans hTu.1)
    have k4 : f1 (B + 166 + 1) = some (tz_ints cs 120 tg) := ((hq2 _ (by omega)).trans hTu.2)
    have k5 : f1 (B + 168) = some (tz_obj 0 [.int zA, .int (nI kA)]) := ((hq2 _ (by omega)).trans hAl)
    have kp6 : tz_Tape cs f1 (B + 1) R (tz_cur σ).2.1 o mp ml := hT.fr (fun q h1_ h2_ => (hq2 q (by omega)))
    have kp7 : tz_Hist cs f1 (B + 15) nx σ.2.1 St := hHi.fr (fun q h1_ h2_ => (hq2 q (by omega)))
    have kp8 : tz_Shs cs f1 (B + 157) Sb := hShs.fr (fun q h1_ h2_ => (hq2 q (by omega)))
    have kp9 : tz_PlX cs f1 (B + 169) := hPlX.fr (fun q h1_ h2_ => (hq2 q (by omega)))
    have kp10 : tz_RoX cs f1 (B + 177) := hRoX.fr (fun q h1_ h2_ => (hq2 q (by omega)))
    have e9 : sp_seam σ p p2 x y = tz_an σ (-100001) := by simp only [sp_seam, hpk22]
    rw [e9]
    exact ⟨rfl, ⟨R, o, mp, ml, nx, St, Sb, ⟨hs2, kp6, kp7, kp8, ⟨_, _, ⟨k3, k4⟩, htn⟩, ⟨_, _, k5⟩, kp9, kp10⟩, hag.fr (fun q h9 => (hq2 q (by omega))), hnx, hH.fr (fun q h9 => (hq2 q (by omega))), hQ⟩, (fun q hh => by rw [hq2 q (by omega)])⟩
  · skip
    obtain ⟨kr22, hkr22, ekr22, eqkr22⟩ := tz_rof_some h22
    rw [h22]
    subst eqkr22
    subst ekr22
    have hpk22 := tz_pk_N hkr22
    have hRnkr22 := hRn kr22 hkr22
    have hlkr22 : (R kr22).1 = tz_ln σ kr22 := (hag.1 kr22 hkr22).1
    have hgkr22 : ∀ j, j < tz_ln σ kr22 → (R kr22).2 j = tz_sg σ kr22 j := (hag.1 kr22 hkr22).2
    have hakr22 : tz_at (R kr22).1 (R kr22).2 = tz_at (tz_ln σ kr22) (tz_sg σ kr22) := tz_agR.at hag.1 hkr22 (hW.cur.1 kr22 hkr22).1
    have hckr22 : tz_ln σ kr22 ≤ 120 := (hW.cur.1 kr22 hkr22).1
    refine tz_aloadQ C_ 6 rfl td_X_seam_25 ?_
    refine tz_ifnull C_ td_X_seam_27 (fun h27 => ?_) (fun q27 h27 => ?_)
    · skip
      rw [h27]
      have hpk27 := tz_pk_none h27
      refine tz_aload_n C_ 0 rfl rfl td_X_seam_40 ?_
      refine tz_ldc C_ tw_273 td_X_seam_41 ?_
      refine tz_cV C_ tmi_X_answer tw_276 tw_0 tw_274 hB0 rfl (As := [.int (-100001)]) (by exact (ct_X_answer (v := -100001) hB0)) rfl (rest := []) rfl (by decide) (Nat.le_of_ble_eq_true rfl) td_X_seam_43 (st1 := [.int (-100001)]) rfl (fun f11 hF11 => ?_)
      obtain ⟨hs12, hq12⟩ := hF11
      refine tz_riret C_ hr_ hk_ hQ_ rfl td_X_seam_46 ?_
      have k13 : f11 (B + 166) = some (tz_obj 9 [.ref (B + 166 + 1), .int (nI tn)]) := ((hq12 _ (by omega)).trans hTu.1)
      have k14 : f11 (B + 166 + 1) = some (tz_ints cs 120 tg) := ((hq12 _ (by omega)).trans hTu.2)
      have k15 : f11 (B + 168) = some (tz_obj 0 [.int zA, .int (nI kA)]) := ((hq12 _ (by omega)).trans hAl)
      have kp16 : tz_Tape cs f11 (B + 1) R (tz_cur σ).2.1 o mp ml := hT.fr (fun q h1_ h2_ => (hq12 q (by omega)))
      have kp17 : tz_Hist cs f11 (B + 15) nx σ.2.1 St := hHi.fr (fun q h1_ h2_ => (hq12 q (by omega)))
      have kp18 : tz_Shs cs f11 (B + 157) Sb := hShs.fr (fun q h1_ h2_ => (hq12 q (by omega)))
      have kp19 : tz_PlX cs f11 (B + 169) := hPlX.fr (fun q h1_ h2_ => (hq12 q (by omega)))
      have kp20 : tz_RoX cs f11 (B + 177) := hRoX.fr (fun q h1_ h2_ => (hq12 q (by omega)))
      have e9 : sp_seam σ (nI kr22) p2 x y = tz_an σ (-100001) := by simp only [sp_seam, hpk22, hpk27]
      rw [e9]
      exact ⟨rfl, ⟨R, o, mp, ml, nx, St, Sb, ⟨hs12, kp16, kp17, kp18, ⟨_, _, ⟨k13, k14⟩, htn⟩, ⟨_, _, k15⟩, kp19, kp20⟩, hag.fr (fun q h9 => (hq12 q (by omega))), hnx, hH.fr (fun q h9 => (hq12 q (by omega))), hQ⟩, (fun q hh => by rw [hq12 q (by omega)])⟩
    · skip
      obtain ⟨kr27, hkr27, ekr27, eqkr27⟩ := tz_rof_some h27
      rw [h27]
      subst eqkr27
      subst ekr27
      have hpk27 := tz_pk_N hkr27
      have hRnkr27 := hRn kr27 hkr27
      have hlkr27 : (R kr27).1 = tz_ln σ kr27 := (hag.1 kr27 hkr27).1
      have hgkr27 : ∀ j, j < tz_ln σ kr27 → (R kr27).2 j = tz_sg σ kr27 j := (hag.1 kr27 hkr27).2
      have hakr27 : tz_at (R kr27).1 (R kr27).2 = tz_at (tz_ln σ kr27) (tz_sg σ kr27) := tz_agR.at hag.1 hkr27 (hW.cur.1 kr27 hkr27).1
      have hckr27 : tz_ln σ kr27 ≤ 120 := (hW.cur.1 kr27 hkr27).1
      refine tz_iload_n C_ 3 rfl rfl td_X_seam_30 ?_
      refine tz_if_lt C_ td_X_seam_31 (fun h31 => ?_) (fun h31 => ?_)
      · skip
        refine tz_aload_n C_ 0 rfl rfl td_X_seam_40 ?_
        refine tz_ldc C_ tw_273 td_X_seam_41 ?_
        refine tz_cV C_ tmi_X_answer tw_276 tw_0 tw_274 hB0 rfl (As := [.int (-100001)]) (by exact (ct_X_answer (v := -100001) hB0)) rfl (rest := []) rfl (by decide) (Nat.le_of_ble_eq_true rfl) td_X_seam_43 (st1 := [.int (-100001)]) rfl (fun f21 hF21 => ?_)
        obtain ⟨hs22, hq22⟩ := hF21
        refine tz_riret C_ hr_ hk_ hQ_ rfl td_X_seam_46 ?_
        have k23 : f21 (B + 166) = some (tz_obj 9 [.ref (B + 166 + 1), .int (nI tn)]) := ((hq22 _ (by omega)).trans hTu.1)
        have k24 : f21 (B + 166 + 1) = some (tz_ints cs 120 tg) := ((hq22 _ (by omega)).trans hTu.2)
        have k25 : f21 (B + 168) = some (tz_obj 0 [.int zA, .int (nI kA)]) := ((hq22 _ (by omega)).trans hAl)
        have kp26 : tz_Tape cs f21 (B + 1) R (tz_cur σ).2.1 o mp ml := hT.fr (fun q h1_ h2_ => (hq22 q (by omega)))
        have kp27 : tz_Hist cs f21 (B + 15) nx σ.2.1 St := hHi.fr (fun q h1_ h2_ => (hq22 q (by omega)))
        have kp28 : tz_Shs cs f21 (B + 157) Sb := hShs.fr (fun q h1_ h2_ => (hq22 q (by omega)))
        have kp29 : tz_PlX cs f21 (B + 169) := hPlX.fr (fun q h1_ h2_ => (hq22 q (by omega)))
        have kp30 : tz_RoX cs f21 (B + 177) := hRoX.fr (fun q h1_ h2_ => (hq22 q (by omega)))
        have e9 : sp_seam σ (nI kr22) (nI kr27) x y = tz_an σ (-100001) := by simp only [sp_seam, hpk22, hpk27]; rw [if_neg (by grind)]
        rw [e9]
        exact ⟨rfl, ⟨R, o, mp, ml, nx, St, Sb, ⟨hs22, kp26, kp27, kp28, ⟨_, _, ⟨k23, k24⟩, htn⟩, ⟨_, _, k25⟩, kp29, kp30⟩, hag.fr (fun q h9 => (hq22 q (by omega))), hnx, hH.fr (fun q h9 => (hq22 q (by omega))), hQ⟩, (fun q hh => by rw [hq22 q (by omega)])⟩
      · skip
        refine tz_iload C_ 4 rfl td_X_seam_34 ?_
        refine tz_iload_n C_ 3 rfl rfl td_X_seam_36 ?_
        refine tz_icmp_ge C_ td_X_seam_37 (fun h37 => ?_) (fun h37 => ?_)
        · skip
          obtain ⟨mx, hmx, emx⟩ := tz_nn h31
          obtain ⟨my, hmy, emy⟩ := tz_nn (x := y) (fun z => h31 (Int32.lt_of_le_of_lt h37 z))
          subst emx
          subst emy
          refine tz_iload C_ 4 rfl td_X_seam_47 ?_
          refine tz_aload C_ 5 rfl td_X_seam_49 ?_
          refine tz_rV C_ tmi_R_length tw_308 tw_309 tw_307 (hT.2.2.2.2.2 kr22 hkr22).1 rfl (As := []) (by exact (ct_R_length (n := (R kr22).1) (g := (R kr22).2) ⟨(hT.2.2.2.2.2 kr22 hkr22).1, (hT.2.2.2.2.2 kr22 hkr22).2⟩)) rfl (rest := [.int (nI my)]) rfl (by decide) (Nat.le_of_ble_eq_true rfl) td_X_seam_51 (st1 := [.int (nI ((R kr22).1)), .int (nI my)]) rfl ?_
          refine tz_iconst C_ (v := 1) (by decide) td_X_seam_54 ?_
          refine tz_isub C_ td_X_seam_55 ?_
          refine tz_rS C_ tmi_J_min tw_305 tw_700 (As := [.int (nI my), .int ((nI ((R kr22).1)) - 1)]) (by exact ct_J_min) rfl (rest := []) rfl (by decide) (Nat.le_of_ble_eq_true rfl) td_X_seam_56 (st1 := [.int (tz_mn (nI my) ((nI ((R kr22).1)) - 1))]) rfl ?_
          refine tz_istore C_ (lv' := [(0, .ref B), (1, .int (nI kr22)), (2, .int (nI kr27)), (3, .int (nI mx)), (4, .int (nI my)), (5, .ref (B + 1 + 6 + 2 * kr22)), (6, .ref (B + 1 + 6 + 2 * kr27)), (7, .int (tz_mn (nI my) ((nI ((R kr22).1)) - 1)))]) [1, 2, 3, 4, 5, 6, 7, 0] (by decide) rfl td_X_seam_59 ?_
          refine tz_ldc C_ tw_701 td_X_seam_61 ?_
          refine tz_istore C_ (lv' := [(0, .ref B), (1, .int (nI kr22)), (2, .int (nI kr27)), (3, .int (nI mx)), (4, .int (nI my)), (5, .ref (B + 1 + 6 + 2 * kr22)), (6, .ref (B + 1 + 6 + 2 * kr27)), (7, .int (tz_mn (nI my) ((nI ((R kr22).1)) - 1))), (8, .int (-100006))]) [1, 2, 3, 4, 5, 6, 7, 8, 0] (by decide) rfl td_X_seam_63 ?_
          refine tz_iconst C_ (v := 0) (by decide) td_X_seam_65 ?_
          refine tz_istore C_ (lv' := [(0, .ref B), (1, .int (nI kr22)), (2, .int (nI kr27)), (3, .int (nI mx)), (4, .int (nI my)), (5, .ref (B + 1 + 6 + 2 * kr22)), (6, .ref (B + 1 + 6 + 2 * kr27)), (7, .int (tz_mn (nI my) ((nI ((R kr22).1)) - 1))), (8, .int (-100006)), (9, .int 0)]) [1, 2, 3, 4, 5, 6, 7, 8, 9, 0] (by decide) rfl td_X_seam_66 ?_
          refine tz_iload_n C_ 3 rfl rfl td_X_seam_68 ?_
          refine tz_istore C_ (lv' := [(0, .ref B), (1, .int (nI kr22)), (2, .int (nI kr27)), (3, .int (nI mx)), (4, .int (nI my)), (5, .ref (B + 1 + 6 + 2 * kr22)), (6, .ref (B + 1 + 6 + 2 * kr27)), (7, .int (tz_mn (nI my) ((nI ((R kr22).1)) - 1))), (8, .int (-100006)), (9, .int 0), (10, .int (nI mx))]) [1, 2, 3, 4, 5, 6, 7, 8, 9, 10, 0] (by decide) rfl td_X_seam_69 ?_
          have loop71 : ∀ (kk71 : Nat) (best : Int32) (least : Int32) (i : Nat), ((best, least) = tz_sm (R kr22).1 (R kr22).2 (R kr27).1 (R kr27).2 mx (i - mx)) → (mx ≤ i ∧ i < 2 ^ 31 ∧ (i = mx ∨ i ≤ min (my + 1) (R kr22).1)) → (min (my + 1) (R kr22).1 + 1 - i) < kk71 → tz_V p_ l e_ rm_X_seam s_ m_ ar_ be_ me_ c_ Q_ A D 12 f sz 0 0 71 [(0, .ref B), (1, .int (nI kr22)), (2, .int (nI kr27)), (3, .int (nI mx)), (4, .int (nI my)), (5, .ref (B + 1 + 6 + 2 * kr22)), (6, .ref (B + 1 + 6 + 2 * kr27)), (7, .int (tz_mn (nI my) (nI (R kr22).1 - 1))), (8, .int best), (9, .int least), (10, .int (nI i))] [] := by
            intro kk71
            induction kk71 with
            | zero => intro best least i hsm hmi hm71; omega
            | succ kk71 ih71 =>
              intro best least i hsm hmi hm71
              refine tz_iload C_ 10 rfl td_X_seam_71 ?_
              refine tz_iload C_ 7 rfl td_X_seam_73 ?_
              refine tz_icmp_gt C_ td_X_seam_75 (fun h75 => ?_) (fun h75 => ?_)
              · skip
                replace h75 := (tz_last hmy hRnkr22 (by omega)).mp h75
                refine tz_aload_n C_ 0 rfl rfl td_X_seam_153 ?_
                refine tz_iload C_ 8 rfl td_X_seam_154 ?_
                refine tz_cV C_ tmi_X_answer tw_276 tw_0 tw_274 hB0 rfl (As := [.int best]) (by exact (ct_X_answer (v := best) hB0)) rfl (rest := []) rfl (by decide) (Nat.le_of_ble_eq_true rfl) td_X_seam_156 (st1 := [.int best]) rfl (fun f31 hF31 => ?_)
                obtain ⟨hs32, hq32⟩ := hF31
                refine tz_riret C_ hr_ hk_ hQ_ rfl td_X_seam_159 ?_
                have k33 : f31 (B + 166) = some (tz_obj 9 [.ref (B + 166 + 1), .int (nI tn)]) := ((hq32 _ (by omega)).trans hTu.1)
                have k34 : f31 (B + 166 + 1) = some (tz_ints cs 120 tg) := ((hq32 _ (by omega)).trans hTu.2)
                have k35 : f31 (B + 168) = some (tz_obj 0 [.int zA, .int (nI kA)]) := ((hq32 _ (by omega)).trans hAl)
                have kp36 : tz_Tape cs f31 (B + 1) R (tz_cur σ).2.1 o mp ml := hT.fr (fun q h1_ h2_ => (hq32 q (by omega)))
                have kp37 : tz_Hist cs f31 (B + 15) nx σ.2.1 St := hHi.fr (fun q h1_ h2_ => (hq32 q (by omega)))
                have kp38 : tz_Shs cs f31 (B + 157) Sb := hShs.fr (fun q h1_ h2_ => (hq32 q (by omega)))
                have kp39 : tz_PlX cs f31 (B + 169) := hPlX.fr (fun q h1_ h2_ => (hq32 q (by omega)))
                have kp40 : tz_RoX cs f31 (B + 177) := hRoX.fr (fun q h1_ h2_ => (hq32 q (by omega)))
                have e9 : sp_seam σ (nI kr22) (nI kr27) (nI mx) (nI my) = tz_an σ best := by 
                  have e7 : i - mx = min (my + 1) (R kr22).1 - mx := by omega
                  have a1 : (tz_sm (R kr22).1 (R kr22).2 (R kr27).1 (R kr27).2 mx (i - mx)) = tz_sm (tz_ln σ kr22) (tz_sg σ kr22) (tz_ln σ kr27) (tz_sg σ kr27) mx (min (my + 1) (tz_ln σ kr22) - mx) := by rw [e7, tz_sm_ca hakr22 hakr27, hlkr22]
                  have a2 : nI mx ≤ nI my := h37
                  simp only [sp_seam, hpk22, hpk27]
                  rw [if_pos ⟨nI_pos' hmx, a2⟩, nI_clamp hmx, nI_clamp hmy, ← a1, ← hsm]
                rw [e9]
                exact ⟨rfl, ⟨R, o, mp, ml, nx, St, Sb, ⟨hs32, kp36, kp37, kp38, ⟨_, _, ⟨k33, k34⟩, htn⟩, ⟨_, _, k35⟩, kp39, kp40⟩, hag.fr (fun q h9 => (hq32 q (by omega))), hnx, hH.fr (fun q h9 => (hq32 q (by omega))), hQ⟩, (fun q hh => by rw [hq32 q (by omega)])⟩
              · skip
                replace h75 := mt (tz_last hmy hRnkr22 (by omega)).mpr h75
                refine tz_aload C_ 5 rfl td_X_seam_78 ?_
                refine tz_iload C_ 10 rfl td_X_seam_80 ?_
                refine tz_rV C_ tmi_R_at tw_332 tw_333 tw_331 (hT.2.2.2.2.2 kr22 hkr22).1 rfl (As := [.int (nI i)]) (by exact (ct_R_at (n := (R kr22).1) (g := (R kr22).2) ⟨(hT.2.2.2.2.2 kr22 hkr22).1, (hT.2.2.2.2.2 kr22 hkr22).2⟩ (by omega))) rfl (rest := []) rfl (by decide) (Nat.le_of_ble_eq_true rfl) td_X_seam_82 (st1 := [.int (tz_at ((R kr22).1) ((R kr22).2) (nI i))]) rfl ?_
                refine tz_ldc C_ tw_336 td_X_seam_85 ?_
                refine tz_icmp_eq C_ td_X_seam_87 (fun h87 => ?_) (fun h87 => ?_)
                · skip
                  refine tz_iinc C_ (k := 1) (v := nI (i + 1)) (lv' := [(0, .ref B), (1, .int (nI kr22)), (2, .int (nI kr27)), (3, .int (nI mx)), (4, .int (nI my)), (5, .ref (B + 1 + 6 + 2 * kr22)), (6, .ref (B + 1 + 6 + 2 * kr27)), (7, .int (tz_mn (nI my) (nI (R kr22).1 - 1))), (8, .int best), (9, .int least), (10, .int (nI (i + 1)))]) 10 rfl (nI_1 i) [1, 2, 3, 4, 5, 6, 7, 8, 9, 10, 0] (by decide) rfl td_X_seam_147 ?_
                  refine tz_goto C_ td_X_seam_150 ?_
                  exact ih71 best least (i + 1) (tz_sm_sk (by omega) hsm (Or.inl h87)) (by omega) (by omega)
                · skip
                  refine tz_aload C_ 6 rfl td_X_seam_90 ?_
                  refine tz_iload C_ 10 rfl td_X_seam_92 ?_
                  refine tz_rV C_ tmi_R_at tw_332 tw_333 tw_331 (hT.2.2.2.2.2 kr27 hkr27).1 rfl (As := [.int (nI i)]) (by exact (ct_R_at (n := (R kr27).1) (g := (R kr27).2) ⟨(hT.2.2.2.2.2 kr27 hkr27).1, (hT.2.2.2.2.2 kr27 hkr27).2⟩ (by omega))) rfl (rest := []) rfl (by decide) (Nat.le_of_ble_eq_true rfl) td_X_seam_94 (st1 := [.int (tz_at ((R kr27).1) ((R kr27).2) (nI i))]) rfl ?_
                  refine tz_ldc C_ tw_336 td_X_seam_97 ?_
                  refine tz_icmp_ne C_ td_X_seam_99 (fun h99 => ?_) (fun h99 => ?_)
                  · skip
                    refine tz_aload C_ 5 rfl td_X_seam_105 ?_
                    refine tz_iload C_ 10 rfl td_X_seam_107 ?_
                    refine tz_rV C_ tmi_R_at tw_332 tw_333 tw_331 (hT.2.2.2.2.2 kr22 hkr22).1 rfl (As := [.int (nI i)]) (by exact (ct_R_at (n := (R kr22).1) (g := (R kr22).2) ⟨(hT.2.2.2.2.2 kr22 hkr22).1, (hT.2.2.2.2.2 kr22 hkr22).2⟩ (by omega))) rfl (rest := []) rfl (by decide) (Nat.le_of_ble_eq_true rfl) td_X_seam_109 (st1 := [.int (tz_at ((R kr22).1) ((R kr22).2) (nI i))]) rfl ?_
                    refine tz_aload C_ 6 rfl td_X_seam_112 ?_
                    refine tz_iload C_ 10 rfl td_X_seam_114 ?_
                    refine tz_rV C_ tmi_R_at tw_332 tw_333 tw_331 (hT.2.2.2.2.2 kr27 hkr27).1 rfl (As := [.int (nI i)]) (by exact (ct_R_at (n := (R kr27).1) (g := (R kr27).2) ⟨(hT.2.2.2.2.2 kr27 hkr27).1, (hT.2.2.2.2.2 kr27 hkr27).2⟩ (by omega))) rfl (rest := [.int (tz_at ((R kr22).1) ((R kr22).2) (nI i))]) rfl (by decide) (Nat.le_of_ble_eq_true rfl) td_X_seam_116 (st1 := [.int (tz_at ((R kr27).1) ((R kr27).2) (nI i)), .int (tz_at ((R kr22).1) ((R kr22).2) (nI i))]) rfl ?_
                    refine tz_isub C_ td_X_seam_119 ?_
                    refine tz_rS C_ tmi_J_abs tw_605 tw_702 (As := [.int ((tz_at ((R kr22).1) ((R kr22).2) (nI i)) - (tz_at ((R kr27).1) ((R kr27).2) (nI i)))]) (by exact ct_J_abs) rfl (rest := []) rfl (by decide) (Nat.le_of_ble_eq_true rfl) td_X_seam_120 (st1 := [.int (tz_ab ((tz_at ((R kr22).1) ((R kr22).2) (nI i)) - (tz_at ((R kr27).1) ((R kr27).2) (nI i))))]) rfl ?_
                    refine tz_istore C_ (lv' := [(0, .ref B), (1, .int (nI kr22)), (2, .int (nI kr27)), (3, .int (nI mx)), (4, .int (nI my)), (5, .ref (B + 1 + 6 + 2 * kr22)), (6, .ref (B + 1 + 6 + 2 * kr27)), (7, .int (tz_mn (nI my) (nI (R kr22).1 - 1))), (8, .int best), (9, .int least), (10, .int (nI i)), (11, .int (tz_ab ((tz_at ((R kr22).1) ((R kr22).2) (nI i)) - (tz_at ((R kr27).1) ((R kr27).2) (nI i)))))]) [1, 2, 3, 4, 5, 6, 7, 8, 9, 10, 11, 0] (by decide) rfl td_X_seam_123 ?_
                    refine tz_iload C_ 8 rfl td_X_seam_125 ?_
                    refine tz_ldc C_ tw_701 td_X_seam_127 ?_
                    refine tz_icmp_eq C_ td_X_seam_129 (fun h129 => ?_) (fun h129 => ?_)
                    · skip
                      refine tz_iload C_ 10 rfl td_X_seam_139 ?_
                      refine tz_istore C_ (lv' := [(0, .ref B), (1, .int (nI kr22)), (2, .int (nI kr27)), (3, .int (nI mx)), (4, .int (nI my)), (5, .ref (B + 1 + 6 + 2 * kr22)), (6, .ref (B + 1 + 6 + 2 * kr27)), (7, .int (tz_mn (nI my) (nI (R kr22).1 - 1))), (8, .int (nI i)), (9, .int least), (10, .int (nI i)), (11, .int (tz_ab ((tz_at ((R kr22).1) ((R kr22).2) (nI i)) - (tz_at ((R kr27).1) ((R kr27).2) (nI i)))))]) [1, 2, 3, 4, 5, 6, 7, 8, 0, 9, 10, 11] (by decide) rfl td_X_seam_141 ?_
                      refine tz_iload C_ 11 rfl td_X_seam_143 ?_
                      refine tz_istore C_ (lv' := [(0, .ref B), (1, .int (nI kr22)), (2, .int (nI kr27)), (3, .int (nI mx)), (4, .int (nI my)), (5, .ref (B + 1 + 6 + 2 * kr22)), (6, .ref (B + 1 + 6 + 2 * kr27)), (7, .int (tz_mn (nI my) (nI (R kr22).1 - 1))), (8, .int (nI i)), (9, .int (tz_ab ((tz_at ((R kr22).1) ((R kr22).2) (nI i)) - (tz_at ((R kr27).1) ((R kr27).2) (nI i))))), (10, .int (nI i)), (11, .int (tz_ab ((tz_at ((R kr22).1) ((R kr22).2) (nI i)) - (tz_at ((R kr27).1) ((R kr27).2) (nI i)))))]) [1, 2, 3, 4, 5, 6, 7, 8, 9, 0, 10, 11] (by decide) rfl td_X_seam_145 ?_
                      refine tz_iinc C_ (k := 1) (v := nI (i + 1)) (lv' := [(0, .ref B), (1, .int (nI kr22)), (2, .int (nI kr27)), (3, .int (nI mx)), (4, .int (nI my)), (5, .ref (B + 1 + 6 + 2 * kr22)), (6, .ref (B + 1 + 6 + 2 * kr27)), (7, .int (tz_mn (nI my) (nI (R kr22).1 - 1))), (8, .int (nI i)), (9, .int (tz_ab ((tz_at ((R kr22).1) ((R kr22).2) (nI i)) - (tz_at ((R kr27).1) ((R kr27).2) (nI i))))), (10, .int (nI (i + 1))), (11, .int (tz_ab ((tz_at ((R kr22).1) ((R kr22).2) (nI i)) - (tz_at ((R kr27).1) ((R kr27).2) (nI i)))))]) 10 rfl (nI_1 i) [1, 2, 3, 4, 5, 6, 7, 8, 9, 10, 0, 11] (by decide) rfl td_X_seam_147 ?_
                      refine tz_goto C_ td_X_seam_150 ?_
                      refine tz_lvs [0, 1, 2, 3, 4, 5, 6, 7, 8, 9, 10] rfl ?_
                      exact ih71 (nI i) (tz_ab ((tz_at ((R kr22).1) ((R kr22).2) (nI i)) - (tz_at ((R kr27).1) ((R kr27).2) (nI i)))) (i + 1) (tz_sm_ye (by omega) hsm h87 h99 (Or.inl h129)) (by omega) (by omega)
                    · skip
                      refine tz_iload C_ 11 rfl td_X_seam_132 ?_
                      refine tz_iload C_ 9 rfl td_X_seam_134 ?_
                      refine tz_icmp_ge C_ td_X_seam_136 (fun h136 => ?_) (fun h136 => ?_)
                      · skip
                        refine tz_iinc C_ (k := 1) (v := nI (i + 1)) (lv' := [(0, .ref B), (1, .int (nI kr22)), (2, .int (nI kr27)), (3, .int (nI mx)), (4, .int (nI my)), (5, .ref (B + 1 + 6 + 2 * kr22)), (6, .ref (B + 1 + 6 + 2 * kr27)), (7, .int (tz_mn (nI my) (nI (R kr22).1 - 1))), (8, .int best), (9, .int least), (10, .int (nI (i + 1))), (11, .int (tz_ab ((tz_at ((R kr22).1) ((R kr22).2) (nI i)) - (tz_at ((R kr27).1) ((R kr27).2) (nI i)))))]) 10 rfl (nI_1 i) [1, 2, 3, 4, 5, 6, 7, 8, 9, 10, 0, 11] (by decide) rfl td_X_seam_147 ?_
                        refine tz_goto C_ td_X_seam_150 ?_
                        refine tz_lvs [0, 1, 2, 3, 4, 5, 6, 7, 8, 9, 10] rfl ?_
                        exact ih71 best least (i + 1) (tz_sm_no (by omega) hsm h87 h99 h129 (Int32.not_lt.mpr h136)) (by omega) (by omega)
                      · skip
                        refine tz_iload C_ 10 rfl td_X_seam_139 ?_
                        refine tz_istore C_ (lv' := [(0, .ref B), (1, .int (nI kr22)), (2, .int (nI kr27)), (3, .int (nI mx)), (4, .int (nI my)), (5, .ref (B + 1 + 6 + 2 * kr22)), (6, .ref (B + 1 + 6 + 2 * kr27)), (7, .int (tz_mn (nI my) (nI (R kr22).1 - 1))), (8, .int (nI i)), (9, .int least), (10, .int (nI i)), (11, .int (tz_ab ((tz_at ((R kr22).1) ((R kr22).2) (nI i)) - (tz_at ((R kr27).1) ((R kr27).2) (nI i)))))]) [1, 2, 3, 4, 5, 6, 7, 8, 0, 9, 10, 11] (by decide) rfl td_X_seam_141 ?_
                        refine tz_iload C_ 11 rfl td_X_seam_143 ?_
                        refine tz_istore C_ (lv' := [(0, .ref B), (1, .int (nI kr22)), (2, .int (nI kr27)), (3, .int (nI mx)), (4, .int (nI my)), (5, .ref (B + 1 + 6 + 2 * kr22)), (6, .ref (B + 1 + 6 + 2 * kr27)), (7, .int (tz_mn (nI my) (nI (R kr22).1 - 1))), (8, .int (nI i)), (9, .int (tz_ab ((tz_at ((R kr22).1) ((R kr22).2) (nI i)) - (tz_at ((R kr27).1) ((R kr27).2) (nI i))))), (10, .int (nI i)), (11, .int (tz_ab ((tz_at ((R kr22).1) ((R kr22).2) (nI i)) - (tz_at ((R kr27).1) ((R kr27).2) (nI i)))))]) [1, 2, 3, 4, 5, 6, 7, 8, 9, 0, 10, 11] (by decide) rfl td_X_seam_145 ?_
                        refine tz_iinc C_ (k := 1) (v := nI (i + 1)) (lv' := [(0, .ref B), (1, .int (nI kr22)), (2, .int (nI kr27)), (3, .int (nI mx)), (4, .int (nI my)), (5, .ref (B + 1 + 6 + 2 * kr22)), (6, .ref (B + 1 + 6 + 2 * kr27)), (7, .int (tz_mn (nI my) (nI (R kr22).1 - 1))), (8, .int (nI i)), (9, .int (tz_ab ((tz_at ((R kr22).1) ((R kr22).2) (nI i)) - (tz_at ((R kr27).1) ((R kr27).2) (nI i))))), (10, .int (nI (i + 1))), (11, .int (tz_ab ((tz_at ((R kr22).1) ((R kr22).2) (nI i)) - (tz_at ((R kr27).1) ((R kr27).2) (nI i)))))]) 10 rfl (nI_1 i) [1, 2, 3, 4, 5, 6, 7, 8, 9, 10, 0, 11] (by decide) rfl td_X_seam_147 ?_
                        refine tz_goto C_ td_X_seam_150 ?_
                        refine tz_lvs [0, 1, 2, 3, 4, 5, 6, 7, 8, 9, 10] rfl ?_
                        exact ih71 (nI i) (tz_ab ((tz_at ((R kr22).1) ((R kr22).2) (nI i)) - (tz_at ((R kr27).1) ((R kr27).2) (nI i)))) (i + 1) (tz_sm_ye (by omega) hsm h87 h99 (Or.inr (Int32.not_le.mp h136))) (by omega) (by omega)
                  · skip
                    refine tz_goto C_ td_X_seam_102 ?_
                    refine tz_iinc C_ (k := 1) (v := nI (i + 1)) (lv' := [(0, .ref B), (1, .int (nI kr22)), (2, .int (nI kr27)), (3, .int (nI mx)), (4, .int (nI my)), (5, .ref (B + 1 + 6 + 2 * kr22)), (6, .ref (B + 1 + 6 + 2 * kr27)), (7, .int (tz_mn (nI my) (nI (R kr22).1 - 1))), (8, .int best), (9, .int least), (10, .int (nI (i + 1)))]) 10 rfl (nI_1 i) [1, 2, 3, 4, 5, 6, 7, 8, 9, 10, 0] (by decide) rfl td_X_seam_147 ?_
                    refine tz_goto C_ td_X_seam_150 ?_
                    exact ih71 best least (i + 1) (tz_sm_sk (by omega) hsm (Or.inr h99)) (by omega) (by omega)
          exact loop71 _ (-100006) 0 mx (by rw [Nat.sub_self]; rfl) (⟨Nat.le_refl _, hmx, Or.inl rfl⟩) (Nat.lt_succ_self _)
        · skip
          refine tz_aload_n C_ 0 rfl rfl td_X_seam_40 ?_
          refine tz_ldc C_ tw_273 td_X_seam_41 ?_
          refine tz_cV C_ tmi_X_answer tw_276 tw_0 tw_274 hB0 rfl (As := [.int (-100001)]) (by exact (ct_X_answer (v := -100001) hB0)) rfl (rest := []) rfl (by decide) (Nat.le_of_ble_eq_true rfl) td_X_seam_43 (st1 := [.int (-100001)]) rfl (fun f41 hF41 => ?_)
          obtain ⟨hs42, hq42⟩ := hF41
          refine tz_riret C_ hr_ hk_ hQ_ rfl td_X_seam_46 ?_
          have k43 : f41 (B + 166) = some (tz_obj 9 [.ref (B + 166 + 1), .int (nI tn)]) := ((hq42 _ (by omega)).trans hTu.1)
          have k44 : f41 (B + 166 + 1) = some (tz_ints cs 120 tg) := ((hq42 _ (by omega)).trans hTu.2)
          have k45 : f41 (B + 168) = some (tz_obj 0 [.int zA, .int (nI kA)]) := ((hq42 _ (by omega)).trans hAl)
          have kp46 : tz_Tape cs f41 (B + 1) R (tz_cur σ).2.1 o mp ml := hT.fr (fun q h1_ h2_ => (hq42 q (by omega)))
          have kp47 : tz_Hist cs f41 (B + 15) nx σ.2.1 St := hHi.fr (fun q h1_ h2_ => (hq42 q (by omega)))
          have kp48 : tz_Shs cs f41 (B + 157) Sb := hShs.fr (fun q h1_ h2_ => (hq42 q (by omega)))
          have kp49 : tz_PlX cs f41 (B + 169) := hPlX.fr (fun q h1_ h2_ => (hq42 q (by omega)))
          have kp50 : tz_RoX cs f41 (B + 177) := hRoX.fr (fun q h1_ h2_ => (hq42 q (by omega)))
          have e9 : sp_seam σ (nI kr22) (nI kr27) x y = tz_an σ (-100001) := by simp only [sp_seam, hpk22, hpk27]; rw [if_neg (by grind)]
          rw [e9]
          exact ⟨rfl, ⟨R, o, mp, ml, nx, St, Sb, ⟨hs42, kp46, kp47, kp48, ⟨_, _, ⟨k43, k44⟩, htn⟩, ⟨_, _, k45⟩, kp49, kp50⟩, hag.fr (fun q h9 => (hq42 q (by omega))), hnx, hH.fr (fun q h9 => (hq42 q (by omega))), hQ⟩, (fun q hh => by rw [hq42 q (by omega)])⟩

abbrev rm_X_moment : Room := { frames := 6, cells := 0, slots := 0, locals := 149 }
set_option maxHeartbeats 4000000 in
set_option maxRecDepth 100000 in
theorem ct_X_moment {l : Launch} {A : Nat → Prop} {D : va_G} {cs : Nat → ClassId} {sz : Nat} {f : tz_PH} {B L0 : Nat} {σ : tz_SG} (hX : tz_AX cs L0 f B σ) (hW : tz_WF σ) (hB : B + 179 ≤ L0) {m : Int32} : tz_CN l tyX_moment prog_1_method_28_code 4 (some (.int)) rm_X_moment 0 0 A D cs sz [.ref B, .int m] f (some (.int (sp_moment σ m).1)) (fun f' => tz_AX cs L0 f' B (sp_moment σ m).2 ∧ ∀ q, (q < B ∨ B + 179 ≤ q) → f' q = f q) := by
  refine tz_C.ofB (lv0 := [(0, .ref B), (1, .int m)]) (plainFor_of_name (by decide)) (Nat.le_of_ble_eq_true rfl) rfl ?_
  intro p_ e_ s_ m_ ar_ be_ me_ c_ Q_ C_ hr_ hk_ hnm_ hz_ hQ_
  obtain ⟨R, o, mp, ml, nx, St, Sb, hXB, hag, hnx, hH, hQ⟩ := hX
  obtain ⟨hB0, hT, hHi, hShs, hTuX, hAlX, hPlX, hRoX⟩ := hXB
  have hTu9 := hTuX
  obtain ⟨tn, tg, hTu, htn⟩ := hTu9
  have hAl9 := hAlX
  obtain ⟨zA, kA, hAl⟩ := hAl9
  have hPl9 := hPlX
  obtain ⟨pr, px, pfo, pz, pk, ptn, ptg, pn, pg, pn2, pg2, hPl, hpn, hptn⟩ := hPl9
  have hRo9 := hRoX
  obtain ⟨jn, jg, hRo, hjn⟩ := hRo9
  have hrx := hPl.2.2.2.2.2
  have hRn : ∀ p, p < 4 → (R p).1 ≤ 120 := fun p hp => by rw [(hag.1 p hp).1]; exact (hW.cur.1 p hp).1
  have hnl : (tz_cur σ).2.1 ≤ 8 := hW.cur.2.1
  have hkp : σ.2.1 ≤ 20 := hW.1
  have hSn : ∀ s, s < 4 → (Sb s).2.1 ≤ 120 := fun s hs => by rw [(hQ s hs).2.1]; exact (hW.2.2 s hs).1
  refine tz_iload_n C_ 1 rfl rfl td_X_moment_0 ?_
  refine tz_rS C_ tmi_X_isMark tw_712 tw_711 (As := [.int m]) (by exact ct_X_isMark) rfl (rest := []) rfl (by decide) (Nat.le_of_ble_eq_true rfl) td_X_moment_1 (st1 := [.int (tz_p (0 ≤ m ∧ m < 6))]) rfl ?_
  refine tz_if_ne C_ td_X_moment_4 (fun h4 => ?_) (fun h4 => ?_)
  · skip
    replace h4 := tz_p1.mp h4
    obtain ⟨mm, hmm, emm⟩ := vp_in_of (x := m) (n := 6) (tz_inI (tz_le_nlt h4.1) (show m < nI 6 from h4.2) (by decide)) (by decide)
    subst emm
    have hml9 : ml mm = (tz_cur σ).2.2.2.2 mm := hag.2.2.2.2 mm hmm
    refine tz_aload_n C_ 0 rfl rfl td_X_moment_14 ?_
    refine tz_get C_ tci_X 0 (by decide) tw_240 hB0 rfl td_X_moment_15 ?_
    refine tz_aload_n C_ 0 rfl rfl td_X_moment_18 ?_
    refine tz_get C_ tci_X 0 (by decide) tw_240 hB0 rfl td_X_moment_19 ?_
    refine tz_get C_ tci_T 2 (by decide) tw_111 hT.1 rfl td_X_moment_22 ?_
    refine tz_iload_n C_ 1 rfl rfl td_X_moment_25 ?_
    refine tz_ialdN C_ hT.2.2.2.1 (by omega) (by decide) td_X_moment_26 ?_
    refine tz_rV C_ tmi_T_rowAt tw_270 tw_271 tw_269 hT.1 rfl (As := [.int (mp mm)]) (by exact (ct_T_rowAt hT)) rfl (rest := []) rfl (by decide) (Nat.le_of_ble_eq_true rfl) td_X_moment_27 (st1 := [va_rf (tz_rof (B + 1) (mp mm))]) rfl ?_
    refine tz_astore_nQ C_ (lv' := [(0, .ref B), (1, .int (nI mm)), (2, va_rf (tz_rof (B + 1) (mp mm)))]) [1, 2, 0] rfl (by decide) rfl td_X_moment_30 ?_
    refine tz_aload_n C_ 0 rfl rfl td_X_moment_31 ?_
    refine tz_get C_ tci_X 0 (by decide) tw_240 hB0 rfl td_X_moment_32 ?_
    refine tz_get C_ tci_T 3 (by decide) tw_114 hT.1 rfl td_X_moment_35 ?_
    refine tz_iload_n C_ 1 rfl rfl td_X_moment_38 ?_
    refine tz_ialdN C_ hT.2.2.2.2.1 (by omega) (by decide) td_X_moment_39 ?_
    refine tz_istore_n C_ (lv' := [(0, .ref B), (1, .int (nI mm)), (2, va_rf (tz_rof (B + 1) (mp mm))), (3, .int (ml mm))]) [1, 2, 3, 0] rfl (by decide) (by generalize tz_rof (B + 1) (mp mm) = z9; cases z9 <;> rfl) td_X_moment_40 ?_
    refine tz_aload_nQ C_ 2 rfl rfl td_X_moment_41 ?_
    refine tz_ifnull C_ td_X_moment_42 (fun h42 => ?_) (fun q42 h42 => ?_)
    · skip
      rw [h42]
      have hpk42 : tz_pk ((tz_cur σ).2.2.2.1 mm) = none := by rw [← hag.2.2.2.1 mm hmm]; exact tz_pk_none h42
      refine tz_aload_n C_ 0 rfl rfl td_X_moment_53 ?_
      refine tz_ldc C_ tw_701 td_X_moment_54 ?_
      refine tz_cV C_ tmi_X_answer tw_276 tw_0 tw_274 hB0 rfl (As := [.int (-100006)]) (by exact (ct_X_answer (v := -100006) hB0)) rfl (rest := []) rfl (by decide) (Nat.le_of_ble_eq_true rfl) td_X_moment_56 (st1 := [.int (-100006)]) rfl (fun f1 hF1 => ?_)
      obtain ⟨hs2, hq2⟩ := hF1
      refine tz_riret C_ hr_ hk_ hQ_ rfl td_X_moment_59 ?_
      have k3 : f1 (B + 166) = some (tz_obj 9 [.ref (B + 166 + 1), .int (nI tn)]) := ((hq2 _ (by omega)).trans hTu.1)
      have k4 : f1 (B + 166 + 1) = some (tz_ints cs 120 tg) := ((hq2 _ (by omega)).trans hTu.2)
      have k5 : f1 (B + 168) = some (tz_obj 0 [.int zA, .int (nI kA)]) := ((hq2 _ (by omega)).trans hAl)
      have kp6 : tz_Tape cs f1 (B + 1) R (tz_cur σ).2.1 o mp ml := hT.fr (fun q h1_ h2_ => (hq2 q (by omega)))
      have kp7 : tz_Hist cs f1 (B + 15) nx σ.2.1 St := hHi.fr (fun q h1_ h2_ => (hq2 q (by omega)))
      have kp8 : tz_Shs cs f1 (B + 157) Sb := hShs.fr (fun q h1_ h2_ => (hq2 q (by omega)))
      have kp9 : tz_PlX cs f1 (B + 169) := hPlX.fr (fun q h1_ h2_ => (hq2 q (by omega)))
      have kp10 : tz_RoX cs f1 (B + 177) := hRoX.fr (fun q h1_ h2_ => (hq2 q (by omega)))
      have e9 : sp_moment σ (nI mm) = tz_an σ (-100006) := by rw [sp_moment, if_pos h4, nI_clamp (by omega)]; simp only [hpk42]
      rw [e9]
      exact ⟨rfl, ⟨R, o, mp, ml, nx, St, Sb, ⟨hs2, kp6, kp7, kp8, ⟨_, _, ⟨k3, k4⟩, htn⟩, ⟨_, _, k5⟩, kp9, kp10⟩, hag.fr (fun q h9 => (hq2 q (by omega))), hnx, hH.fr (fun q h9 => (hq2 q (by omega))), hQ⟩, (fun q hh => by rw [hq2 q (by omega)])⟩
    · skip
      obtain ⟨kr42, hkr42, ekr42, eqr42⟩ := tz_rof_some h42
      rw [h42]
      subst eqr42
      have hpk42 : tz_pk ((tz_cur σ).2.2.2.1 mm) = some kr42 := by rw [← hag.2.2.2.1 mm hmm, ekr42]; exact tz_pk_N hkr42
      have hRnkr42 := hRn kr42 hkr42
      have hlkr42 : (R kr42).1 = tz_ln σ kr42 := (hag.1 kr42 hkr42).1
      refine tz_aload_n C_ 2 rfl rfl td_X_moment_45 ?_
      refine tz_iload_n C_ 3 rfl rfl td_X_moment_46 ?_
      refine tz_rV C_ tmi_R_has tw_325 tw_326 tw_324 (hT.2.2.2.2.2 kr42 hkr42).1 rfl (As := [.int (ml mm)]) (by exact (ct_R_has (n := (R kr42).1) (g := (R kr42).2) ⟨(hT.2.2.2.2.2 kr42 hkr42).1, (hT.2.2.2.2.2 kr42 hkr42).2⟩ (by omega))) rfl (rest := []) rfl (by decide) (Nat.le_of_ble_eq_true rfl) td_X_moment_47 (st1 := [.int (tz_p (0 ≤ (ml mm) ∧ (ml mm) < nI ((R kr42).1)))]) rfl ?_
      refine tz_if_ne C_ td_X_moment_50 (fun h50 => ?_) (fun h50 => ?_)
      · skip
        replace h50 := tz_p1.mp h50
        refine tz_aload_n C_ 0 rfl rfl td_X_moment_60 ?_
        refine tz_get C_ tci_X 5 (by decide) tw_245 hB0 rfl td_X_moment_61 ?_
        refine tz_aload_n C_ 0 rfl rfl td_X_moment_64 ?_
        refine tz_get C_ tci_X 0 (by decide) tw_240 hB0 rfl td_X_moment_65 ?_
        refine tz_aload_n C_ 2 rfl rfl td_X_moment_68 ?_
        refine tz_iload_n C_ 3 rfl rfl td_X_moment_69 ?_
        refine tz_cVQ C_ tmi_P_play tw_561 tw_562 tw_560 hPl.1 rfl (As := [.ref (B + 1), .ref (B + 1 + 6 + 2 * kr42), .int (ml mm)]) (by exact (ct_P_play (lay := tz_lyr σ) hPl hpn hptn hT (hag.2.1.fr (fun q h9 => rfl)) (fun k hk => (hW.cur.2.2.1 k hk).1) hnl hRn (by omega) (by omega) ⟨(hT.2.2.2.2.2 kr42 hkr42).1, (hT.2.2.2.2.2 kr42 hkr42).2⟩ (by omega) (by omega))) rfl (rest := []) rfl (by decide) (Nat.le_of_ble_eq_true rfl) td_X_moment_70 (fun qr11 f11 hF11 => ?_)
        obtain ⟨⟨xP, foP, zP, kP, tnP, tgP, nP, gP, n2P, g2P, hPlP, hIP, hnP, htnP⟩, hqP⟩ := hF11
        have hrxP := hPlP.2.2.2.2.2
        obtain ⟨hou1, hou2, hou3⟩ := tz_ou_of hag hW.cur hkr42 hIP
        have houl := tz_ou_le hW.cur hkr42 (ml mm)
        have hPXP : tz_PlX cs f11 (B + 169) := ⟨qr11, xP, foP, zP, kP, tnP, tgP, nP, gP, n2P, g2P, hPlP, hnP, htnP⟩
        refine tz_pop C_ rfl td_X_moment_73 ?_
        refine tz_aload_n C_ 0 rfl rfl td_X_moment_74 ?_
        have k12 : f11 B = some (tz_obj 10 [.ref (B + 1), .ref (B + 15), .ref (B + 157), .ref (B + 166), .ref (B + 168), .ref (B + 169), .ref (B + 177), .int σ.2.2.2]) := ((hqP _ (by omega)).trans hB0)
        refine tz_get C_ tci_X 5 (by decide) tw_245 k12 rfl td_X_moment_75 ?_
        refine tz_rV C_ tmi_P_followed tw_719 tw_720 tw_718 hPlP.1 rfl (As := []) (by exact (ct_P_followed hPlP.1)) rfl (rest := []) rfl (by decide) (Nat.le_of_ble_eq_true rfl) td_X_moment_78 (st1 := [.int foP]) rfl ?_
        refine tz_iconst C_ (v := -1) (by decide) td_X_moment_81 ?_
        refine tz_icmp_ne C_ td_X_moment_82 (fun h82 => ?_) (fun h82 => ?_)
        · skip
          refine tz_aload_n C_ 0 rfl rfl td_X_moment_94 ?_
          refine tz_get C_ tci_X 5 (by decide) tw_245 k12 rfl td_X_moment_95 ?_
          refine tz_rV C_ tmi_P_followed tw_719 tw_720 tw_718 hPlP.1 rfl (As := []) (by exact (ct_P_followed hPlP.1)) rfl (rest := []) rfl (by decide) (Nat.le_of_ble_eq_true rfl) td_X_moment_98 (st1 := [.int foP]) rfl ?_
          refine tz_riret C_ hr_ hk_ hQ_ rfl td_X_moment_101 ?_
          have k13 : f11 (B + 166) = some (tz_obj 9 [.ref (B + 166 + 1), .int (nI tn)]) := ((hqP _ (by omega)).trans hTu.1)
          have k14 : f11 (B + 166 + 1) = some (tz_ints cs 120 tg) := ((hqP _ (by omega)).trans hTu.2)
          have k15 : f11 (B + 168) = some (tz_obj 0 [.int zA, .int (nI kA)]) := ((hqP _ (by omega)).trans hAl)
          have kp16 : tz_Tape cs f11 (B + 1) R (tz_cur σ).2.1 o mp ml := hT.fr (fun q h1_ h2_ => (hqP q (by omega)))
          have kp17 : tz_Hist cs f11 (B + 15) nx σ.2.1 St := hHi.fr (fun q h1_ h2_ => (hqP q (by omega)))
          have kp18 : tz_Shs cs f11 (B + 157) Sb := hShs.fr (fun q h1_ h2_ => (hqP q (by omega)))
          have kp19 : tz_RoX cs f11 (B + 177) := hRoX.fr (fun q h1_ h2_ => (hqP q (by omega)))
          have e9 : sp_moment σ (nI mm) = (foP, σ) := by rw [sp_moment, if_pos h4, nI_clamp (by omega)]; simp only [hpk42]; rw [if_pos (by rw [← hml9, ← hlkr42]; exact h50), ← hml9, if_neg (hou3 ▸ h82), ← hou3]
          rw [e9]
          exact ⟨rfl, ⟨R, o, mp, ml, nx, St, Sb, ⟨k12, kp16, kp17, kp18, ⟨_, _, ⟨k13, k14⟩, htn⟩, ⟨_, _, k15⟩, hPXP, kp19⟩, hag.fr (fun q h9 => (hqP q (by omega))), hnx, hH.fr (fun q h9 => (hqP q (by omega))), hQ⟩, (fun q hh => by rw [hqP q (by omega)])⟩
        · skip
          refine tz_aload_n C_ 0 rfl rfl td_X_moment_85 ?_
          refine tz_ldc C_ tw_336 td_X_moment_86 ?_
          refine tz_cV C_ tmi_X_answer tw_276 tw_0 tw_274 k12 rfl (As := [.int (-100007)]) (by exact (ct_X_answer (v := -100007) k12)) rfl (rest := []) rfl (by decide) (Nat.le_of_ble_eq_true rfl) td_X_moment_88 (st1 := [.int (-100007)]) rfl (fun f20 hF20 => ?_)
          obtain ⟨hs21, hq21⟩ := hF20
          refine tz_goto C_ td_X_moment_91 ?_
          refine tz_riret C_ hr_ hk_ hQ_ rfl td_X_moment_101 ?_
          have k22 : f20 (B + 166) = some (tz_obj 9 [.ref (B + 166 + 1), .int (nI tn)]) := ((hq21 _ (by omega)).trans ((hqP _ (by omega)).trans hTu.1))
          have k23 : f20 (B + 166 + 1) = some (tz_ints cs 120 tg) := ((hq21 _ (by omega)).trans ((hqP _ (by omega)).trans hTu.2))
          have k24 : f20 (B + 168) = some (tz_obj 0 [.int zA, .int (nI kA)]) := ((hq21 _ (by omega)).trans ((hqP _ (by omega)).trans hAl))
          have kp25 : tz_Tape cs f20 (B + 1) R (tz_cur σ).2.1 o mp ml := hT.fr (fun q h1_ h2_ => ((hq21 q (by omega)).trans (hqP q (by omega))))
          have kp26 : tz_Hist cs f20 (B + 15) nx σ.2.1 St := hHi.fr (fun q h1_ h2_ => ((hq21 q (by omega)).trans (hqP q (by omega))))
          have kp27 : tz_Shs cs f20 (B + 157) Sb := hShs.fr (fun q h1_ h2_ => ((hq21 q (by omega)).trans (hqP q (by omega))))
          have kp28 : tz_PlX cs f20 (B + 169) := hPXP.fr (fun q h1_ h2_ => (hq21 q (by omega)))
          have kp29 : tz_RoX cs f20 (B + 177) := hRoX.fr (fun q h1_ h2_ => ((hq21 q (by omega)).trans (hqP q (by omega))))
          have e9 : sp_moment σ (nI mm) = tz_an σ (-100007) := by rw [sp_moment, if_pos h4, nI_clamp (by omega)]; simp only [hpk42]; rw [if_pos (by rw [← hml9, ← hlkr42]; exact h50), ← hml9, if_pos (hou3 ▸ h82)]
          rw [e9]
          exact ⟨rfl, ⟨R, o, mp, ml, nx, St, Sb, ⟨hs21, kp25, kp26, kp27, ⟨_, _, ⟨k22, k23⟩, htn⟩, ⟨_, _, k24⟩, kp28, kp29⟩, hag.fr (fun q h9 => ((hq21 q (by omega)).trans (hqP q (by omega)))), hnx, hH.fr (fun q h9 => ((hq21 q (by omega)).trans (hqP q (by omega)))), hQ⟩, (fun q hh => by rw [hq21 q (by omega), hqP q (by omega)])⟩
      · skip
        replace h50 := tz_p0.mp h50
        refine tz_aload_n C_ 0 rfl rfl td_X_moment_53 ?_
        refine tz_ldc C_ tw_701 td_X_moment_54 ?_
        refine tz_cV C_ tmi_X_answer tw_276 tw_0 tw_274 hB0 rfl (As := [.int (-100006)]) (by exact (ct_X_answer (v := -100006) hB0)) rfl (rest := []) rfl (by decide) (Nat.le_of_ble_eq_true rfl) td_X_moment_56 (st1 := [.int (-100006)]) rfl (fun f30 hF30 => ?_)
        obtain ⟨hs31, hq31⟩ := hF30
        refine tz_riret C_ hr_ hk_ hQ_ rfl td_X_moment_59 ?_
        have k32 : f30 (B + 166) = some (tz_obj 9 [.ref (B + 166 + 1), .int (nI tn)]) := ((hq31 _ (by omega)).trans hTu.1)
        have k33 : f30 (B + 166 + 1) = some (tz_ints cs 120 tg) := ((hq31 _ (by omega)).trans hTu.2)
        have k34 : f30 (B + 168) = some (tz_obj 0 [.int zA, .int (nI kA)]) := ((hq31 _ (by omega)).trans hAl)
        have kp35 : tz_Tape cs f30 (B + 1) R (tz_cur σ).2.1 o mp ml := hT.fr (fun q h1_ h2_ => (hq31 q (by omega)))
        have kp36 : tz_Hist cs f30 (B + 15) nx σ.2.1 St := hHi.fr (fun q h1_ h2_ => (hq31 q (by omega)))
        have kp37 : tz_Shs cs f30 (B + 157) Sb := hShs.fr (fun q h1_ h2_ => (hq31 q (by omega)))
        have kp38 : tz_PlX cs f30 (B + 169) := hPlX.fr (fun q h1_ h2_ => (hq31 q (by omega)))
        have kp39 : tz_RoX cs f30 (B + 177) := hRoX.fr (fun q h1_ h2_ => (hq31 q (by omega)))
        have e9 : sp_moment σ (nI mm) = tz_an σ (-100006) := by rw [sp_moment, if_pos h4, nI_clamp (by omega)]; simp only [hpk42]; rw [if_neg (by rw [← hml9, ← hlkr42]; exact h50)]
        rw [e9]
        exact ⟨rfl, ⟨R, o, mp, ml, nx, St, Sb, ⟨hs31, kp35, kp36, kp37, ⟨_, _, ⟨k32, k33⟩, htn⟩, ⟨_, _, k34⟩, kp38, kp39⟩, hag.fr (fun q h9 => (hq31 q (by omega))), hnx, hH.fr (fun q h9 => (hq31 q (by omega))), hQ⟩, (fun q hh => by rw [hq31 q (by omega)])⟩
  · skip
    replace h4 := tz_p0.mp h4
    refine tz_aload_n C_ 0 rfl rfl td_X_moment_7 ?_
    refine tz_ldc C_ tw_273 td_X_moment_8 ?_
    refine tz_cV C_ tmi_X_answer tw_276 tw_0 tw_274 hB0 rfl (As := [.int (-100001)]) (by exact (ct_X_answer (v := -100001) hB0)) rfl (rest := []) rfl (by decide) (Nat.le_of_ble_eq_true rfl) td_X_moment_10 (st1 := [.int (-100001)]) rfl (fun f40 hF40 => ?_)
    obtain ⟨hs41, hq41⟩ := hF40
    refine tz_riret C_ hr_ hk_ hQ_ rfl td_X_moment_13 ?_
    have k42 : f40 (B + 166) = some (tz_obj 9 [.ref (B + 166 + 1), .int (nI tn)]) := ((hq41 _ (by omega)).trans hTu.1)
    have k43 : f40 (B + 166 + 1) = some (tz_ints cs 120 tg) := ((hq41 _ (by omega)).trans hTu.2)
    have k44 : f40 (B + 168) = some (tz_obj 0 [.int zA, .int (nI kA)]) := ((hq41 _ (by omega)).trans hAl)
    have kp45 : tz_Tape cs f40 (B + 1) R (tz_cur σ).2.1 o mp ml := hT.fr (fun q h1_ h2_ => (hq41 q (by omega)))
    have kp46 : tz_Hist cs f40 (B + 15) nx σ.2.1 St := hHi.fr (fun q h1_ h2_ => (hq41 q (by omega)))
    have kp47 : tz_Shs cs f40 (B + 157) Sb := hShs.fr (fun q h1_ h2_ => (hq41 q (by omega)))
    have kp48 : tz_PlX cs f40 (B + 169) := hPlX.fr (fun q h1_ h2_ => (hq41 q (by omega)))
    have kp49 : tz_RoX cs f40 (B + 177) := hRoX.fr (fun q h1_ h2_ => (hq41 q (by omega)))
    have e9 : sp_moment σ m = tz_an σ (-100001) := by rw [sp_moment, if_neg h4]
    rw [e9]
    exact ⟨rfl, ⟨R, o, mp, ml, nx, St, Sb, ⟨hs41, kp45, kp46, kp47, ⟨_, _, ⟨k42, k43⟩, htn⟩, ⟨_, _, k44⟩, kp48, kp49⟩, hag.fr (fun q h9 => (hq41 q (by omega))), hnx, hH.fr (fun q h9 => (hq41 q (by omega))), hQ⟩, (fun q hh => by rw [hq41 q (by omega)])⟩
