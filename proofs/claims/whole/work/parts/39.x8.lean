
def tz_jn (m : Nat) (g g2 : Nat → Int32) : Nat → Int32 := fun j => if j < m then g j else g2 j
def sp_join (s : tz_SG) (p q x r : Int32) : tz_AN := match tz_pk p with
  | none => tz_an s tz_BE
  | some a => match tz_pk q with
    | none => tz_an s tz_BE
    | some b => match tz_pk r with
      | none => tz_an s tz_BE
      | some c => if 0 ≤ x ∧ x ≤ nI (tz_ln s a) then (nI (max x.toNatClampNeg (tz_ln s b)), tz_act s (tz_sr (tz_cur s) c (max x.toNatClampNeg (tz_ln s b), tz_jn x.toNatClampNeg (tz_sg s a) (tz_sg s b)))) else tz_an s tz_BE
theorem tz_agS_undo {L0 nx kp : Nat} {f : tz_PH} {St : Nat → tz_S7} {ts : Nat → tz_TS} (hH : tz_agH L0 f nx kp St ts) (hnx : nx < 20) (hkp : kp ≤ 20 ∧ 0 < kp) : tz_agS L0 f (St ((nx + 20 - 1) % 20)) (ts (kp - 1)) (ts kp) := by
  have h := hH (kp - 1) (by omega)
  rw [show (nx + 20 - kp + (kp - 1)) % 20 = (nx + 20 - 1) % 20 by omega, show kp - 1 + 1 = kp by omega] at h
  exact h
theorem tz_agH_undo {L0 nx kp : Nat} {f : tz_PH} {St : Nat → tz_S7} {ts : Nat → tz_TS} (hH : tz_agH L0 f nx kp St ts) (hnx : nx < 20) (hkp : kp ≤ 20 ∧ 0 < kp) : tz_agH L0 f ((nx + 20 - 1) % 20) (kp - 1) St ts := by
  intro j hj
  have h := hH j (by omega)
  rw [show (nx + 20 - kp + j) % 20 = ((nx + 20 - 1) % 20 + 20 - (kp - 1) + j) % 20 by omega] at h
  exact h
theorem tz_agT_undo {L0 : Nat} {f : tz_PH} {R R' : tz_RR} {o o' : Nat → Option Nat} {mp ml mp' ml' : Nat → Int32} {t t' : tz_TS} {s : tz_S7} (hag : tz_agT L0 f R o mp ml t') (hs : tz_agS L0 f s t t') (hn : ∀ p, p < 4 → (t.1 p).1 ≤ 120) (hnl : t.2.1 ≤ 8) (hR : ∀ k, k < 4 → (s.1 = nI k → (R' k).1 = s.2.1 ∧ ∀ j, j < 120 → (R' k).2 j = s.2.2.1 j) ∧ (¬ s.1 = nI k → R' k = R k)) (ho : ∀ k, k < 8 → o' k = s.2.2.2.2.1 k) (hmp : ∀ k, k < 6 → mp' k = s.2.2.2.2.2.1 k) (hml : ∀ k, k < 6 → ml' k = s.2.2.2.2.2.2 k) : tz_agT L0 f R' o' mp' ml' t := by
  obtain ⟨a1, a2, a3, a4, a5, a6⟩ := hs
  refine ⟨?_, a2.cg (fun k hk => ho k (by omega)), a3.cg ho, fun k hk => (hmp k hk).trans (a4 k hk), fun k hk => (hml k hk).trans (a5 k hk)⟩
  intro p hp
  by_cases e : s.1 = nI p
  · obtain ⟨b1, b2⟩ := (hR p hp).1 e
    obtain ⟨c1, c2⟩ := (a6 p hp).1 e
    have hn9 := hn p hp
    exact ⟨b1.trans c1, fun j hj => (b2 j (by omega)).trans (c2 j hj)⟩
  · rw [(hR p hp).2 e, (a6 p hp).2 e]
    exact hag.1 p hp

abbrev rm_X_join : Room := { frames := 4, cells := 0, slots := 0, locals := 85 }
set_option maxHeartbeats 4000000 in
set_option maxRecDepth 100000 in
theorem ct_X_join {l : Launch} {A : Nat → Prop} {D : va_G} {cs : Nat → ClassId} {sz : Nat} {f : tz_PH} {B L0 : Nat} {σ : tz_SG} (hX : tz_AX cs L0 f B σ) (hW : tz_WF σ) (hB : B + 179 ≤ L0) {p p2 x p3 : Int32} : tz_CN l tyX_join prog_1_method_26_code 9 (some (.int)) rm_X_join 0 0 A D cs sz [.ref B, .int p, .int p2, .int x, .int p3] f (some (.int (sp_join σ p p2 x p3).1)) (fun f' => tz_AX cs L0 f' B (sp_join σ p p2 x p3).2 ∧ ∀ q, (q < B ∨ B + 179 ≤ q) → f' q = f q) := by
  refine tz_C.ofB (lv0 := [(0, .ref B), (1, .int p), (2, .int p2), (3, .int x), (4, .int p3)]) (plainFor_of_name (by decide)) (Nat.le_of_ble_eq_true rfl) rfl ?_
  intro p_ e_ s_ m_ ar_ be_ me_ c_ Q_ C_ hr_ hk_ hnm_ hz_ hQ_
  obtain ⟨R, o, mp, ml, nx, St, Sb, hXB, hag, hnx, hH, hQ⟩ := hX
  obtain ⟨hB0, hT, hHi, hShs, hTuX, hAlX, hPlX, hRoX⟩ := hXB
  have hTu9 := hTuX
  obtain ⟨tn, tg, hTu, htn⟩ := hTu9
  have hAl9 := hAlX
  obtain ⟨zA, kA, hAl⟩ := hAl9
  have hPl9 := hPlX
  obtain ⟨pr, px, pfo, pz, pk, ptn, ptg, pn, pg, pn2, pg2, hPl, hpn, hptn⟩ := hPl9
  have hRo9 := hRoX
  obtain ⟨jn, jg, hRo, hjn⟩ := hRo9
  have hrx := hPl.2.2.2.2.2
  have hRn : ∀ p, p < 4 → (R p).1 ≤ 120 := fun p hp => by rw [(hag.1 p hp).1]; exact (hW.cur.1 p hp).1
  have hnl : (tz_cur σ).2.1 ≤ 8 := hW.cur.2.1
  have hkp : σ.2.1 ≤ 20 := hW.1
  have hSn : ∀ s, s < 4 → (Sb s).2.1 ≤ 120 := fun s hs => by rw [(hQ s hs).2.1]; exact (hW.2.2 s hs).1
  refine tz_aload_n C_ 0 rfl rfl td_X_join_0 ?_
  refine tz_get C_ tci_X 0 (by decide) tw_240 hB0 rfl td_X_join_1 ?_
  refine tz_iload_n C_ 1 rfl rfl td_X_join_4 ?_
  refine tz_rV C_ tmi_T_rowAt tw_270 tw_271 tw_269 hT.1 rfl (As := [.int p]) (by exact (ct_T_rowAt hT)) rfl (rest := []) rfl (by decide) (Nat.le_of_ble_eq_true rfl) td_X_join_5 (st1 := [va_rf (tz_rof (B + 1) p)]) rfl ?_
  refine tz_astoreQ C_ (lv' := [(0, .ref B), (1, .int p), (2, .int p2), (3, .int x), (4, .int p3), (5, va_rf (tz_rof (B + 1) p))]) [1, 2, 3, 4, 5, 0] (by decide) rfl td_X_join_8 ?_
  refine tz_aload_n C_ 0 rfl rfl td_X_join_10 ?_
  refine tz_get C_ tci_X 0 (by decide) tw_240 hB0 rfl td_X_join_11 ?_
  refine tz_iload_n C_ 2 rfl rfl td_X_join_14 ?_
  refine tz_rV C_ tmi_T_rowAt tw_270 tw_271 tw_269 hT.1 rfl (As := [.int p2]) (by exact (ct_T_rowAt hT)) rfl (rest := []) rfl (by decide) (Nat.le_of_ble_eq_true rfl) td_X_join_15 (st1 := [va_rf (tz_rof (B + 1) p2)]) rfl ?_
  refine tz_astoreQ C_ (lv' := [(0, .ref B), (1, .int p), (2, .int p2), (3, .int x), (4, .int p3), (5, va_rf (tz_rof (B + 1) p)), (6, va_rf (tz_rof (B + 1) p2))]) [1, 2, 3, 4, 5, 6, 0] (by decide) (by generalize tz_rof (B + 1) p = z9; cases z9 <;> rfl) td_X_join_18 ?_
  refine tz_aload_n C_ 0 rfl rfl td_X_join_20 ?_
  refine tz_get C_ tci_X 0 (by decide) tw_240 hB0 rfl td_X_join_21 ?_
  refine tz_iload C_ 4 rfl td_X_join_24 ?_
  refine tz_rV C_ tmi_T_rowAt tw_270 tw_271 tw_269 hT.1 rfl (As := [.int p3]) (by exact (ct_T_rowAt hT)) rfl (rest := []) rfl (by decide) (Nat.le_of_ble_eq_true rfl) td_X_join_26 (st1 := [va_rf (tz_rof (B + 1) p3)]) rfl ?_
  refine tz_astoreQ C_ (lv' := [(0, .ref B), (1, .int p), (2, .int p2), (3, .int x), (4, .int p3), (5, va_rf (tz_rof (B + 1) p)), (6, va_rf (tz_rof (B + 1) p2)), (7, va_rf (tz_rof (B + 1) p3))]) [1, 2, 3, 4, 5, 6, 7, 0] (by decide) (by generalize tz_rof (B + 1) p2 = z9; cases z9 <;> rfl) td_X_join_29 ?_
  refine tz_aloadQ C_ 5 rfl td_X_join_31 ?_
  refine tz_ifnull C_ td_X_join_33 (fun h33 => ?_) (fun q33 h33 => ?_)
  · skip
    rw [h33]
    have hpk33 := tz_pk_none h33
    refine tz_aload_n C_ 0 rfl rfl td_X_join_46 ?_
    refine tz_ldc C_ tw_273 td_X_join_47 ?_
    refine tz_cV C_ tmi_X_answer tw_276 tw_0 tw_274 hB0 rfl (As := [.int (-100001)]) (by exact (ct_X_answer (v := -100001) hB0)) rfl (rest := []) rfl (by decide) (Nat.le_of_ble_eq_true rfl) td_X_join_49 (st1 := [.int (-100001)]) rfl (fun f1 hF1 => ?_)
    obtain ⟨hs2, hq2⟩ := hF1
    refine tz_riret C_ hr_ hk_ hQ_ rfl td_X_join_52 ?_
    have k3 : f1 (B + 166) = some (tz_obj 9 [.ref (B + 166 + 1), .int (nI tn)]) := ((hq2 _ (by omega)).trans hTu.1)
    have k4 : f1 (B + 166 + 1) = some (tz_ints cs 120 tg) := ((hq2 _ (by omega)).trans hTu.2)
    have k5 : f1 (B + 168) = some (tz_obj 0 [.int zA, .int (nI kA)]) := ((hq2 _ (by omega)).trans hAl)
    have kp6 : tz_Tape cs f1 (B + 1) R (tz_cur σ).2.1 o mp ml := hT.fr (fun q h1_ h2_ => (hq2 q (by omega)))
    have kp7 : tz_Hist cs f1 (B + 15) nx σ.2.1 St := hHi.fr (fun q h1_ h2_ => (hq2 q (by omega)))
    have kp8 : tz_Shs cs f1 (B + 157) Sb := hShs.fr (fun q h1_ h2_ => (hq2 q (by omega)))
    have kp9 : tz_PlX cs f1 (B + 169) := hPlX.fr (fun q h1_ h2_ => (hq2 q (by omega)))
    have kp10 : tz_RoX cs f1 (B + 177) := hRoX.fr (fun q h1_ h2_ => (hq2 q (by omega)))
    have e9 : sp_join σ p p2 x p3 = tz_an σ (-100001) := by simp only [sp_join, hpk33]
    rw [e9]
    exact ⟨rfl, ⟨R, o, mp, ml, nx, St, Sb, ⟨hs2, kp6, kp7, kp8, ⟨_, _, ⟨k3, k4⟩, htn⟩, ⟨_, _, k5⟩, kp9, kp10⟩, hag.fr (fun q h9 => (hq2 q (by omega))), hnx, hH.fr (fun q h9 => (hq2 q (by omega))), hQ⟩, (fun q hh => by rw [hq2 q (by omega)])⟩
  · skip
    obtain ⟨kr33, hkr33, ekr33, eqkr33⟩ := tz_rof_some h33
    rw [h33]
    subst eqkr33
    subst ekr33
    have hpk33 := tz_pk_N hkr33
    have hRnkr33 := hRn kr33 hkr33
    have hlkr33 : (R kr33).1 = tz_ln σ kr33 := (hag.1 kr33 hkr33).1
    have hgkr33 : ∀ j, j < tz_ln σ kr33 → (R kr33).2 j = tz_sg σ kr33 j := (hag.1 kr33 hkr33).2
    have hakr33 : tz_at (R kr33).1 (R kr33).2 = tz_at (tz_ln σ kr33) (tz_sg σ kr33) := tz_agR.at hag.1 hkr33 (hW.cur.1 kr33 hkr33).1
    have hckr33 : tz_ln σ kr33 ≤ 120 := (hW.cur.1 kr33 hkr33).1
    refine tz_aloadQ C_ 6 rfl td_X_join_36 ?_
    refine tz_ifnull C_ td_X_join_38 (fun h38 => ?_) (fun q38 h38 => ?_)
    · skip
      rw [h38]
      have hpk38 := tz_pk_none h38
      refine tz_aload_n C_ 0 rfl rfl td_X_join_46 ?_
      refine tz_ldc C_ tw_273 td_X_join_47 ?_
      refine tz_cV C_ tmi_X_answer tw_276 tw_0 tw_274 hB0 rfl (As := [.int (-100001)]) (by exact (ct_X_answer (v := -100001) hB0)) rfl (rest := []) rfl (by decide) (Nat.le_of_ble_eq_true rfl) td_X_join_49 (st1 := [.int (-100001)]) rfl (fun f11 hF11 => ?_)
      obtain ⟨hs12, hq12⟩ := hF11
      refine tz_riret C_ hr_ hk_ hQ_ rfl td_X_join_52 ?_
      have k13 : f11 (B + 166) = some (tz_obj 9 [.ref (B + 166 + 1), .int (nI tn)]) := ((hq12 _ (by omega)).trans hTu.1)
      have k14 : f11 (B + 166 + 1) = some (tz_ints cs 120 tg) := ((hq12 _ (by omega)).trans hTu.2)
      have k15 : f11 (B + 168) = some (tz_obj 0 [.int zA, .int (nI kA)]) := ((hq12 _ (by omega)).trans hAl)
      have kp16 : tz_Tape cs f11 (B + 1) R (tz_cur σ).2.1 o mp ml := hT.fr (fun q h1_ h2_ => (hq12 q (by omega)))
      have kp17 : tz_Hist cs f11 (B + 15) nx σ.2.1 St := hHi.fr (fun q h1_ h2_ => (hq12 q (by omega)))
      have kp18 : tz_Shs cs f11 (B + 157) Sb := hShs.fr (fun q h1_ h2_ => (hq12 q (by omega)))
      have kp19 : tz_PlX cs f11 (B + 169) := hPlX.fr (fun q h1_ h2_ => (hq12 q (by omega)))
      have kp20 : tz_RoX cs f11 (B + 177) := hRoX.fr (fun q h1_ h2_ => (hq12 q (by omega)))
      have e9 : sp_join σ (nI kr33) p2 x p3 = tz_an σ (-100001) := by simp only [sp_join, hpk33, hpk38]
      rw [e9]
      exact ⟨rfl, ⟨R, o, mp, ml, nx, St, Sb, ⟨hs12, kp16, kp17, kp18, ⟨_, _, ⟨k13, k14⟩, htn⟩, ⟨_, _, k15⟩, kp19, kp20⟩, hag.fr (fun q h9 => (hq12 q (by omega))), hnx, hH.fr (fun q h9 => (hq12 q (by omega))), hQ⟩, (fun q hh => by rw [hq12 q (by omega)])⟩
    · skip
      obtain ⟨kr38, hkr38, ekr38, eqkr38⟩ := tz_rof_some h38
      rw [h38]
      subst eqkr38
      subst ekr38
      have hpk38 := tz_pk_N hkr38
      have hRnkr38 := hRn kr38 hkr38
      have hlkr38 : (R kr38).1 = tz_ln σ kr38 := (hag.1 kr38 hkr38).1
      have hgkr38 : ∀ j, j < tz_ln σ kr38 → (R kr38).2 j = tz_sg σ kr38 j := (hag.1 kr38 hkr38).2
      have hakr38 : tz_at (R kr38).1 (R kr38).2 = tz_at (tz_ln σ kr38) (tz_sg σ kr38) := tz_agR.at hag.1 hkr38 (hW.cur.1 kr38 hkr38).1
      have hckr38 : tz_ln σ kr38 ≤ 120 := (hW.cur.1 kr38 hkr38).1
      refine tz_aloadQ C_ 7 rfl td_X_join_41 ?_
      refine tz_ifnonnull C_ td_X_join_43 (fun q43 h43 => ?_) (fun h43 => ?_)
      · skip
        obtain ⟨kr43, hkr43, ekr43, eqkr43⟩ := tz_rof_some h43
        rw [h43]
        subst eqkr43
        subst ekr43
        have hpk43 := tz_pk_N hkr43
        have hRnkr43 := hRn kr43 hkr43
        have hlkr43 : (R kr43).1 = tz_ln σ kr43 := (hag.1 kr43 hkr43).1
        have hgkr43 : ∀ j, j < tz_ln σ kr43 → (R kr43).2 j = tz_sg σ kr43 j := (hag.1 kr43 hkr43).2
        have hakr43 : tz_at (R kr43).1 (R kr43).2 = tz_at (tz_ln σ kr43) (tz_sg σ kr43) := tz_agR.at hag.1 hkr43 (hW.cur.1 kr43 hkr43).1
        have hckr43 : tz_ln σ kr43 ≤ 120 := (hW.cur.1 kr43 hkr43).1
        refine tz_iload_n C_ 3 rfl rfl td_X_join_53 ?_
        refine tz_if_lt C_ td_X_join_54 (fun h54 => ?_) (fun h54 => ?_)
        · skip
          refine tz_aload_n C_ 0 rfl rfl td_X_join_66 ?_
          refine tz_ldc C_ tw_273 td_X_join_67 ?_
          refine tz_cV C_ tmi_X_answer tw_276 tw_0 tw_274 hB0 rfl (As := [.int (-100001)]) (by exact (ct_X_answer (v := -100001) hB0)) rfl (rest := []) rfl (by decide) (Nat.le_of_ble_eq_true rfl) td_X_join_69 (st1 := [.int (-100001)]) rfl (fun f21 hF21 => ?_)
          obtain ⟨hs22, hq22⟩ := hF21
          refine tz_riret C_ hr_ hk_ hQ_ rfl td_X_join_72 ?_
          have k23 : f21 (B + 166) = some (tz_obj 9 [.ref (B + 166 + 1), .int (nI tn)]) := ((hq22 _ (by omega)).trans hTu.1)
          have k24 : f21 (B + 166 + 1) = some (tz_ints cs 120 tg) := ((hq22 _ (by omega)).trans hTu.2)
          have k25 : f21 (B + 168) = some (tz_obj 0 [.int zA, .int (nI kA)]) := ((hq22 _ (by omega)).trans hAl)
          have kp26 : tz_Tape cs f21 (B + 1) R (tz_cur σ).2.1 o mp ml := hT.fr (fun q h1_ h2_ => (hq22 q (by omega)))
          have kp27 : tz_Hist cs f21 (B + 15) nx σ.2.1 St := hHi.fr (fun q h1_ h2_ => (hq22 q (by omega)))
          have kp28 : tz_Shs cs f21 (B + 157) Sb := hShs.fr (fun q h1_ h2_ => (hq22 q (by omega)))
          have kp29 : tz_PlX cs f21 (B + 169) := hPlX.fr (fun q h1_ h2_ => (hq22 q (by omega)))
          have kp30 : tz_RoX cs f21 (B + 177) := hRoX.fr (fun q h1_ h2_ => (hq22 q (by omega)))
          have e9 : sp_join σ (nI kr33) (nI kr38) x (nI kr43) = tz_an σ (-100001) := by simp only [sp_join, hpk33, hpk38, hpk43]; rw [if_neg (by rw [← hlkr33]; grind)]
          rw [e9]
          exact ⟨rfl, ⟨R, o, mp, ml, nx, St, Sb, ⟨hs22, kp26, kp27, kp28, ⟨_, _, ⟨k23, k24⟩, htn⟩, ⟨_, _, k25⟩, kp29, kp30⟩, hag.fr (fun q h9 => (hq22 q (by omega))), hnx, hH.fr (fun q h9 => (hq22 q (by omega))), hQ⟩, (fun q hh => by rw [hq22 q (by omega)])⟩
        · skip
          refine tz_iload_n C_ 3 rfl rfl td_X_join_57 ?_
          refine tz_aload C_ 5 rfl td_X_join_58 ?_
          refine tz_rV C_ tmi_R_length tw_308 tw_309 tw_307 (hT.2.2.2.2.2 kr33 hkr33).1 rfl (As := []) (by exact (ct_R_length (n := (R kr33).1) (g := (R kr33).2) ⟨(hT.2.2.2.2.2 kr33 hkr33).1, (hT.2.2.2.2.2 kr33 hkr33).2⟩)) rfl (rest := [.int x]) rfl (by decide) (Nat.le_of_ble_eq_true rfl) td_X_join_60 (st1 := [.int (nI ((R kr33).1)), .int x]) rfl ?_
          refine tz_icmp_le C_ td_X_join_63 (fun h63 => ?_) (fun h63 => ?_)
          · skip
            obtain ⟨m, hm, em⟩ := tz_toN h54 h63 (by omega)
            subst em
            refine tz_aload_n C_ 0 rfl rfl td_X_join_73 ?_
            refine tz_get C_ tci_X 1 (by decide) tw_241 hB0 rfl td_X_join_74 ?_
            refine tz_aload_n C_ 0 rfl rfl td_X_join_77 ?_
            refine tz_get C_ tci_X 0 (by decide) tw_240 hB0 rfl td_X_join_78 ?_
            refine tz_iload C_ 4 rfl td_X_join_81 ?_
            refine tz_cV C_ tmi_H_keep tw_280 tw_281 tw_279 hHi.1 rfl (As := [.ref (B + 1), .int (nI kr43)]) (by exact (ct_H_keep hHi hnx hkp hT (by omega) (hag.2.2.1.fr (fun q h9 => rfl)) (by omega))) rfl (rest := []) rfl (by decide) (Nat.le_of_ble_eq_true rfl) td_X_join_83 (st1 := []) rfl (fun f31 hF31 => ?_)
            obtain ⟨⟨sK, hSK, hpK, hhK⟩, hqK⟩ := hF31
            refine tz_aload_n C_ 0 rfl rfl td_X_join_86 ?_
            have k32 : f31 B = some (tz_obj 10 [.ref (B + 1), .ref (B + 15), .ref (B + 157), .ref (B + 166), .ref (B + 168), .ref (B + 169), .ref (B + 177), .int σ.2.2.2]) := ((hqK _ (by omega)).trans hB0)
            refine tz_get C_ tci_X 6 (by decide) tw_246 k32 rfl td_X_join_87 ?_
            have k33 : f31 (B + 177) = some (tz_obj 5 [.ref (B + 177 + 1), .int (nI jn)]) := ((hqK _ (by omega)).trans hRo.1)
            have k34 : f31 (B + 177 + 1) = some (tz_ints cs 120 jg) := ((hqK _ (by omega)).trans hRo.2)
            refine tz_cV C_ tmi_R_empty tw_453 tw_454 tw_452 k33 rfl (As := []) (by exact (ct_R_empty (n := jn) (g := jg) ⟨k33, k34⟩)) rfl (rest := []) rfl (by decide) (Nat.le_of_ble_eq_true rfl) td_X_join_90 (st1 := []) rfl (fun f35 hF35 => ?_)
            obtain ⟨hP36, hq36⟩ := hF35
            refine tz_iconst C_ (v := 0) (by decide) td_X_join_93 ?_
            refine tz_istore C_ (lv' := [(0, .ref B), (1, .int (nI kr33)), (2, .int (nI kr38)), (3, .int (nI m)), (4, .int (nI kr43)), (5, .ref (B + 1 + 6 + 2 * kr33)), (6, .ref (B + 1 + 6 + 2 * kr38)), (7, .ref (B + 1 + 6 + 2 * kr43)), (8, .int 0)]) [1, 2, 3, 4, 5, 6, 7, 8, 0] (by decide) rfl td_X_join_94 ?_
            have k37 : f35 B = some (tz_obj 10 [.ref (B + 1), .ref (B + 15), .ref (B + 157), .ref (B + 166), .ref (B + 168), .ref (B + 169), .ref (B + 177), .int σ.2.2.2]) := ((hq36 _ (by omega)).trans k32)
            have kp38 : tz_Hist cs f35 (B + 15) ((nx + 1) % 20) (min (σ.2.1 + 1) 20) (va_up St nx sK) := hSK.fr (fun q h1_ h2_ => (hq36 q (by omega)))
            have loop96 : ∀ (kk96 : Nat) (i : Nat) (fL : tz_PH), (fL B = some (tz_obj 10 [.ref (B + 1), .ref (B + 15), .ref (B + 157), .ref (B + 166), .ref (B + 168), .ref (B + 169), .ref (B + 177), .int σ.2.2.2])) → (tz_Hist cs fL (B + 15) ((nx + 1) % 20) (min (σ.2.1 + 1) 20) (va_up St nx sK)) → (tz_Row cs fL (B + 177) i (tz_fl (tz_jn m (R kr33).2 (R kr38).2) jg i)) → (∀ q, (q < B + 15 ∨ B + 157 ≤ q) ∧ (q < B + 177 ∨ B + 177 + 2 ≤ q) → fL q = f q) → (i ≤ m) → (m - i) < kk96 → tz_V p_ l e_ rm_X_join s_ m_ ar_ be_ me_ c_ Q_ A D 9 fL sz 0 0 96 [(0, .ref B), (1, .int (nI kr33)), (2, .int (nI kr38)), (3, .int (nI m)), (4, .int (nI kr43)), (5, .ref (B + 1 + 6 + 2 * kr33)), (6, .ref (B + 1 + 6 + 2 * kr38)), (7, .ref (B + 1 + 6 + 2 * kr43)), (8, .int (nI i))] [] := by
              intro kk96
              induction kk96 with
              | zero => intro i fL hB1 hHi1 hR1 hfr hmi hm96; omega
              | succ kk96 ih96 =>
                intro i fL hB1 hHi1 hR1 hfr hmi hm96
                refine tz_iload C_ 8 rfl td_X_join_96 ?_
                refine tz_iload_n C_ 3 rfl rfl td_X_join_98 ?_
                refine tz_icmp_ge C_ td_X_join_99 (fun h99 => ?_) (fun h99 => ?_)
                · skip
                  replace h99 := (nI_leI (a := m) (b := i) (by omega) (by omega)).mp h99
                  refine tz_iload_n C_ 3 rfl rfl td_X_join_122 ?_
                  refine tz_istore C_ (lv' := [(0, .ref B), (1, .int (nI kr33)), (2, .int (nI kr38)), (3, .int (nI m)), (4, .int (nI kr43)), (5, .ref (B + 1 + 6 + 2 * kr33)), (6, .ref (B + 1 + 6 + 2 * kr38)), (7, .ref (B + 1 + 6 + 2 * kr43)), (8, .int (nI m))]) [1, 2, 3, 4, 5, 6, 7, 8, 0] (by decide) rfl td_X_join_123 ?_
                  have hR1x := hR1
                  rw [show i = m by omega] at hR1x
                  have loop125 : ∀ (kk125 : Nat) (i : Nat) (fL : tz_PH), (fL B = some (tz_obj 10 [.ref (B + 1), .ref (B + 15), .ref (B + 157), .ref (B + 166), .ref (B + 168), .ref (B + 169), .ref (B + 177), .int σ.2.2.2])) → (tz_Hist cs fL (B + 15) ((nx + 1) % 20) (min (σ.2.1 + 1) 20) (va_up St nx sK)) → (tz_Row cs fL (B + 177) i (tz_fl (tz_jn m (R kr33).2 (R kr38).2) jg i)) → (∀ q, (q < B + 15 ∨ B + 157 ≤ q) ∧ (q < B + 177 ∨ B + 177 + 2 ≤ q) → fL q = f q) → (m ≤ i ∧ (i = m ∨ i ≤ (R kr38).1)) → ((R kr38).1 - i) < kk125 → tz_V p_ l e_ rm_X_join s_ m_ ar_ be_ me_ c_ Q_ A D 9 fL sz 0 0 125 [(0, .ref B), (1, .int (nI kr33)), (2, .int (nI kr38)), (3, .int (nI m)), (4, .int (nI kr43)), (5, .ref (B + 1 + 6 + 2 * kr33)), (6, .ref (B + 1 + 6 + 2 * kr38)), (7, .ref (B + 1 + 6 + 2 * kr43)), (8, .int (nI i))] [] := by
                    intro kk125
                    induction kk125 with
                    | zero => intro i fL hB1 hHi1 hR1 hfr hmi hm125; omega
                    | succ kk125 ih125 =>
                      intro i fL hB1 hHi1 hR1 hfr hmi hm125
                      refine tz_iload C_ 8 rfl td_X_join_125 ?_
                      refine tz_aload C_ 6 rfl td_X_join_127 ?_
                      refine tz_rV C_ tmi_R_length tw_308 tw_309 tw_307 ((hfr _ (by omega)).trans (hT.2.2.2.2.2 kr38 hkr38).1) rfl (As := []) (by exact (ct_R_length (n := (R kr38).1) (g := (R kr38).2) ⟨((hfr _ (by omega)).trans (hT.2.2.2.2.2 kr38 hkr38).1), ((hfr _ (by omega)).trans (hT.2.2.2.2.2 kr38 hkr38).2)⟩)) rfl (rest := [.int (nI i)]) rfl (by decide) (Nat.le_of_ble_eq_true rfl) td_X_join_129 (st1 := [.int (nI ((R kr38).1)), .int (nI i)]) rfl ?_
                      refine tz_icmp_ge C_ td_X_join_132 (fun h132 => ?_) (fun h132 => ?_)
                      · skip
                        replace h132 := (nI_leI (a := (R kr38).1) (b := i) (by omega) (by omega)).mp h132
                        have hRo9 : tz_RoX cs fL (B + 177) := ⟨_, _, hR1, by omega⟩
                        refine tz_aload C_ 7 rfl td_X_join_155 ?_
                        refine tz_aload_n C_ 0 rfl rfl td_X_join_157 ?_
                        refine tz_get C_ tci_X 6 (by decide) tw_246 hB1 rfl td_X_join_158 ?_
                        refine tz_cV C_ tmi_R_become tw_293 tw_294 tw_677 ((hfr _ (by omega)).trans (hT.2.2.2.2.2 kr43 hkr43).1) rfl (As := [.ref (B + 177)]) (by exact (ct_R_become (n := (R kr43).1) (g := (R kr43).2) (n2 := i) (g2 := tz_fl (tz_jn m (R kr33).2 (R kr38).2) jg i) ⟨((hfr _ (by omega)).trans (hT.2.2.2.2.2 kr43 hkr43).1), ((hfr _ (by omega)).trans (hT.2.2.2.2.2 kr43 hkr43).2)⟩ ⟨hR1.1, hR1.2⟩ (by omega))) rfl (rest := []) rfl (by decide) (Nat.le_of_ble_eq_true rfl) td_X_join_161 (st1 := []) rfl (fun f39 hF39 => ?_)
                        obtain ⟨hP40, hq40⟩ := hF39
                        refine tz_aload C_ 7 rfl td_X_join_164 ?_
                        refine tz_rV C_ tmi_R_length tw_308 tw_309 tw_307 hP40.1 rfl (As := []) (by exact (ct_R_length (n := i) (g := va_cpy (tz_fl (tz_jn m (R kr33).2 (R kr38).2) jg i) ((R kr43).2) 0 0 120) ⟨hP40.1, hP40.2⟩)) rfl (rest := []) rfl (by decide) (Nat.le_of_ble_eq_true rfl) td_X_join_166 (st1 := [.int (nI i)]) rfl ?_
                        refine tz_riret C_ hr_ hk_ hQ_ rfl td_X_join_169 ?_
                        have k41 : f39 (B + 166) = some (tz_obj 9 [.ref (B + 166 + 1), .int (nI tn)]) := ((hq40 _ (by omega)).trans ((hfr _ (by omega)).trans hTu.1))
                        have k42 : f39 (B + 166 + 1) = some (tz_ints cs 120 tg) := ((hq40 _ (by omega)).trans ((hfr _ (by omega)).trans hTu.2))
                        have k43 : f39 (B + 168) = some (tz_obj 0 [.int zA, .int (nI kA)]) := ((hq40 _ (by omega)).trans ((hfr _ (by omega)).trans hAl))
                        have k44 : f39 B = some (tz_obj 10 [.ref (B + 1), .ref (B + 15), .ref (B + 157), .ref (B + 166), .ref (B + 168), .ref (B + 169), .ref (B + 177), .int σ.2.2.2]) := ((hq40 _ (by omega)).trans hB1)
                        have kp45 : tz_Hist cs f39 (B + 15) ((nx + 1) % 20) (min (σ.2.1 + 1) 20) (va_up St nx sK) := hHi1.fr (fun q h1_ h2_ => (hq40 q (by omega)))
                        have kp46 : tz_Shs cs f39 (B + 157) Sb := (hShs.fr (fun q a9 b9 => hfr q (by omega))).fr (fun q h1_ h2_ => (hq40 q (by omega)))
                        have kp47 : tz_PlX cs f39 (B + 169) := (hPlX.fr (fun q a9 b9 => hfr q (by omega))).fr (fun q h1_ h2_ => (hq40 q (by omega)))
                        have kp48 : tz_RoX cs f39 (B + 177) := hRo9.fr (fun q h1_ h2_ => (hq40 q (by omega)))
                        have e7 : i = max m (R kr38).1 := by omega
                        have e9 : sp_join σ (nI kr33) (nI kr38) (nI m) (nI kr43) = (nI i, tz_act σ (tz_sr (tz_cur σ) kr43 (max m (tz_ln σ kr38), tz_jn m (tz_sg σ kr33) (tz_sg σ kr38)))) := by 
                          have a2 : nI m ≤ nI (R kr33).1 := h63
                          simp only [sp_join, hpk33, hpk38, hpk43]; rw [if_pos ⟨nI_pos' (by omega), hlkr33 ▸ a2⟩, nI_clamp (by omega), e7, hlkr38]
                        rw [e9]
                        refine ⟨(by rfl), tz_AX_row (s7 := sK) hW hB hT hag hnx hH hQ hkr43 hpK hhK (fun q hh => by rw [hq40 q (by omega), hfr q (by omega)]) k44 kp45 kp46 ⟨_, _, ⟨k41, k42⟩, htn⟩ ⟨_, _, k43⟩ kp47 kp48 ⟨hP40.1, hP40.2⟩ ?_, (fun q hh => by rw [hq40 q (by omega), hfr q (by omega)])⟩
                        refine ⟨e7.trans (by rw [hlkr38]), fun j hj => ?_⟩
                        have hj2 : j < i := by rw [e7, hlkr38]; exact hj
                        rw [tz_cpy_in (by omega), tz_fl_in hj2]
                        show tz_jn m (R kr33).2 (R kr38).2 j = tz_jn m (tz_sg σ kr33) (tz_sg σ kr38) j
                        unfold tz_jn
                        split
                        · exact hgkr33 j (by omega)
                        · exact hgkr38 j (by omega)
                      · skip
                        replace h132 := mt (nI_leI (a := (R kr38).1) (b := i) (by omega) (by omega)).mpr h132
                        refine tz_aload_n C_ 0 rfl rfl td_X_join_135 ?_
                        refine tz_get C_ tci_X 6 (by decide) tw_246 hB1 rfl td_X_join_136 ?_
                        refine tz_aload C_ 6 rfl td_X_join_139 ?_
                        refine tz_iload C_ 8 rfl td_X_join_141 ?_
                        refine tz_rV C_ tmi_R_at tw_332 tw_333 tw_331 ((hfr _ (by omega)).trans (hT.2.2.2.2.2 kr38 hkr38).1) rfl (As := [.int (nI i)]) (by exact (ct_R_atN (n := (R kr38).1) (g := (R kr38).2) ⟨((hfr _ (by omega)).trans (hT.2.2.2.2.2 kr38 hkr38).1), ((hfr _ (by omega)).trans (hT.2.2.2.2.2 kr38 hkr38).2)⟩ (by omega) (by omega))) rfl (rest := [.ref (B + 177)]) rfl (by decide) (Nat.le_of_ble_eq_true rfl) td_X_join_143 (st1 := [.int (((R kr38).2) i), .ref (B + 177)]) rfl ?_
                        refine tz_cV C_ tmi_R_add tw_463 tw_464 tw_462 hR1.1 rfl (As := [.int (((R kr38).2) i)]) (by exact (ct_R_add (n := i) (g := tz_fl (tz_jn m (R kr33).2 (R kr38).2) jg i) ⟨hR1.1, hR1.2⟩ (by omega))) rfl (rest := []) rfl (by decide) (Nat.le_of_ble_eq_true rfl) td_X_join_146 (st1 := []) rfl (fun f49 hF49 => ?_)
                        obtain ⟨hP50, hq50⟩ := hF49
                        refine tz_iinc C_ (k := 1) (v := nI (i + 1)) (lv' := [(0, .ref B), (1, .int (nI kr33)), (2, .int (nI kr38)), (3, .int (nI m)), (4, .int (nI kr43)), (5, .ref (B + 1 + 6 + 2 * kr33)), (6, .ref (B + 1 + 6 + 2 * kr38)), (7, .ref (B + 1 + 6 + 2 * kr43)), (8, .int (nI (i + 1)))]) 8 rfl (nI_1 i) [1, 2, 3, 4, 5, 6, 7, 8, 0] (by decide) rfl td_X_join_149 ?_
                        refine tz_goto C_ td_X_join_152 ?_
                        have k51 : f49 B = some (tz_obj 10 [.ref (B + 1), .ref (B + 15), .ref (B + 157), .ref (B + 166), .ref (B + 168), .ref (B + 169), .ref (B + 177), .int σ.2.2.2]) := ((hq50 _ (by omega)).trans hB1)
                        have kp52 : tz_Hist cs f49 (B + 15) ((nx + 1) % 20) (min (σ.2.1 + 1) 20) (va_up St nx sK) := hHi1.fr (fun q h1_ h2_ => (hq50 q (by omega)))
                        exact ih125 (i + 1) f49 k51 kp52 (⟨hP50.1, tz_flr hP50.2 (by simp only [tz_jn]; rw [if_neg (by omega)])⟩) (fun q hh => by rw [hq50 q (by omega), hfr q (by omega)]) (by omega) (by omega)
                  exact loop125 _ m fL hB1 hHi1 hR1x (fun q hh => by rw [hfr q (by omega)]) (⟨Nat.le_refl _, Or.inl rfl⟩) (Nat.lt_succ_self _)
                · skip
                  replace h99 := mt (nI_leI (a := m) (b := i) (by omega) (by omega)).mpr h99
                  refine tz_aload_n C_ 0 rfl rfl td_X_join_102 ?_
                  refine tz_get C_ tci_X 6 (by decide) tw_246 hB1 rfl td_X_join_103 ?_
                  refine tz_aload C_ 5 rfl td_X_join_106 ?_
                  refine tz_iload C_ 8 rfl td_X_join_108 ?_
                  refine tz_rV C_ tmi_R_at tw_332 tw_333 tw_331 ((hfr _ (by omega)).trans (hT.2.2.2.2.2 kr33 hkr33).1) rfl (As := [.int (nI i)]) (by exact (ct_R_atN (n := (R kr33).1) (g := (R kr33).2) ⟨((hfr _ (by omega)).trans (hT.2.2.2.2.2 kr33 hkr33).1), ((hfr _ (by omega)).trans (hT.2.2.2.2.2 kr33 hkr33).2)⟩ (by omega) (by omega))) rfl (rest := [.ref (B + 177)]) rfl (by decide) (Nat.le_of_ble_eq_true rfl) td_X_join_110 (st1 := [.int (((R kr33).2) i), .ref (B + 177)]) rfl ?_
                  refine tz_cV C_ tmi_R_add tw_463 tw_464 tw_462 hR1.1 rfl (As := [.int (((R kr33).2) i)]) (by exact (ct_R_add (n := i) (g := tz_fl (tz_jn m (R kr33).2 (R kr38).2) jg i) ⟨hR1.1, hR1.2⟩ (by omega))) rfl (rest := []) rfl (by decide) (Nat.le_of_ble_eq_true rfl) td_X_join_113 (st1 := []) rfl (fun f53 hF53 => ?_)
                  obtain ⟨hP54, hq54⟩ := hF53
                  refine tz_iinc C_ (k := 1) (v := nI (i + 1)) (lv' := [(0, .ref B), (1, .int (nI kr33)), (2, .int (nI kr38)), (3, .int (nI m)), (4, .int (nI kr43)), (5, .ref (B + 1 + 6 + 2 * kr33)), (6, .ref (B + 1 + 6 + 2 * kr38)), (7, .ref (B + 1 + 6 + 2 * kr43)), (8, .int (nI (i + 1)))]) 8 rfl (nI_1 i) [1, 2, 3, 4, 5, 6, 7, 8, 0] (by decide) rfl td_X_join_116 ?_
                  refine tz_goto C_ td_X_join_119 ?_
                  have k55 : f53 B = some (tz_obj 10 [.ref (B + 1), .ref (B + 15), .ref (B + 157), .ref (B + 166), .ref (B + 168), .ref (B + 169), .ref (B + 177), .int σ.2.2.2]) := ((hq54 _ (by omega)).trans hB1)
                  have kp56 : tz_Hist cs f53 (B + 15) ((nx + 1) % 20) (min (σ.2.1 + 1) 20) (va_up St nx sK) := hHi1.fr (fun q h1_ h2_ => (hq54 q (by omega)))
                  exact ih96 (i + 1) f53 k55 kp56 (⟨hP54.1, tz_flr hP54.2 (by simp only [tz_jn]; rw [if_pos (by omega)])⟩) (fun q hh => by rw [hq54 q (by omega), hfr q (by omega)]) (by omega) (by omega)
            exact loop96 _ 0 f35 k37 kp38 (by rw [tz_fl_0]; exact ⟨hP36.1, hP36.2⟩) (fun q hh => by rw [hq36 q (by omega), hqK q (by omega)]) (Nat.zero_le _) (Nat.lt_succ_self _)
          · skip
            refine tz_aload_n C_ 0 rfl rfl td_X_join_66 ?_
            refine tz_ldc C_ tw_273 td_X_join_67 ?_
            refine tz_cV C_ tmi_X_answer tw_276 tw_0 tw_274 hB0 rfl (As := [.int (-100001)]) (by exact (ct_X_answer (v := -100001) hB0)) rfl (rest := []) rfl (by decide) (Nat.le_of_ble_eq_true rfl) td_X_join_69 (st1 := [.int (-100001)]) rfl (fun f57 hF57 => ?_)
            obtain ⟨hs58, hq58⟩ := hF57
            refine tz_riret C_ hr_ hk_ hQ_ rfl td_X_join_72 ?_
            have k59 : f57 (B + 166) = some (tz_obj 9 [.ref (B + 166 + 1), .int (nI tn)]) := ((hq58 _ (by omega)).trans hTu.1)
            have k60 : f57 (B + 166 + 1) = some (tz_ints cs 120 tg) := ((hq58 _ (by omega)).trans hTu.2)
            have k61 : f57 (B + 168) = some (tz_obj 0 [.int zA, .int (nI kA)]) := ((hq58 _ (by omega)).trans hAl)
            have kp62 : tz_Tape cs f57 (B + 1) R (tz_cur σ).2.1 o mp ml := hT.fr (fun q h1_ h2_ => (hq58 q (by omega)))
            have kp63 : tz_Hist cs f57 (B + 15) nx σ.2.1 St := hHi.fr (fun q h1_ h2_ => (hq58 q (by omega)))
            have kp64 : tz_Shs cs f57 (B + 157) Sb := hShs.fr (fun q h1_ h2_ => (hq58 q (by omega)))
            have kp65 : tz_PlX cs f57 (B + 169) := hPlX.fr (fun q h1_ h2_ => (hq58 q (by omega)))
            have kp66 : tz_RoX cs f57 (B + 177) := hRoX.fr (fun q h1_ h2_ => (hq58 q (by omega)))
            have e9 : sp_join σ (nI kr33) (nI kr38) x (nI kr43) = tz_an σ (-100001) := by simp only [sp_join, hpk33, hpk38, hpk43]; rw [if_neg (by rw [← hlkr33]; grind)]
            rw [e9]
            exact ⟨rfl, ⟨R, o, mp, ml, nx, St, Sb, ⟨hs58, kp62, kp63, kp64, ⟨_, _, ⟨k59, k60⟩, htn⟩, ⟨_, _, k61⟩, kp65, kp66⟩, hag.fr (fun q h9 => (hq58 q (by omega))), hnx, hH.fr (fun q h9 => (hq58 q (by omega))), hQ⟩, (fun q hh => by rw [hq58 q (by omega)])⟩
      · skip
        rw [h43]
        have hpk43 := tz_pk_none h43
        refine tz_aload_n C_ 0 rfl rfl td_X_join_46 ?_
        refine tz_ldc C_ tw_273 td_X_join_47 ?_
        refine tz_cV C_ tmi_X_answer tw_276 tw_0 tw_274 hB0 rfl (As := [.int (-100001)]) (by exact (ct_X_answer (v := -100001) hB0)) rfl (rest := []) rfl (by decide) (Nat.le_of_ble_eq_true rfl) td_X_join_49 (st1 := [.int (-100001)]) rfl (fun f67 hF67 => ?_)
        obtain ⟨hs68, hq68⟩ := hF67
        refine tz_riret C_ hr_ hk_ hQ_ rfl td_X_join_52 ?_
        have k69 : f67 (B + 166) = some (tz_obj 9 [.ref (B + 166 + 1), .int (nI tn)]) := ((hq68 _ (by omega)).trans hTu.1)
        have k70 : f67 (B + 166 + 1) = some (tz_ints cs 120 tg) := ((hq68 _ (by omega)).trans hTu.2)
        have k71 : f67 (B + 168) = some (tz_obj 0 [.int zA, .int (nI kA)]) := ((hq68 _ (by omega)).trans hAl)
        have kp72 : tz_Tape cs f67 (B + 1) R (tz_cur σ).2.1 o mp ml := hT.fr (fun q h1_ h2_ => (hq68 q (by omega)))
        have kp73 : tz_Hist cs f67 (B + 15) nx σ.2.1 St := hHi.fr (fun q h1_ h2_ => (hq68 q (by omega)))
        have kp74 : tz_Shs cs f67 (B + 157) Sb := hShs.fr (fun q h1_ h2_ => (hq68 q (by omega)))
        have kp75 : tz_PlX cs f67 (B + 169) := hPlX.fr (fun q h1_ h2_ => (hq68 q (by omega)))
        have kp76 : tz_RoX cs f67 (B + 177) := hRoX.fr (fun q h1_ h2_ => (hq68 q (by omega)))
        have e9 : sp_join σ (nI kr33) (nI kr38) x p3 = tz_an σ (-100001) := by simp only [sp_join, hpk33, hpk38, hpk43]
        rw [e9]
        exact ⟨rfl, ⟨R, o, mp, ml, nx, St, Sb, ⟨hs68, kp72, kp73, kp74, ⟨_, _, ⟨k69, k70⟩, htn⟩, ⟨_, _, k71⟩, kp75, kp76⟩, hag.fr (fun q h9 => (hq68 q (by omega))), hnx, hH.fr (fun q h9 => (hq68 q (by omega))), hQ⟩, (fun q hh => by rw [hq68 q (by omega)])⟩
