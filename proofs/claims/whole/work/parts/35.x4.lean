abbrev rm_X_lay : Room := { frames := 4, cells := 0, slots := 0, locals := 85 }
set_option maxHeartbeats 4000000 in
set_option maxRecDepth 100000 in
theorem ct_X_lay {l : Launch} {A : Nat → Prop} {D : va_G} {cs : Nat → ClassId} {sz : Nat} {f : tz_PH} {B L0 : Nat} {σ : tz_SG} (hX : tz_AX cs L0 f B σ) (hW : tz_WF σ) (hB : B + 179 ≤ L0) {p s : Int32} : tz_CN l tyX_lay prog_1_method_11_code 6 (some (.int)) rm_X_lay 0 0 A D cs sz [.ref B, .int p, .int s] f (some (.int (sp_lay σ p s).1)) (fun f' => tz_AX cs L0 f' B (sp_lay σ p s).2 ∧ ∀ q, (q < B ∨ B + 179 ≤ q) → f' q = f q) := by
  refine tz_C.ofB (lv0 := [(0, .ref B), (1, .int p), (2, .int s)]) (plainFor_of_name (by decide)) (Nat.le_of_ble_eq_true rfl) rfl ?_
  intro p_ e_ s_ m_ ar_ be_ me_ c_ Q_ C_ hr_ hk_ hnm_ hz_ hQ_
  obtain ⟨R, o, mp, ml, nx, St, Sb, hXB, hag, hnx, hH, hQ⟩ := hX
  obtain ⟨hB0, hT, hHi, hShs, hTuX, hAlX, hPlX, hRoX⟩ := hXB
  have hTu9 := hTuX
  obtain ⟨tn, tg, hTu, htn⟩ := hTu9
  have hAl9 := hAlX
  obtain ⟨zA, kA, hAl⟩ := hAl9
  have hPl9 := hPlX
  obtain ⟨pr, px, pfo, pz, pk, ptn, ptg, pn, pg, pn2, pg2, hPl, hpn, hptn⟩ := hPl9
  have hRo9 := hRoX
  obtain ⟨jn, jg, hRo, hjn⟩ := hRo9
  have hrx := hPl.2.2.2.2.2
  have hRn : ∀ p, p < 4 → (R p).1 ≤ 120 := fun p hp => by rw [(hag.1 p hp).1]; exact (hW.cur.1 p hp).1
  have hnl : (tz_cur σ).2.1 ≤ 8 := hW.cur.2.1
  have hkp : σ.2.1 ≤ 20 := hW.1
  have hSn : ∀ s, s < 4 → (Sb s).2.1 ≤ 120 := fun s hs => by rw [(hQ s hs).2.1]; exact (hW.2.2 s hs).1
  refine tz_aload_n C_ 0 rfl rfl td_X_lay_0 ?_
  refine tz_get C_ tci_X 0 (by decide) tw_240 hB0 rfl td_X_lay_1 ?_
  refine tz_iload_n C_ 1 rfl rfl td_X_lay_4 ?_
  refine tz_rV C_ tmi_T_rowAt tw_270 tw_271 tw_269 hT.1 rfl (As := [.int p]) (by exact (ct_T_rowAt hT)) rfl (rest := []) rfl (by decide) (Nat.le_of_ble_eq_true rfl) td_X_lay_5 (st1 := [va_rf (tz_rof (B + 1) p)]) rfl ?_
  refine tz_astore_nQ C_ (lv' := [(0, .ref B), (1, .int p), (2, .int s), (3, va_rf (tz_rof (B + 1) p))]) [1, 2, 3, 0] rfl (by decide) rfl td_X_lay_8 ?_
  refine tz_aload_n C_ 0 rfl rfl td_X_lay_9 ?_
  refine tz_iload_n C_ 2 rfl rfl td_X_lay_10 ?_
  refine tz_rV C_ tmi_X_sheetAt tw_398 tw_2 tw_396 hB0 rfl (As := [.int s]) (by exact (ct_X_sheetAt hB0 hShs.1)) rfl (rest := []) rfl (by decide) (Nat.le_of_ble_eq_true rfl) td_X_lay_11 (st1 := [va_rf (tz_qof (B + 157) s)]) rfl ?_
  refine tz_astoreQ C_ (lv' := [(0, .ref B), (1, .int p), (2, .int s), (3, va_rf (tz_rof (B + 1) p)), (4, va_rf (tz_qof (B + 157) s))]) [1, 2, 3, 4, 0] (by decide) (by generalize tz_rof (B + 1) p = z9; cases z9 <;> rfl) td_X_lay_14 ?_
  refine tz_aload_nQ C_ 3 rfl rfl td_X_lay_16 ?_
  refine tz_ifnull C_ td_X_lay_17 (fun h17 => ?_) (fun q17 h17 => ?_)
  · skip
    rw [h17]
    have hpk17 := tz_pk_none h17
    refine tz_aload_n C_ 0 rfl rfl td_X_lay_25 ?_
    refine tz_ldc C_ tw_273 td_X_lay_26 ?_
    refine tz_cV C_ tmi_X_answer tw_276 tw_0 tw_274 hB0 rfl (As := [.int (-100001)]) (by exact (ct_X_answer (v := -100001) hB0)) rfl (rest := []) rfl (by decide) (Nat.le_of_ble_eq_true rfl) td_X_lay_28 (st1 := [.int (-100001)]) rfl (fun f1 hF1 => ?_)
    obtain ⟨hs2, hq2⟩ := hF1
    refine tz_riret C_ hr_ hk_ hQ_ rfl td_X_lay_31 ?_
    have k3 : f1 (B + 166) = some (tz_obj 9 [.ref (B + 166 + 1), .int (nI tn)]) := ((hq2 _ (by omega)).trans hTu.1)
    have k4 : f1 (B + 166 + 1) = some (tz_ints cs 120 tg) := ((hq2 _ (by omega)).trans hTu.2)
    have k5 : f1 (B + 168) = some (tz_obj 0 [.int zA, .int (nI kA)]) := ((hq2 _ (by omega)).trans hAl)
    have kp6 : tz_Tape cs f1 (B + 1) R (tz_cur σ).2.1 o mp ml := hT.fr (fun q h1_ h2_ => (hq2 q (by omega)))
    have kp7 : tz_Hist cs f1 (B + 15) nx σ.2.1 St := hHi.fr (fun q h1_ h2_ => (hq2 q (by omega)))
    have kp8 : tz_Shs cs f1 (B + 157) Sb := hShs.fr (fun q h1_ h2_ => (hq2 q (by omega)))
    have kp9 : tz_PlX cs f1 (B + 169) := hPlX.fr (fun q h1_ h2_ => (hq2 q (by omega)))
    have kp10 : tz_RoX cs f1 (B + 177) := hRoX.fr (fun q h1_ h2_ => (hq2 q (by omega)))
    have e9 : sp_lay σ p s = tz_an σ (-100001) := by simp only [sp_lay, hpk17]
    rw [e9]
    exact ⟨rfl, ⟨R, o, mp, ml, nx, St, Sb, ⟨hs2, kp6, kp7, kp8, ⟨_, _, ⟨k3, k4⟩, htn⟩, ⟨_, _, k5⟩, kp9, kp10⟩, hag.fr (fun q h9 => (hq2 q (by omega))), hnx, hH.fr (fun q h9 => (hq2 q (by omega))), hQ⟩, (fun q hh => by rw [hq2 q (by omega)])⟩
  · skip
    obtain ⟨kr17, hkr17, ekr17, eqkr17⟩ := tz_rof_some h17
    rw [h17]
    subst eqkr17
    subst ekr17
    have hpk17 := tz_pk_N hkr17
    have hRnkr17 := hRn kr17 hkr17
    have hlkr17 : (R kr17).1 = tz_ln σ kr17 := (hag.1 kr17 hkr17).1
    have hgkr17 : ∀ j, j < tz_ln σ kr17 → (R kr17).2 j = tz_sg σ kr17 j := (hag.1 kr17 hkr17).2
    have hakr17 : tz_at (R kr17).1 (R kr17).2 = tz_at (tz_ln σ kr17) (tz_sg σ kr17) := tz_agR.at hag.1 hkr17 (hW.cur.1 kr17 hkr17).1
    have hckr17 : tz_ln σ kr17 ≤ 120 := (hW.cur.1 kr17 hkr17).1
    refine tz_aloadQ C_ 4 rfl td_X_lay_20 ?_
    refine tz_ifnonnull C_ td_X_lay_22 (fun q22 h22 => ?_) (fun h22 => ?_)
    · skip
      obtain ⟨kq22, hkq22, ekq22, eqkq22⟩ := tz_qof_some h22
      rw [h22]
      subst eqkq22
      subst ekq22
      have hpk22 := tz_pk_N hkq22
      have hSnkq22 := hSn kq22 hkq22
      have hbkq22 : (Sb kq22).1 = tz_sb σ kq22 := (hQ kq22 hkq22).1
      have hnkq22 : (Sb kq22).2.1 = tz_sn σ kq22 := (hQ kq22 hkq22).2.1
      have hvkq22 : ∀ j, j < tz_sn σ kq22 → (Sb kq22).2.2 j = tz_sv σ kq22 j := (hQ kq22 hkq22).2.2
      refine tz_aload C_ 4 rfl td_X_lay_32 ?_
      refine tz_rV C_ tmi_Q_isMissing tw_420 tw_421 tw_419 (hShs.2 kq22 hkq22).1 rfl (As := []) (by exact (ct_Q_isMissing (b := (Sb kq22).1) (n := (Sb kq22).2.1) (g := (Sb kq22).2.2) ⟨(hShs.2 kq22 hkq22).1, (hShs.2 kq22 hkq22).2⟩)) rfl (rest := []) rfl (by decide) (Nat.le_of_ble_eq_true rfl) td_X_lay_34 (st1 := [.int (tz_p (((Sb kq22).1) = 0))]) rfl ?_
      refine tz_if_eq C_ td_X_lay_37 (fun h37 => ?_) (fun h37 => ?_)
      · skip
        replace h37 := tz_p0.mp h37
        refine tz_aload_n C_ 0 rfl rfl td_X_lay_47 ?_
        refine tz_get C_ tci_X 1 (by decide) tw_241 hB0 rfl td_X_lay_48 ?_
        refine tz_aload_n C_ 0 rfl rfl td_X_lay_51 ?_
        refine tz_get C_ tci_X 0 (by decide) tw_240 hB0 rfl td_X_lay_52 ?_
        refine tz_iload_n C_ 1 rfl rfl td_X_lay_55 ?_
        refine tz_cV C_ tmi_H_keep tw_280 tw_281 tw_279 hHi.1 rfl (As := [.ref (B + 1), .int (nI kr17)]) (by exact (ct_H_keep hHi hnx hkp hT (by omega) (hag.2.2.1.fr (fun q h9 => rfl)) (by omega))) rfl (rest := []) rfl (by decide) (Nat.le_of_ble_eq_true rfl) td_X_lay_56 (st1 := []) rfl (fun f11 hF11 => ?_)
        obtain ⟨⟨sK, hSK, hpK, hhK⟩, hqK⟩ := hF11
        refine tz_aload_n C_ 3 rfl rfl td_X_lay_59 ?_
        have k12 : f11 (B + 1 + 6 + 2 * kr17) = some (tz_obj 5 [.ref (B + 1 + 6 + 2 * kr17 + 1), .int (nI (R kr17).1)]) := ((hqK _ (by omega)).trans (hT.2.2.2.2.2 kr17 hkr17).1)
        have k13 : f11 (B + 1 + 6 + 2 * kr17 + 1) = some (tz_ints cs 120 ((R kr17).2)) := ((hqK _ (by omega)).trans (hT.2.2.2.2.2 kr17 hkr17).2)
        refine tz_cV C_ tmi_R_empty tw_453 tw_454 tw_452 k12 rfl (As := []) (by exact (ct_R_empty (n := (R kr17).1) (g := (R kr17).2) ⟨k12, k13⟩)) rfl (rest := []) rfl (by decide) (Nat.le_of_ble_eq_true rfl) td_X_lay_60 (st1 := []) rfl (fun f14 hF14 => ?_)
        obtain ⟨hP15, hq15⟩ := hF14
        refine tz_iconst C_ (v := 0) (by decide) td_X_lay_63 ?_
        refine tz_istore C_ (lv' := [(0, .ref B), (1, .int (nI kr17)), (2, .int (nI kq22)), (3, .ref (B + 1 + 6 + 2 * kr17)), (4, .ref (B + 157 + 1 + 2 * kq22)), (5, .int 0)]) [1, 2, 3, 4, 5, 0] (by decide) rfl td_X_lay_64 ?_
        have k16 : f14 B = some (tz_obj 10 [.ref (B + 1), .ref (B + 15), .ref (B + 157), .ref (B + 166), .ref (B + 168), .ref (B + 169), .ref (B + 177), .int σ.2.2.2]) := ((hq15 _ (by omega)).trans ((hqK _ (by omega)).trans hB0))
        have kp17 : tz_Hist cs f14 (B + 15) ((nx + 1) % 20) (min (σ.2.1 + 1) 20) (va_up St nx sK) := hSK.fr (fun q h1_ h2_ => (hq15 q (by omega)))
        have loop66 : ∀ (kk66 : Nat) (i : Nat) (fL : tz_PH), (fL B = some (tz_obj 10 [.ref (B + 1), .ref (B + 15), .ref (B + 157), .ref (B + 166), .ref (B + 168), .ref (B + 169), .ref (B + 177), .int σ.2.2.2])) → (tz_Hist cs fL (B + 15) ((nx + 1) % 20) (min (σ.2.1 + 1) 20) (va_up St nx sK)) → (tz_Row cs fL (B + 1 + 6 + 2 * kr17) i (tz_fl (fun j => tz_smp (Sb kq22).1 ((Sb kq22).2.2 j)) (R kr17).2 i)) → (∀ q, (q < B + 15 ∨ B + 157 ≤ q) ∧ (q < B + 1 + 6 + 2 * kr17 ∨ B + 1 + 6 + 2 * kr17 + 2 ≤ q) → fL q = f q) → (i ≤ (Sb kq22).2.1) → ((Sb kq22).2.1 - i) < kk66 → tz_V p_ l e_ rm_X_lay s_ m_ ar_ be_ me_ c_ Q_ A D 6 fL sz 0 0 66 [(0, .ref B), (1, .int (nI kr17)), (2, .int (nI kq22)), (3, .ref (B + 1 + 6 + 2 * kr17)), (4, .ref (B + 157 + 1 + 2 * kq22)), (5, .int (nI i))] [] := by
          intro kk66
          induction kk66 with
          | zero => intro i fL hB1 hHi1 hR1 hfr hmi hm66; omega
          | succ kk66 ih66 =>
            intro i fL hB1 hHi1 hR1 hfr hmi hm66
            refine tz_iload C_ 5 rfl td_X_lay_66 ?_
            refine tz_aload C_ 4 rfl td_X_lay_68 ?_
            refine tz_rV C_ tmi_Q_length tw_412 tw_413 tw_411 ((hfr _ (by omega)).trans (hShs.2 kq22 hkq22).1) rfl (As := []) (by exact (ct_Q_length (b := (Sb kq22).1) (n := (Sb kq22).2.1) (g := (Sb kq22).2.2) ⟨((hfr _ (by omega)).trans (hShs.2 kq22 hkq22).1), ((hfr _ (by omega)).trans (hShs.2 kq22 hkq22).2)⟩)) rfl (rest := [.int (nI i)]) rfl (by decide) (Nat.le_of_ble_eq_true rfl) td_X_lay_70 (st1 := [.int (nI ((Sb kq22).2.1)), .int (nI i)]) rfl ?_
            refine tz_icmp_ge C_ td_X_lay_73 (fun h73 => ?_) (fun h73 => ?_)
            · skip
              replace h73 := (nI_leI (a := (Sb kq22).2.1) (b := i) (by omega) (by omega)).mp h73
              refine tz_aload_n C_ 3 rfl rfl td_X_lay_93 ?_
              refine tz_rV C_ tmi_R_length tw_308 tw_309 tw_307 hR1.1 rfl (As := []) (by exact (ct_R_length (n := i) (g := tz_fl (fun j => tz_smp (Sb kq22).1 ((Sb kq22).2.2 j)) (R kr17).2 i) ⟨hR1.1, hR1.2⟩)) rfl (rest := []) rfl (by decide) (Nat.le_of_ble_eq_true rfl) td_X_lay_94 (st1 := [.int (nI i)]) rfl ?_
              refine tz_aload_n C_ 3 rfl rfl td_X_lay_97 ?_
              refine tz_rV C_ tmi_R_lostOnes tw_350 tw_351 tw_349 hR1.1 rfl (As := []) (by exact (ct_R_lostOnes (n := i) (g := tz_fl (fun j => tz_smp (Sb kq22).1 ((Sb kq22).2.2 j)) (R kr17).2 i) ⟨hR1.1, hR1.2⟩ (by omega))) rfl (rest := [.int (nI i)]) rfl (by decide) (Nat.le_of_ble_eq_true rfl) td_X_lay_98 (st1 := [.int (nI (tz_ct (fun k => decide ((tz_fl (fun j => tz_smp (Sb kq22).1 ((Sb kq22).2.2 j)) (R kr17).2 i) k = tz_LO)) i)), .int (nI i)]) rfl ?_
              refine tz_isub C_ td_X_lay_101 ?_
              refine tz_riret C_ hr_ hk_ hQ_ rfl td_X_lay_102 ?_
              have e7 : i = (Sb kq22).2.1 := by omega
              have e9 : sp_lay σ (nI kr17) (nI kq22) = ((nI i) - (nI (tz_ct (fun k => decide ((tz_fl (fun j => tz_smp (Sb kq22).1 ((Sb kq22).2.2 j)) (R kr17).2 i) k = tz_LO)) i)), tz_act σ (tz_sr (tz_cur σ) kr17 (tz_sn σ kq22, tz_lyg σ kq22))) := by 
                have a1 : tz_lost (tz_sn σ kq22) (tz_lyg σ kq22) = tz_lost i (tz_fl (fun j => tz_smp (Sb kq22).1 ((Sb kq22).2.2 j)) (R kr17).2 i) := by rw [e7, hnkq22]; exact (tz_lost_cg (fun j hj => by rw [tz_fl_in hj]; simp only [tz_lyg, hbkq22, hvkq22 j hj])).symm
                simp only [sp_lay, hpk17, hpk22]
                rw [if_neg (hbkq22 ▸ h37), a1, ← hnkq22, ← e7]; rfl
              rw [e9]
              refine ⟨(by rfl), tz_AX_row (s7 := sK) hW hB hT hag hnx hH hQ hkr17 hpK hhK (fun q hh => by rw [hfr q (by omega)]) hB1 hHi1 (hShs.fr (fun q a9 b9 => hfr q (by omega))) ⟨_, _, ⟨((hfr _ (by omega)).trans hTu.1), ((hfr _ (by omega)).trans hTu.2)⟩, htn⟩ ⟨_, _, ((hfr _ (by omega)).trans hAl)⟩ (hPlX.fr (fun q a9 b9 => hfr q (by omega))) (hRoX.fr (fun q a9 b9 => hfr q (by omega))) ⟨hR1.1, hR1.2⟩ ?_, (fun q hh => by rw [hfr q (by omega)])⟩
              exact ⟨e7.trans hnkq22, fun j hj => (tz_fl_in (h := (fun j => tz_smp (Sb kq22).1 ((Sb kq22).2.2 j))) (by rw [e7, hnkq22]; exact hj)).trans (by show tz_smp _ _ = tz_smp _ _; rw [hbkq22, hvkq22 j hj])⟩
            · skip
              replace h73 := mt (nI_leI (a := (Sb kq22).2.1) (b := i) (by omega) (by omega)).mpr h73
              refine tz_aload_n C_ 3 rfl rfl td_X_lay_76 ?_
              refine tz_aload C_ 4 rfl td_X_lay_77 ?_
              refine tz_iload C_ 5 rfl td_X_lay_79 ?_
              refine tz_rV C_ tmi_Q_asSample tw_457 tw_458 tw_456 ((hfr _ (by omega)).trans (hShs.2 kq22 hkq22).1) rfl (As := [.int (nI i)]) (by exact (ct_Q_asSample (b := (Sb kq22).1) (n := (Sb kq22).2.1) (g := (Sb kq22).2.2) (k := i) ⟨((hfr _ (by omega)).trans (hShs.2 kq22 hkq22).1), ((hfr _ (by omega)).trans (hShs.2 kq22 hkq22).2)⟩ (by omega) (by omega))) rfl (rest := [.ref (B + 1 + 6 + 2 * kr17)]) rfl (by decide) (Nat.le_of_ble_eq_true rfl) td_X_lay_81 (st1 := [.int (tz_smp ((Sb kq22).1) (((Sb kq22).2.2) i)), .ref (B + 1 + 6 + 2 * kr17)]) rfl ?_
              refine tz_cV C_ tmi_R_add tw_463 tw_464 tw_462 hR1.1 rfl (As := [.int (tz_smp ((Sb kq22).1) (((Sb kq22).2.2) i))]) (by exact (ct_R_add (n := i) (g := tz_fl (fun j => tz_smp (Sb kq22).1 ((Sb kq22).2.2 j)) (R kr17).2 i) ⟨hR1.1, hR1.2⟩ (by omega))) rfl (rest := []) rfl (by decide) (Nat.le_of_ble_eq_true rfl) td_X_lay_84 (st1 := []) rfl (fun f18 hF18 => ?_)
              obtain ⟨hP19, hq19⟩ := hF18
              refine tz_iinc C_ (k := 1) (v := nI (i + 1)) (lv' := [(0, .ref B), (1, .int (nI kr17)), (2, .int (nI kq22)), (3, .ref (B + 1 + 6 + 2 * kr17)), (4, .ref (B + 157 + 1 + 2 * kq22)), (5, .int (nI (i + 1)))]) 5 rfl (nI_1 i) [1, 2, 3, 4, 5, 0] (by decide) rfl td_X_lay_87 ?_
              refine tz_goto C_ td_X_lay_90 ?_
              have k20 : f18 B = some (tz_obj 10 [.ref (B + 1), .ref (B + 15), .ref (B + 157), .ref (B + 166), .ref (B + 168), .ref (B + 169), .ref (B + 177), .int σ.2.2.2]) := ((hq19 _ (by omega)).trans hB1)
              have kp21 : tz_Hist cs f18 (B + 15) ((nx + 1) % 20) (min (σ.2.1 + 1) 20) (va_up St nx sK) := hHi1.fr (fun q h1_ h2_ => (hq19 q (by omega)))
              exact ih66 (i + 1) f18 k20 kp21 (⟨hP19.1, tz_flr hP19.2 rfl⟩) (fun q hh => by rw [hq19 q (by omega), hfr q (by omega)]) (by omega) (by omega)
        exact loop66 _ 0 f14 k16 kp17 (by rw [tz_fl_0]; exact ⟨hP15.1, hP15.2⟩) (fun q hh => by rw [hq15 q (by omega), hqK q (by omega)]) (Nat.zero_le _) (Nat.lt_succ_self _)
      · skip
        replace h37 := tz_p1.mp h37
        refine tz_aload_n C_ 0 rfl rfl td_X_lay_40 ?_
        refine tz_ldc C_ tw_423 td_X_lay_41 ?_
        refine tz_cV C_ tmi_X_answer tw_276 tw_0 tw_274 hB0 rfl (As := [.int (-100002)]) (by exact (ct_X_answer (v := -100002) hB0)) rfl (rest := []) rfl (by decide) (Nat.le_of_ble_eq_true rfl) td_X_lay_43 (st1 := [.int (-100002)]) rfl (fun f22 hF22 => ?_)
        obtain ⟨hs23, hq23⟩ := hF22
        refine tz_riret C_ hr_ hk_ hQ_ rfl td_X_lay_46 ?_
        have k24 : f22 (B + 166) = some (tz_obj 9 [.ref (B + 166 + 1), .int (nI tn)]) := ((hq23 _ (by omega)).trans hTu.1)
        have k25 : f22 (B + 166 + 1) = some (tz_ints cs 120 tg) := ((hq23 _ (by omega)).trans hTu.2)
        have k26 : f22 (B + 168) = some (tz_obj 0 [.int zA, .int (nI kA)]) := ((hq23 _ (by omega)).trans hAl)
        have kp27 : tz_Tape cs f22 (B + 1) R (tz_cur σ).2.1 o mp ml := hT.fr (fun q h1_ h2_ => (hq23 q (by omega)))
        have kp28 : tz_Hist cs f22 (B + 15) nx σ.2.1 St := hHi.fr (fun q h1_ h2_ => (hq23 q (by omega)))
        have kp29 : tz_Shs cs f22 (B + 157) Sb := hShs.fr (fun q h1_ h2_ => (hq23 q (by omega)))
        have kp30 : tz_PlX cs f22 (B + 169) := hPlX.fr (fun q h1_ h2_ => (hq23 q (by omega)))
        have kp31 : tz_RoX cs f22 (B + 177) := hRoX.fr (fun q h1_ h2_ => (hq23 q (by omega)))
        have e9 : sp_lay σ (nI kr17) (nI kq22) = tz_an σ (-100002) := by simp only [sp_lay, hpk17, hpk22]; rw [if_pos (hbkq22 ▸ h37)]
        rw [e9]
        exact ⟨rfl, ⟨R, o, mp, ml, nx, St, Sb, ⟨hs23, kp27, kp28, kp29, ⟨_, _, ⟨k24, k25⟩, htn⟩, ⟨_, _, k26⟩, kp30, kp31⟩, hag.fr (fun q h9 => (hq23 q (by omega))), hnx, hH.fr (fun q h9 => (hq23 q (by omega))), hQ⟩, (fun q hh => by rw [hq23 q (by omega)])⟩
    · skip
      rw [h22]
      have hpk22 := tz_qpk_none h22
      refine tz_aload_n C_ 0 rfl rfl td_X_lay_25 ?_
      refine tz_ldc C_ tw_273 td_X_lay_26 ?_
      refine tz_cV C_ tmi_X_answer tw_276 tw_0 tw_274 hB0 rfl (As := [.int (-100001)]) (by exact (ct_X_answer (v := -100001) hB0)) rfl (rest := []) rfl (by decide) (Nat.le_of_ble_eq_true rfl) td_X_lay_28 (st1 := [.int (-100001)]) rfl (fun f32 hF32 => ?_)
      obtain ⟨hs33, hq33⟩ := hF32
      refine tz_riret C_ hr_ hk_ hQ_ rfl td_X_lay_31 ?_
      have k34 : f32 (B + 166) = some (tz_obj 9 [.ref (B + 166 + 1), .int (nI tn)]) := ((hq33 _ (by omega)).trans hTu.1)
      have k35 : f32 (B + 166 + 1) = some (tz_ints cs 120 tg) := ((hq33 _ (by omega)).trans hTu.2)
      have k36 : f32 (B + 168) = some (tz_obj 0 [.int zA, .int (nI kA)]) := ((hq33 _ (by omega)).trans hAl)
      have kp37 : tz_Tape cs f32 (B + 1) R (tz_cur σ).2.1 o mp ml := hT.fr (fun q h1_ h2_ => (hq33 q (by omega)))
      have kp38 : tz_Hist cs f32 (B + 15) nx σ.2.1 St := hHi.fr (fun q h1_ h2_ => (hq33 q (by omega)))
      have kp39 : tz_Shs cs f32 (B + 157) Sb := hShs.fr (fun q h1_ h2_ => (hq33 q (by omega)))
      have kp40 : tz_PlX cs f32 (B + 169) := hPlX.fr (fun q h1_ h2_ => (hq33 q (by omega)))
      have kp41 : tz_RoX cs f32 (B + 177) := hRoX.fr (fun q h1_ h2_ => (hq33 q (by omega)))
      have e9 : sp_lay σ (nI kr17) s = tz_an σ (-100001) := by simp only [sp_lay, hpk17, hpk22]
      rw [e9]
      exact ⟨rfl, ⟨R, o, mp, ml, nx, St, Sb, ⟨hs33, kp37, kp38, kp39, ⟨_, _, ⟨k34, k35⟩, htn⟩, ⟨_, _, k36⟩, kp40, kp41⟩, hag.fr (fun q h9 => (hq33 q (by omega))), hnx, hH.fr (fun q h9 => (hq33 q (by omega))), hQ⟩, (fun q hh => by rw [hq33 q (by omega)])⟩


abbrev tz_nlr (s : tz_SG) : Nat := (tz_cur s).2.1
abbrev tz_lyr (s : tz_SG) : Nat → tz_V4 := (tz_cur s).2.2.1
def tz_lk (s : tz_SG) (i : Int32) : Option Nat := if 0 ≤ i ∧ i < nI (tz_nlr s) then some i.toNatClampNeg else none
def tz_sl (t : tz_TS) (n : Nat) (lay : Nat → tz_V4) : tz_TS := (t.1, n, lay, t.2.2.2)
def tz_rml (lay : Nat → tz_V4) (t n : Nat) : Nat → tz_V4 := fun k => if t ≤ k ∧ k < n - 1 then lay (k + 1) else lay k
def tz_inl (lay : Nat → tz_V4) (n t : Nat) (v : tz_V4) : Nat → tz_V4 := fun k => if k = t then v else if t < k ∧ k ≤ n then lay (k - 1) else lay k
theorem tz_lk_N {s : tz_SG} {k : Nat} (h : k < tz_nlr s) (h8 : tz_nlr s ≤ 8) : tz_lk s (nI k) = some k := by
  unfold tz_lk
  rw [if_pos ⟨nI_pos' (by omega), nI_lt h (by omega)⟩, nI_clamp (by omega)]
theorem tz_oat_some {n q : Nat} {o : Nat → Option Nat} {i : Int32} (hn : n ≤ 8) (h : tz_oat n o i = some q) : ∃ k, k < n ∧ i = nI k ∧ o k = some q := by
  unfold tz_oat at h
  split at h
  · rename_i hp
    obtain ⟨j, hj, e⟩ := vp_in_of (x := i) (n := n) (tz_inI (tz_le_nlt hp.1) hp.2 (by omega)) (by omega)
    refine ⟨j, hj, e, ?_⟩
    rw [e, nI_clamp (by omega)] at h
    exact h
  · cases h
theorem tz_lk_none {s : tz_SG} {L0 : Nat} {f : tz_PH} {o : Nat → Option Nat} {i : Int32} (h8 : tz_nlr s ≤ 8) (hL : tz_Lv L0 f o (tz_nlr s) (tz_lyr s)) (h : tz_oat (tz_nlr s) o i = none) : tz_lk s i = none := by
  unfold tz_lk
  split
  · rename_i hp
    obtain ⟨j, hj, e⟩ := vp_in_of (x := i) (n := tz_nlr s) (tz_inI (tz_le_nlt hp.1) hp.2 (by omega)) (by omega)
    unfold tz_oat at h
    rw [if_pos hp, e, nI_clamp (by omega)] at h
    obtain ⟨b, hb, -⟩ := hL j hj
    rw [hb] at h
    cases h
  · rfl
theorem tz_Lv.rem {L0 n a : Nat} {f : tz_PH} {o : Nat → Option Nat} {lay : Nat → tz_V4} (h : tz_Lv L0 f o n lay) : tz_Lv L0 f (tz_remj o a (n - 1)) (n - 1) (tz_rml lay a n) := by
  intro k hk
  unfold tz_remj tz_rml
  by_cases e : a ≤ k ∧ k < n - 1
  · rw [if_pos e, if_pos e]; exact h (k + 1) (by omega)
  · rw [if_neg e, if_neg e]; exact h k (by omega)
theorem tz_okL.rem {L0 n a : Nat} {f : tz_PH} {o : Nat → Option Nat} (h : tz_okL L0 f o) (hn : n ≤ 8) : tz_okL L0 f (tz_remj o a (n - 1)) := by
  intro k hk b hb
  unfold tz_remj at hb
  by_cases e : a ≤ k ∧ k < n - 1
  · rw [if_pos e] at hb; exact h (k + 1) (by omega) b hb
  · rw [if_neg e] at hb; exact h k hk b hb
theorem tz_Lv.ins {L0 n t b : Nat} {f : tz_PH} {o : Nat → Option Nat} {lay : Nat → tz_V4} {v : tz_V4} (h : tz_Lv L0 f o n lay) (ht : t ≤ n) (hb : L0 ≤ b) (hv : f b = some (tz_lay v)) : tz_Lv L0 f (tz_ins o n t b) (n + 1) (tz_inl lay n t v) := by
  intro k hk
  unfold tz_ins tz_inl va_up
  by_cases e : k = t
  · rw [if_pos e, if_pos e]; exact ⟨b, rfl, hb, hv⟩
  · rw [if_neg e, if_neg e]
    unfold tz_insj
    by_cases e2 : t < k ∧ k ≤ n
    · rw [if_pos e2, if_pos e2]; exact h (k - 1) (by omega)
    · rw [if_neg e2, if_neg e2]; exact h k (by omega)
theorem tz_okL.ins {L0 n t b : Nat} {f : tz_PH} {o : Nat → Option Nat} {v : tz_V4} (h : tz_okL L0 f o) (hb : L0 ≤ b) (hv : f b = some (tz_lay v)) : tz_okL L0 f (tz_ins o n t b) := by
  intro k hk c hc
  unfold tz_ins va_up at hc
  by_cases e : k = t
  · rw [if_pos e] at hc; cases hc; exact ⟨hb, v, hv⟩
  · rw [if_neg e] at hc
    unfold tz_insj at hc
    by_cases e2 : t < k ∧ k ≤ n
    · rw [if_pos e2] at hc; exact h (k - 1) (by omega) c hc
    · rw [if_neg e2] at hc; exact h k hk c hc
theorem tz_Lv.up {L0 n t b : Nat} {f : tz_PH} {o : Nat → Option Nat} {lay : Nat → tz_V4} {v : tz_V4} (h : tz_Lv L0 f o n lay) (hb : L0 ≤ b) (hv : f b = some (tz_lay v)) : tz_Lv L0 f (va_up o t (some b)) n (va_up lay t v) := by
  intro k hk
  unfold va_up
  by_cases e : k = t
  · rw [if_pos e, if_pos e]; exact ⟨b, rfl, hb, hv⟩
  · rw [if_neg e, if_neg e]; exact h k hk
theorem tz_okL.up {L0 t b : Nat} {f : tz_PH} {o : Nat → Option Nat} {v : tz_V4} (h : tz_okL L0 f o) (hb : L0 ≤ b) (hv : f b = some (tz_lay v)) : tz_okL L0 f (va_up o t (some b)) := by
  intro k hk c hc
  unfold va_up at hc
  by_cases e : k = t
  · rw [if_pos e] at hc; cases hc; exact ⟨hb, v, hv⟩
  · rw [if_neg e] at hc; exact h k hk c hc
theorem tz_Tape.lay {cs : Nat → ClassId} {f f' : tz_PH} {t nl n' : Nat} {R : tz_RR} {o o' : Nat → Option Nat} {mp ml : Nat → Int32} (h : tz_Tape cs f t R nl o mp ml) (hL : tz_Ly cs f' (t + 2) n' o') (hq : ∀ q, (t ≤ q ∧ q < t + 14) ∧ (q < t + 2 ∨ t + 2 + 2 ≤ q) → f' q = f q) : tz_Tape cs f' t R n' o' mp ml := by
  obtain ⟨h1, h2, h3, h4, h5, h6⟩ := h
  exact ⟨(hq _ (by omega)).trans h1, (hq _ (by omega)).trans h2, hL, (hq _ (by omega)).trans h4, (hq _ (by omega)).trans h5, fun p hp => (h6 p hp).fr (fun q a b => hq q (by omega))⟩
theorem tz_Tape.mark {cs : Nat → ClassId} {f f' : tz_PH} {t nl : Nat} {R : tz_RR} {o : Nat → Option Nat} {mp ml mp' ml' : Nat → Int32} (h : tz_Tape cs f t R nl o mp ml) (hm : f' (t + 4) = some (tz_ints cs 6 mp')) (hl : f' (t + 5) = some (tz_ints cs 6 ml')) (hq : ∀ q, (t ≤ q ∧ q < t + 14) ∧ (q ≠ t + 4 ∧ q ≠ t + 5) → f' q = f q) : tz_Tape cs f' t R nl o mp' ml' := by
  obtain ⟨h1, h2, h3, h4, h5, h6⟩ := h
  exact ⟨(hq _ (by omega)).trans h1, (hq _ (by omega)).trans h2, h3.fr (fun q a b => hq q (by omega)), hm, hl, fun p hp => (h6 p hp).fr (fun q a b => hq q (by omega))⟩
/-- behind an act that changed no pass -/
theorem tz_AX_N {cs : Nat → ClassId} {L0 B nx : Nat} {f f' : tz_PH} {s : tz_SG} {R : tz_RR} {o o' : Nat → Option Nat} {mp ml mp' ml' : Nat → Int32} {St : Nat → tz_S7} {Sb : Nat → Int32 × Nat × (Nat → Int32)} {s7 : tz_S7} {t' : tz_TS} (hW : tz_WF s) (hag : tz_agT L0 f R o mp ml (tz_cur s)) (hnx : nx < 20) (hH : tz_agH L0 f nx s.2.1 St s.1) (hQ : tz_agQ Sb s.2.2.1) (hs : s7.1 = -1) (hh : tz_held R (tz_cur s).2.1 o mp ml (-1) s7.2.1 s7.2.2.1 s7.2.2.2.1 s7.2.2.2.2.1 s7.2.2.2.2.2.1 s7.2.2.2.2.2.2)
    (hq : ∀ q, L0 ≤ q → f q ≠ none → f' q = f q) (h0 : f' B = some (tz_obj 10 [.ref (B + 1), .ref (B + 15), .ref (B + 157), .ref (B + 166), .ref (B + 168), .ref (B + 169), .ref (B + 177), .int s.2.2.2])) (hT : tz_Tape cs f' (B + 1) R t'.2.1 o' mp' ml') (h1 : tz_Hist cs f' (B + 15) ((nx + 1) % 20) (min (s.2.1 + 1) 20) (va_up St nx s7)) (h2 : tz_Shs cs f' (B + 157) Sb) (h3 : tz_TuX cs f' (B + 166)) (h4 : tz_AlX f' (B + 168)) (h5 : tz_PlX cs f' (B + 169)) (h6 : tz_RoX cs f' (B + 177))
    (ht : t'.1 = (tz_cur s).1) (hL : tz_Lv L0 f' o' t'.2.1 t'.2.2.1) (hok : tz_okL L0 f' o') (hm : tz_agM mp' t'.2.2.2.1) (hl : tz_agM ml' t'.2.2.2.2) : tz_AX cs L0 f' B (tz_act s t') :=
  tz_AX_act (t' := t') hW hag hnx hH hs hh hq (Sb := Sb) (R' := R) (o' := o') (mp' := mp') (ml' := ml') ⟨h0, hT, h1, h2, h3, h4, h5, h6⟩ hQ ⟨by rw [ht]; exact hag.1, hL, hok, hm, hl⟩ (fun k _ _ => by rw [ht])
def sp_layer (s : tz_SG) (k a b : Int32) : tz_AN := if tz_can k a b then (if tz_nlr s < 8 then (nI (tz_nlr s), tz_act s (tz_sl (tz_cur s) (tz_nlr s + 1) (tz_inl (tz_lyr s) (tz_nlr s) (tz_nlr s) (k, a, if k = 2 ∨ k = 5 then b else 0, 1)))) else tz_an s tz_FU) else tz_an s tz_BE
def sp_turnOn (s : tz_SG) (i on : Int32) : tz_AN := match tz_lk s i with
  | none => tz_an s tz_BE
  | some k => (if (tz_lyr s k).2.2.2 = on then 0 else 1, tz_act s (tz_sl (tz_cur s) (tz_nlr s) (va_up (tz_lyr s) k ((tz_lyr s k).1, (tz_lyr s k).2.1, (tz_lyr s k).2.2.1, on))))
def sp_drop (s : tz_SG) (i : Int32) : tz_AN := match tz_lk s i with
  | none => tz_an s tz_BE
  | some k => (nI (tz_nlr s - 1), tz_act s (tz_sl (tz_cur s) (tz_nlr s - 1) (tz_rml (tz_lyr s) k (tz_nlr s))))
def sp_move (s : tz_SG) (i j : Int32) : tz_AN := match tz_lk s i with
  | none => tz_an s tz_BE
  | some a => match tz_lk s j with
    | none => tz_an s tz_BE
    | some b => (1, tz_act s (tz_sl (tz_cur s) (tz_nlr s) (tz_inl (tz_rml (tz_lyr s) a (tz_nlr s)) (tz_nlr s - 1) b (tz_lyr s a))))
def sp_told (s : tz_SG) (i w : Int32) : tz_AN := match tz_lk s i with
  | none => tz_an s tz_BE
  | some k => if w = 0 then ((tz_lyr s k).1, s) else if w = 1 then ((tz_lyr s k).2.1, s) else if w = 2 then ((tz_lyr s k).2.2.1, s) else if w = 3 then ((tz_lyr s k).2.2.2, s) else tz_an s tz_BE
def sp_as (s : tz_SG) (i w : Int32) : tz_AN := match tz_lk s i with
  | none => tz_an s tz_BE
  | some k => if -1 ≤ w ∧ w ≤ 6 then (if tz_isa (tz_lyr s k).1 w then (i, s) else tz_an s tz_KI) else tz_an s tz_BE
def sp_count (s : tz_SG) (w : Int32) : tz_AN := if w = 0 then (nI (tz_nlr s), s) else if w = 1 then (nI (tz_ct (fun k => decide (¬ (tz_lyr s k).2.2.2 = 0)) (tz_nlr s)), s) else if w = 2 then (nI (tz_ct (fun k => decide (¬ (tz_cur s).2.2.2.2 k = -1)) 6), s) else if w = 3 then (s.2.2.2, s) else tz_an s tz_BE
def tz_smk (t : tz_TS) (mp ml : Nat → Int32) : tz_TS := (t.1, t.2.1, t.2.2.1, mp, ml)
def sp_mark (s : tz_SG) (m p i : Int32) : tz_AN := if 0 ≤ m ∧ m < 6 then (match tz_pk p with
  | none => tz_an s tz_BE
  | some k => if i = -1 ∨ (0 ≤ i ∧ i < nI (tz_ln s k)) then (1, tz_act s (tz_smk (tz_cur s) (upd (tz_cur s).2.2.2.1 m.toNatClampNeg p) (upd (tz_cur s).2.2.2.2 m.toNatClampNeg i))) else tz_an s tz_BE) else tz_an s tz_BE
def sp_undo (s : tz_SG) : tz_AN := if s.2.1 = 0 then tz_an s tz_NO else tz_an (s.1, s.2.1 - 1, s.2.2) (nI (s.2.1 - 1))

abbrev rm_X_told : Room := { frames := 1, cells := 0, slots := 0, locals := 21 }
set_option maxHeartbeats 4000000 in
set_option maxRecDepth 100000 in
theorem ct_X_told {l : Launch} {A : Nat → Prop} {D : va_G} {cs : Nat → ClassId} {sz : Nat} {f : tz_PH} {B L0 : Nat} {σ : tz_SG} (hX : tz_AX cs L0 f B σ) (hW : tz_WF σ) (hB : B + 179 ≤ L0) {i w : Int32} : tz_CN l tyX_told prog_1_method_16_code 4 (some (.int)) rm_X_told 0 0 A D cs sz [.ref B, .int i, .int w] f (some (.int (sp_told σ i w).1)) (fun f' => tz_AX cs L0 f' B (sp_told σ i w).2 ∧ ∀ q, (q < B ∨ B + 179 ≤ q) → f' q = f q) := by
  refine tz_C.ofB (lv0 := [(0, .ref B), (1, .int i), (2, .int w)]) (plainFor_of_name (by decide)) (Nat.le_of_ble_eq_true rfl) rfl ?_
  intro p_ e_ s_ m_ ar_ be_ me_ c_ Q_ C_ hr_ hk_ hnm_ hz_ hQ_
  obtain ⟨R, o, mp, ml, nx, St, Sb, hXB, hag, hnx, hH, hQ⟩ := hX
  obtain ⟨hB0, hT, hHi, hShs, hTuX, hAlX, hPlX, hRoX⟩ := hXB
  have hTu9 := hTuX
  obtain ⟨tn, tg, hTu, htn⟩ := hTu9
  have hAl9 := hAlX
  obtain ⟨zA, kA, hAl⟩ := hAl9
  have hPl9 := hPlX
  obtain ⟨pr, px, pfo, pz, pk, ptn, ptg, pn, pg, pn2, pg2, hPl, hpn, hptn⟩ := hPl9
  have hRo9 := hRoX
  obtain ⟨jn, jg, hRo, hjn⟩ := hRo9
  have hrx := hPl.2.2.2.2.2
  have hRn : ∀ p, p < 4 → (R p).1 ≤ 120 := fun p hp => by rw [(hag.1 p hp).1]; exact (hW.cur.1 p hp).1
  have hnl : (tz_cur σ).2.1 ≤ 8 := hW.cur.2.1
  have hkp : σ.2.1 ≤ 20 := hW.1
  have hSn : ∀ s, s < 4 → (Sb s).2.1 ≤ 120 := fun s hs => by rw [(hQ s hs).2.1]; exact (hW.2.2 s hs).1
  refine tz_aload_n C_ 0 rfl rfl td_X_told_0 ?_
  refine tz_get C_ tci_X 0 (by decide) tw_240 hB0 rfl td_X_told_1 ?_
  refine tz_get C_ tci_T 1 (by decide) tw_108 hT.1 rfl td_X_told_4 ?_
  refine tz_iload_n C_ 1 rfl rfl td_X_told_7 ?_
  refine tz_rV C_ tmi_S_at tw_522 tw_523 tw_521 hT.2.2.1.1 rfl (As := [.int i]) (by exact (ct_S_at (n := (tz_cur σ).2.1) (o := o) ⟨hT.2.2.1.1, hT.2.2.1.2⟩ (by omega))) rfl (rest := []) rfl (by decide) (Nat.le_of_ble_eq_true rfl) td_X_told_8 (st1 := [va_rf (tz_oat ((tz_cur σ).2.1) o i)]) rfl ?_
  refine tz_astore_nQ C_ (lv' := [(0, .ref B), (1, .int i), (2, .int w), (3, va_rf (tz_oat ((tz_cur σ).2.1) o i))]) [1, 2, 3, 0] rfl (by decide) rfl td_X_told_11 ?_
  refine tz_aload_nQ C_ 3 rfl rfl td_X_told_12 ?_
  refine tz_ifnonnull C_ td_X_told_13 (fun q13 h13 => ?_) (fun h13 => ?_)
  · skip
    obtain ⟨kl13, hkl13, ekl13, hokl13⟩ := tz_oat_some hnl h13
    try rw [h13]
    subst ekl13
    have hlk13 := tz_lk_N (s := σ) hkl13 hnl
    obtain ⟨bkl13, hbkl13, hLkl13, hvkl13⟩ := hag.2.1 kl13 hkl13
    have ebkl13 : bkl13 = q13 := Option.some.inj (hbkl13.symm.trans hokl13)
    rw [ebkl13] at hvkl13 hLkl13
    have honkl13 := (hW.cur.2.2.1 kl13 hkl13).2
    refine tz_iload_n C_ 2 rfl rfl td_X_told_23 ?_
    by_cases h24_0 : w = 0
    · skip
      refine tz_tableIn C_ td_X_told_24 (off := 32) (tgt := 56) (by rw [h24_0]; decide) (by decide) ?_
      refine tz_aload_n C_ 3 rfl rfl td_X_told_56 ?_
      refine tz_get C_ tci_L 0 (by decide) tw_493 hvkl13 rfl td_X_told_57 ?_
      refine tz_riret C_ hr_ hk_ hQ_ rfl td_X_told_60 ?_
      have e9 : sp_told σ (nI kl13) w = ((tz_lyr σ kl13).1, σ) := by simp only [sp_told, hlk13]; rw [if_pos h24_0]
      rw [e9]
      exact ⟨rfl, ⟨R, o, mp, ml, nx, St, Sb, ⟨hB0, hT, hHi, hShs, ⟨_, _, ⟨hTu.1, hTu.2⟩, htn⟩, ⟨_, _, hAl⟩, hPlX, hRoX⟩, hag.fr (fun q h9 => rfl), hnx, hH.fr (fun q h9 => rfl), hQ⟩, (fun q hh => rfl)⟩
    by_cases h24_1 : w = 1
    · skip
      refine tz_tableIn C_ td_X_told_24 (off := 37) (tgt := 61) (by rw [h24_1]; decide) (by decide) ?_
      refine tz_aload_n C_ 3 rfl rfl td_X_told_61 ?_
      refine tz_get C_ tci_L 1 (by decide) tw_496 hvkl13 rfl td_X_told_62 ?_
      refine tz_riret C_ hr_ hk_ hQ_ rfl td_X_told_65 ?_
      have e9 : sp_told σ (nI kl13) w = ((tz_lyr σ kl13).2.1, σ) := by simp only [sp_told, hlk13]; rw [if_neg h24_0, if_pos h24_1]
      rw [e9]
      exact ⟨rfl, ⟨R, o, mp, ml, nx, St, Sb, ⟨hB0, hT, hHi, hShs, ⟨_, _, ⟨hTu.1, hTu.2⟩, htn⟩, ⟨_, _, hAl⟩, hPlX, hRoX⟩, hag.fr (fun q h9 => rfl), hnx, hH.fr (fun q h9 => rfl), hQ⟩, (fun q hh => rfl)⟩
    by_cases h24_2 : w = 2
    · skip
      refine tz_tableIn C_ td_X_told_24 (off := 42) (tgt := 66) (by rw [h24_2]; decide) (by decide) ?_
      refine tz_aload_n C_ 3 rfl rfl td_X_told_66 ?_
      refine tz_get C_ tci_L 2 (by decide) tw_499 hvkl13 rfl td_X_told_67 ?_
      refine tz_riret C_ hr_ hk_ hQ_ rfl td_X_told_70 ?_
      have e9 : sp_told σ (nI kl13) w = ((tz_lyr σ kl13).2.2.1, σ) := by simp only [sp_told, hlk13]; rw [if_neg h24_0, if_neg h24_1, if_pos h24_2]
      rw [e9]
      exact ⟨rfl, ⟨R, o, mp, ml, nx, St, Sb, ⟨hB0, hT, hHi, hShs, ⟨_, _, ⟨hTu.1, hTu.2⟩, htn⟩, ⟨_, _, hAl⟩, hPlX, hRoX⟩, hag.fr (fun q h9 => rfl), hnx, hH.fr (fun q h9 => rfl), hQ⟩, (fun q hh => rfl)⟩
    by_cases h24_3 : w = 3
    · skip
      refine tz_tableIn C_ td_X_told_24 (off := 47) (tgt := 71) (by rw [h24_3]; decide) (by decide) ?_
      refine tz_aload_n C_ 3 rfl rfl td_X_told_71 ?_
      refine tz_get C_ tci_L 3 (by decide) tw_503 hvkl13 rfl td_X_told_72 ?_
      refine tz_if_eq C_ td_X_told_75 (fun h75 => ?_) (fun h75 => ?_)
      · skip
        refine tz_iconst C_ (v := 0) (by decide) td_X_told_82 ?_
        refine tz_riret C_ hr_ hk_ hQ_ rfl td_X_told_83 ?_
        have e9 : sp_told σ (nI kl13) w = (0, σ) := by simp only [sp_told, hlk13]; rw [if_neg h24_0, if_neg h24_1, if_neg h24_2, if_pos h24_3, h75]
        rw [e9]
        exact ⟨rfl, ⟨R, o, mp, ml, nx, St, Sb, ⟨hB0, hT, hHi, hShs, ⟨_, _, ⟨hTu.1, hTu.2⟩, htn⟩, ⟨_, _, hAl⟩, hPlX, hRoX⟩, hag.fr (fun q h9 => rfl), hnx, hH.fr (fun q h9 => rfl), hQ⟩, (fun q hh => rfl)⟩
      · skip
        refine tz_iconst C_ (v := 1) (by decide) td_X_told_78 ?_
        refine tz_goto C_ td_X_told_79 ?_
        refine tz_riret C_ hr_ hk_ hQ_ rfl td_X_told_83 ?_
        have e9 : sp_told σ (nI kl13) w = (1, σ) := by simp only [sp_told, hlk13]; rw [if_neg h24_0, if_neg h24_1, if_neg h24_2, if_pos h24_3, honkl13.resolve_left h75]
        rw [e9]
        exact ⟨rfl, ⟨R, o, mp, ml, nx, St, Sb, ⟨hB0, hT, hHi, hShs, ⟨_, _, ⟨hTu.1, hTu.2⟩, htn⟩, ⟨_, _, hAl⟩, hPlX, hRoX⟩, hag.fr (fun q h9 => rfl), hnx, hH.fr (fun q h9 => rfl), hQ⟩, (fun q hh => rfl)⟩
    refine tz_tableOut C_ td_X_told_24 (tgt := 84) (by decide) ?_ ?_
    · skip
      have := lv_neT h24_0 (show (0 : Int32).toInt = 0 by decide)
      have := lv_neT h24_1 (show (1 : Int32).toInt = 1 by decide)
      have := lv_neT h24_2 (show (2 : Int32).toInt = 2 by decide)
      have := lv_neT h24_3 (show (3 : Int32).toInt = 3 by decide)
      omega
    refine tz_aload_n C_ 0 rfl rfl td_X_told_84 ?_
    refine tz_ldc C_ tw_273 td_X_told_85 ?_
    refine tz_cV C_ tmi_X_answer tw_276 tw_0 tw_274 hB0 rfl (As := [.int (-100001)]) (by exact (ct_X_answer (v := -100001) hB0)) rfl (rest := []) rfl (by decide) (Nat.le_of_ble_eq_true rfl) td_X_told_87 (st1 := [.int (-100001)]) rfl (fun f1 hF1 => ?_)
    obtain ⟨hs2, hq2⟩ := hF1
    refine tz_riret C_ hr_ hk_ hQ_ rfl td_X_told_90 ?_
    have k3 : f1 (B + 166) = some (tz_obj 9 [.ref (B + 166 + 1), .int (nI tn)]) := ((hq2 _ (by omega)).trans hTu.1)
    have k4 : f1 (B + 166 + 1) = some (tz_ints cs 120 tg) := ((hq2 _ (by omega)).trans hTu.2)
    have k5 : f1 (B + 168) = some (tz_obj 0 [.int zA, .int (nI kA)]) := ((hq2 _ (by omega)).trans hAl)
    have kp6 : tz_Tape cs f1 (B + 1) R (tz_cur σ).2.1 o mp ml := hT.fr (fun q h1_ h2_ => (hq2 q (by omega)))
    have kp7 : tz_Hist cs f1 (B + 15) nx σ.2.1 St := hHi.fr (fun q h1_ h2_ => (hq2 q (by omega)))
    have kp8 : tz_Shs cs f1 (B + 157) Sb := hShs.fr (fun q h1_ h2_ => (hq2 q (by omega)))
    have kp9 : tz_PlX cs f1 (B + 169) := hPlX.fr (fun q h1_ h2_ => (hq2 q (by omega)))
    have kp10 : tz_RoX cs f1 (B + 177) := hRoX.fr (fun q h1_ h2_ => (hq2 q (by omega)))
    have e9 : sp_told σ (nI kl13) w = tz_an σ (-100001) := by simp only [sp_told, hlk13]; rw [if_neg h24_0, if_neg h24_1, if_neg h24_2, if_neg h24_3]
    rw [e9]
    exact ⟨rfl, ⟨R, o, mp, ml, nx, St, Sb, ⟨hs2, kp6, kp7, kp8, ⟨_, _, ⟨k3, k4⟩, htn⟩, ⟨_, _, k5⟩, kp9, kp10⟩, hag.fr (fun q h9 => (hq2 q (by omega))), hnx, hH.fr (fun q h9 => (hq2 q (by omega))), hQ⟩, (fun q hh => by rw [hq2 q (by omega)])⟩
  · skip
    try rw [h13]
    have hlk13 := tz_lk_none (s := σ) hnl hag.2.1 h13
    refine tz_aload_n C_ 0 rfl rfl td_X_told_16 ?_
    refine tz_ldc C_ tw_273 td_X_told_17 ?_
    refine tz_cV C_ tmi_X_answer tw_276 tw_0 tw_274 hB0 rfl (As := [.int (-100001)]) (by exact (ct_X_answer (v := -100001) hB0)) rfl (rest := []) rfl (by decide) (Nat.le_of_ble_eq_true rfl) td_X_told_19 (st1 := [.int (-100001)]) rfl (fun f11 hF11 => ?_)
    obtain ⟨hs12, hq12⟩ := hF11
    refine tz_riret C_ hr_ hk_ hQ_ rfl td_X_told_22 ?_
    have k13 : f11 (B + 166) = some (tz_obj 9 [.ref (B + 166 + 1), .int (nI tn)]) := ((hq12 _ (by omega)).trans hTu.1)
    have k14 : f11 (B + 166 + 1) = some (tz_ints cs 120 tg) := ((hq12 _ (by omega)).trans hTu.2)
    have k15 : f11 (B + 168) = some (tz_obj 0 [.int zA, .int (nI kA)]) := ((hq12 _ (by omega)).trans hAl)
    have kp16 : tz_Tape cs f11 (B + 1) R (tz_cur σ).2.1 o mp ml := hT.fr (fun q h1_ h2_ => (hq12 q (by omega)))
    have kp17 : tz_Hist cs f11 (B + 15) nx σ.2.1 St := hHi.fr (fun q h1_ h2_ => (hq12 q (by omega)))
    have kp18 : tz_Shs cs f11 (B + 157) Sb := hShs.fr (fun q h1_ h2_ => (hq12 q (by omega)))
    have kp19 : tz_PlX cs f11 (B + 169) := hPlX.fr (fun q h1_ h2_ => (hq12 q (by omega)))
    have kp20 : tz_RoX cs f11 (B + 177) := hRoX.fr (fun q h1_ h2_ => (hq12 q (by omega)))
    have e9 : sp_told σ i w = tz_an σ (-100001) := by simp only [sp_told, hlk13]
    rw [e9]
    exact ⟨rfl, ⟨R, o, mp, ml, nx, St, Sb, ⟨hs12, kp16, kp17, kp18, ⟨_, _, ⟨k13, k14⟩, htn⟩, ⟨_, _, k15⟩, kp19, kp20⟩, hag.fr (fun q h9 => (hq12 q (by omega))), hnx, hH.fr (fun q h9 => (hq12 q (by omega))), hQ⟩, (fun q hh => by rw [hq12 q (by omega)])⟩

abbrev rm_X_as : Room := { frames := 1, cells := 0, slots := 0, locals := 21 }
set_option maxHeartbeats 4000000 in
set_option maxRecDepth 100000 in
theorem ct_X_as {l : Launch} {A : Nat → Prop} {D : va_G} {cs : Nat → ClassId} {sz : Nat} {f : tz_PH} {B L0 : Nat} {σ : tz_SG} (hX : tz_AX cs L0 f B σ) (hW : tz_WF σ) (hB : B + 179 ≤ L0) {i w : Int32} : tz_CN l tyX_as prog_1_method_17_code 4 (some (.int)) rm_X_as 0 0 A D cs sz [.ref B, .int i, .int w] f (some (.int (sp_as σ i w).1)) (fun f' => tz_AX cs L0 f' B (sp_as σ i w).2 ∧ ∀ q, (q < B ∨ B + 179 ≤ q) → f' q = f q) := by
  refine tz_C.ofB (lv0 := [(0, .ref B), (1, .int i), (2, .int w)]) (plainFor_of_name (by decide)) (Nat.le_of_ble_eq_true rfl) rfl ?_
  intro p_ e_ s_ m_ ar_ be_ me_ c_ Q_ C_ hr_ hk_ hnm_ hz_ hQ_
  obtain ⟨R, o, mp, ml, nx, St, Sb, hXB, hag, hnx, hH, hQ⟩ := hX
  obtain ⟨hB0, hT, hHi, hShs, hTuX, hAlX, hPlX, hRoX⟩ := hXB
  have hTu9 := hTuX
  obtain ⟨tn, tg, hTu, htn⟩ := hTu9
  have hAl9 := hAlX
  obtain ⟨zA, kA, hAl⟩ := hAl9
  have hPl9 := hPlX
  obtain ⟨pr, px, pfo, pz, pk, ptn, ptg, pn, pg, pn2, pg2, hPl, hpn, hptn⟩ := hPl9
  have hRo9 := hRoX
  obtain ⟨jn, jg, hRo, hjn⟩ := hRo9
  have hrx := hPl.2.2.2.2.2
  have hRn : ∀ p, p < 4 → (R p).1 ≤ 120 := fun p hp => by rw [(hag.1 p hp).1]; exact (hW.cur.1 p hp).1
  have hnl : (tz_cur σ).2.1 ≤ 8 := hW.cur.2.1
  have hkp : σ.2.1 ≤ 20 := hW.1
  have hSn : ∀ s, s < 4 → (Sb s).2.1 ≤ 120 := fun s hs => by rw [(hQ s hs).2.1]; exact (hW.2.2 s hs).1
  refine tz_aload_n C_ 0 rfl rfl td_X_as_0 ?_
  refine tz_get C_ tci_X 0 (by decide) tw_240 hB0 rfl td_X_as_1 ?_
  refine tz_get C_ tci_T 1 (by decide) tw_108 hT.1 rfl td_X_as_4 ?_
  refine tz_iload_n C_ 1 rfl rfl td_X_as_7 ?_
  refine tz_rV C_ tmi_S_at tw_522 tw_523 tw_521 hT.2.2.1.1 rfl (As := [.int i]) (by exact (ct_S_at (n := (tz_cur σ).2.1) (o := o) ⟨hT.2.2.1.1, hT.2.2.1.2⟩ (by omega))) rfl (rest := []) rfl (by decide) (Nat.le_of_ble_eq_true rfl) td_X_as_8 (st1 := [va_rf (tz_oat ((tz_cur σ).2.1) o i)]) rfl ?_
  refine tz_astore_nQ C_ (lv' := [(0, .ref B), (1, .int i), (2, .int w), (3, va_rf (tz_oat ((tz_cur σ).2.1) o i))]) [1, 2, 3, 0] rfl (by decide) rfl td_X_as_11 ?_
  refine tz_aload_nQ C_ 3 rfl rfl td_X_as_12 ?_
  refine tz_ifnull C_ td_X_as_13 (fun h13 => ?_) (fun q13 h13 => ?_)
  · skip
    try rw [h13]
    have hlk13 := tz_lk_none (s := σ) hnl hag.2.1 h13
    refine tz_aload_n C_ 0 rfl rfl td_X_as_27 ?_
    refine tz_ldc C_ tw_273 td_X_as_28 ?_
    refine tz_cV C_ tmi_X_answer tw_276 tw_0 tw_274 hB0 rfl (As := [.int (-100001)]) (by exact (ct_X_answer (v := -100001) hB0)) rfl (rest := []) rfl (by decide) (Nat.le_of_ble_eq_true rfl) td_X_as_30 (st1 := [.int (-100001)]) rfl (fun f1 hF1 => ?_)
    obtain ⟨hs2, hq2⟩ := hF1
    refine tz_riret C_ hr_ hk_ hQ_ rfl td_X_as_33 ?_
    have k3 : f1 (B + 166) = some (tz_obj 9 [.ref (B + 166 + 1), .int (nI tn)]) := ((hq2 _ (by omega)).trans hTu.1)
    have k4 : f1 (B + 166 + 1) = some (tz_ints cs 120 tg) := ((hq2 _ (by omega)).trans hTu.2)
    have k5 : f1 (B + 168) = some (tz_obj 0 [.int zA, .int (nI kA)]) := ((hq2 _ (by omega)).trans hAl)
    have kp6 : tz_Tape cs f1 (B + 1) R (tz_cur σ).2.1 o mp ml := hT.fr (fun q h1_ h2_ => (hq2 q (by omega)))
    have kp7 : tz_Hist cs f1 (B + 15) nx σ.2.1 St := hHi.fr (fun q h1_ h2_ => (hq2 q (by omega)))
    have kp8 : tz_Shs cs f1 (B + 157) Sb := hShs.fr (fun q h1_ h2_ => (hq2 q (by omega)))
    have kp9 : tz_PlX cs f1 (B + 169) := hPlX.fr (fun q h1_ h2_ => (hq2 q (by omega)))
    have kp10 : tz_RoX cs f1 (B + 177) := hRoX.fr (fun q h1_ h2_ => (hq2 q (by omega)))
    have e9 : sp_as σ i w = tz_an σ (-100001) := by simp only [sp_as, hlk13]
    rw [e9]
    exact ⟨rfl, ⟨R, o, mp, ml, nx, St, Sb, ⟨hs2, kp6, kp7, kp8, ⟨_, _, ⟨k3, k4⟩, htn⟩, ⟨_, _, k5⟩, kp9, kp10⟩, hag.fr (fun q h9 => (hq2 q (by omega))), hnx, hH.fr (fun q h9 => (hq2 q (by omega))), hQ⟩, (fun q hh => by rw [hq2 q (by omega)])⟩
  · skip
    obtain ⟨kl13, hkl13, ekl13, hokl13⟩ := tz_oat_some hnl h13
    try rw [h13]
    subst ekl13
    have hlk13 := tz_lk_N (s := σ) hkl13 hnl
    obtain ⟨bkl13, hbkl13, hLkl13, hvkl13⟩ := hag.2.1 kl13 hkl13
    have ebkl13 : bkl13 = q13 := Option.some.inj (hbkl13.symm.trans hokl13)
    rw [ebkl13] at hvkl13 hLkl13
    have honkl13 := (hW.cur.2.2.1 kl13 hkl13).2
    refine tz_iload_n C_ 2 rfl rfl td_X_as_16 ?_
    refine tz_iconst C_ (v := -1) (by decide) td_X_as_17 ?_
    refine tz_icmp_lt C_ td_X_as_18 (fun h18 => ?_) (fun h18 => ?_)
    · skip
      refine tz_aload_n C_ 0 rfl rfl td_X_as_27 ?_
      refine tz_ldc C_ tw_273 td_X_as_28 ?_
      refine tz_cV C_ tmi_X_answer tw_276 tw_0 tw_274 hB0 rfl (As := [.int (-100001)]) (by exact (ct_X_answer (v := -100001) hB0)) rfl (rest := []) rfl (by decide) (Nat.le_of_ble_eq_true rfl) td_X_as_30 (st1 := [.int (-100001)]) rfl (fun f11 hF11 => ?_)
      obtain ⟨hs12, hq12⟩ := hF11
      refine tz_riret C_ hr_ hk_ hQ_ rfl td_X_as_33 ?_
      have k13 : f11 (B + 166) = some (tz_obj 9 [.ref (B + 166 + 1), .int (nI tn)]) := ((hq12 _ (by omega)).trans hTu.1)
      have k14 : f11 (B + 166 + 1) = some (tz_ints cs 120 tg) := ((hq12 _ (by omega)).trans hTu.2)
      have k15 : f11 (B + 168) = some (tz_obj 0 [.int zA, .int (nI kA)]) := ((hq12 _ (by omega)).trans hAl)
      have kp16 : tz_Tape cs f11 (B + 1) R (tz_cur σ).2.1 o mp ml := hT.fr (fun q h1_ h2_ => (hq12 q (by omega)))
      have kp17 : tz_Hist cs f11 (B + 15) nx σ.2.1 St := hHi.fr (fun q h1_ h2_ => (hq12 q (by omega)))
      have kp18 : tz_Shs cs f11 (B + 157) Sb := hShs.fr (fun q h1_ h2_ => (hq12 q (by omega)))
      have kp19 : tz_PlX cs f11 (B + 169) := hPlX.fr (fun q h1_ h2_ => (hq12 q (by omega)))
      have kp20 : tz_RoX cs f11 (B + 177) := hRoX.fr (fun q h1_ h2_ => (hq12 q (by omega)))
      have e9 : sp_as σ (nI kl13) w = tz_an σ (-100001) := by simp only [sp_as, hlk13]; rw [if_neg (by grind)]
      rw [e9]
      exact ⟨rfl, ⟨R, o, mp, ml, nx, St, Sb, ⟨hs12, kp16, kp17, kp18, ⟨_, _, ⟨k13, k14⟩, htn⟩, ⟨_, _, k15⟩, kp19, kp20⟩, hag.fr (fun q h9 => (hq12 q (by omega))), hnx, hH.fr (fun q h9 => (hq12 q (by omega))), hQ⟩, (fun q hh => by rw [hq12 q (by omega)])⟩
    · skip
      refine tz_iload_n C_ 2 rfl rfl td_X_as_21 ?_
      refine tz_bipush C_ (v := 6) (by decide) td_X_as_22 ?_
      refine tz_icmp_le C_ td_X_as_24 (fun h24 => ?_) (fun h24 => ?_)
      · skip
        refine tz_aload_n C_ 3 rfl rfl td_X_as_34 ?_
        refine tz_iload_n C_ 2 rfl rfl td_X_as_35 ?_
        refine tz_rV C_ tmi_L_isA tw_551 tw_552 tw_550 hvkl13 rfl (As := [.int w]) (by exact (ct_L_isA hvkl13)) rfl (rest := []) rfl (by decide) (Nat.le_of_ble_eq_true rfl) td_X_as_36 (st1 := [.int (tz_p (tz_isa ((tz_lyr σ kl13).1) w))]) rfl ?_
        refine tz_if_eq C_ td_X_as_39 (fun h39 => ?_) (fun h39 => ?_)
        · skip
          replace h39 := tz_p0.mp h39
          refine tz_aload_n C_ 0 rfl rfl td_X_as_46 ?_
          refine tz_ldc C_ tw_441 td_X_as_47 ?_
          refine tz_cV C_ tmi_X_answer tw_276 tw_0 tw_274 hB0 rfl (As := [.int (-100004)]) (by exact (ct_X_answer (v := -100004) hB0)) rfl (rest := []) rfl (by decide) (Nat.le_of_ble_eq_true rfl) td_X_as_49 (st1 := [.int (-100004)]) rfl (fun f21 hF21 => ?_)
          obtain ⟨hs22, hq22⟩ := hF21
          refine tz_riret C_ hr_ hk_ hQ_ rfl td_X_as_52 ?_
          have k23 : f21 (B + 166) = some (tz_obj 9 [.ref (B + 166 + 1), .int (nI tn)]) := ((hq22 _ (by omega)).trans hTu.1)
          have k24 : f21 (B + 166 + 1) = some (tz_ints cs 120 tg) := ((hq22 _ (by omega)).trans hTu.2)
          have k25 : f21 (B + 168) = some (tz_obj 0 [.int zA, .int (nI kA)]) := ((hq22 _ (by omega)).trans hAl)
          have kp26 : tz_Tape cs f21 (B + 1) R (tz_cur σ).2.1 o mp ml := hT.fr (fun q h1_ h2_ => (hq22 q (by omega)))
          have kp27 : tz_Hist cs f21 (B + 15) nx σ.2.1 St := hHi.fr (fun q h1_ h2_ => (hq22 q (by omega)))
          have kp28 : tz_Shs cs f21 (B + 157) Sb := hShs.fr (fun q h1_ h2_ => (hq22 q (by omega)))
          have kp29 : tz_PlX cs f21 (B + 169) := hPlX.fr (fun q h1_ h2_ => (hq22 q (by omega)))
          have kp30 : tz_RoX cs f21 (B + 177) := hRoX.fr (fun q h1_ h2_ => (hq22 q (by omega)))
          have e9 : sp_as σ (nI kl13) w = tz_an σ (-100004) := by simp only [sp_as, hlk13]; rw [if_pos ⟨Int32.not_lt.mp h18, h24⟩, if_neg h39]
          rw [e9]
          exact ⟨rfl, ⟨R, o, mp, ml, nx, St, Sb, ⟨hs22, kp26, kp27, kp28, ⟨_, _, ⟨k23, k24⟩, htn⟩, ⟨_, _, k25⟩, kp29, kp30⟩, hag.fr (fun q h9 => (hq22 q (by omega))), hnx, hH.fr (fun q h9 => (hq22 q (by omega))), hQ⟩, (fun q hh => by rw [hq22 q (by omega)])⟩
        · skip
          replace h39 := tz_p1.mp h39
          refine tz_iload_n C_ 1 rfl rfl td_X_as_42 ?_
          refine tz_goto C_ td_X_as_43 ?_
          refine tz_riret C_ hr_ hk_ hQ_ rfl td_X_as_52 ?_
          have e9 : sp_as σ (nI kl13) w = (nI kl13, σ) := by simp only [sp_as, hlk13]; rw [if_pos ⟨Int32.not_lt.mp h18, h24⟩, if_pos h39]
          rw [e9]
          exact ⟨rfl, ⟨R, o, mp, ml, nx, St, Sb, ⟨hB0, hT, hHi, hShs, ⟨_, _, ⟨hTu.1, hTu.2⟩, htn⟩, ⟨_, _, hAl⟩, hPlX, hRoX⟩, hag.fr (fun q h9 => rfl), hnx, hH.fr (fun q h9 => rfl), hQ⟩, (fun q hh => rfl)⟩
      · skip
        refine tz_aload_n C_ 0 rfl rfl td_X_as_27 ?_
        refine tz_ldc C_ tw_273 td_X_as_28 ?_
        refine tz_cV C_ tmi_X_answer tw_276 tw_0 tw_274 hB0 rfl (As := [.int (-100001)]) (by exact (ct_X_answer (v := -100001) hB0)) rfl (rest := []) rfl (by decide) (Nat.le_of_ble_eq_true rfl) td_X_as_30 (st1 := [.int (-100001)]) rfl (fun f31 hF31 => ?_)
        obtain ⟨hs32, hq32⟩ := hF31
        refine tz_riret C_ hr_ hk_ hQ_ rfl td_X_as_33 ?_
        have k33 : f31 (B + 166) = some (tz_obj 9 [.ref (B + 166 + 1), .int (nI tn)]) := ((hq32 _ (by omega)).trans hTu.1)
        have k34 : f31 (B + 166 + 1) = some (tz_ints cs 120 tg) := ((hq32 _ (by omega)).trans hTu.2)
        have k35 : f31 (B + 168) = some (tz_obj 0 [.int zA, .int (nI kA)]) := ((hq32 _ (by omega)).trans hAl)
        have kp36 : tz_Tape cs f31 (B + 1) R (tz_cur σ).2.1 o mp ml := hT.fr (fun q h1_ h2_ => (hq32 q (by omega)))
        have kp37 : tz_Hist cs f31 (B + 15) nx σ.2.1 St := hHi.fr (fun q h1_ h2_ => (hq32 q (by omega)))
        have kp38 : tz_Shs cs f31 (B + 157) Sb := hShs.fr (fun q h1_ h2_ => (hq32 q (by omega)))
        have kp39 : tz_PlX cs f31 (B + 169) := hPlX.fr (fun q h1_ h2_ => (hq32 q (by omega)))
        have kp40 : tz_RoX cs f31 (B + 177) := hRoX.fr (fun q h1_ h2_ => (hq32 q (by omega)))
        have e9 : sp_as σ (nI kl13) w = tz_an σ (-100001) := by simp only [sp_as, hlk13]; rw [if_neg (by grind)]
        rw [e9]
        exact ⟨rfl, ⟨R, o, mp, ml, nx, St, Sb, ⟨hs32, kp36, kp37, kp38, ⟨_, _, ⟨k33, k34⟩, htn⟩, ⟨_, _, k35⟩, kp39, kp40⟩, hag.fr (fun q h9 => (hq32 q (by omega))), hnx, hH.fr (fun q h9 => (hq32 q (by omega))), hQ⟩, (fun q hh => by rw [hq32 q (by omega)])⟩
