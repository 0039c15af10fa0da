abbrev rm_M_move : Room := { frames := 2, cells := 0, slots := 0, locals := 47 }
set_option maxHeartbeats 4000000 in
set_option maxRecDepth 100000 in
theorem ct_M_move {l : Launch} {A : Nat → Prop} {D : va_G} {cs : Nat → ClassId} {sz : Nat} {f : tz_PH} {M : Nat} {σ : tz_SG} (hX : tz_AM cs f M σ) (hW : tz_WF σ) {i j : Int32} : tz_CN l tyM_move prog_13_method_35_code 8 (some (.int)) rm_M_move 0 0 A D cs sz [.ref M, .int i, .int j] f (some (.int (sp_move σ i j).1)) (fun f' => tz_AM cs f' M (sp_move σ i j).2 ∧ ∀ q, (q < M ∨ M + 9 ≤ q) → f' q = f q) := by
  refine tz_C.ofB (lv0 := [(0, .ref M), (1, .int i), (2, .int j)]) (plainFor_of_name (by decide)) (Nat.le_of_ble_eq_true rfl) rfl ?_
  intro p_ e_ s_ m_ ar_ be_ me_ c_ Q_ C_ hr_ hk_ hnm_ hz_ hQ_
  obtain ⟨ms, ns, tg, nw, pa, bi, nu, sh, ro, ma, ca, hM, hE, hH, hQ⟩ := hX
  have hWT := hW.cur
  have hkp : σ.2.1 ≤ 20 := hW.1
  have hl8 := hWT.2.1
  refine tz_aload_n C_ 0 rfl rfl td_M_move_0 ?_
  refine tz_iload_n C_ 1 rfl rfl td_M_move_1 ?_
  refine tz_rV C_ tmi_M_isLayer tw_922 tw_26 tw_920 hM.1 rfl (As := [.int i]) (by exact (ct_M_isLayer ⟨hM.1, hM.2.1, hM.2.2.1, hM.2.2.2.1, hM.2.2.2.2.1, hM.2.2.2.2.2.1, hM.2.2.2.2.2.2.1, hM.2.2.2.2.2.2.2.1, hM.2.2.2.2.2.2.2.2⟩ hE hWT)) rfl (rest := []) rfl (by decide) (Nat.le_of_ble_eq_true rfl) td_M_move_2 (st1 := [.int (tz_p (0 ≤ i ∧ i < nI (tz_cur σ).2.1))]) rfl ?_
  refine tz_if_eq C_ td_M_move_5 (fun h5 => ?_) (fun h5 => ?_)
  · skip
    replace h5 := tz_p0.mp h5
    have hlk5 := tz_lk_n h5
    refine tz_aload_n C_ 0 rfl rfl td_M_move_16 ?_
    refine tz_ldc C_ tw_812 td_M_move_17 ?_
    refine tz_cV C_ tmi_M_finding tw_800 tw_14 tw_798 hM.1 rfl (As := [.int (-100001)]) (by exact (ct_M_finding (v := -100001) hM.1)) rfl (rest := []) rfl (by decide) (Nat.le_of_ble_eq_true rfl) td_M_move_19 (st1 := [.int (-100001)]) rfl (fun f1 hF1 => ?_)
    obtain ⟨hs2, hq2⟩ := hF1
    refine tz_riret C_ hr_ hk_ hQ_ rfl td_M_move_22 ?_
    have k3 : f1 (M + 1) = some (tz_ints cs 532 nw) := ((hq2 _ (by omega)).trans hM.2.1)
    have k4 : f1 (M + 2) = some (tz_ints cs 10640 pa) := ((hq2 _ (by omega)).trans hM.2.2.1)
    have k5 : f1 (M + 3) = some (tz_ints cs 4 bi) := ((hq2 _ (by omega)).trans hM.2.2.2.1)
    have k6 : f1 (M + 4) = some (tz_ints cs 4 nu) := ((hq2 _ (by omega)).trans hM.2.2.2.2.1)
    have k7 : f1 (M + 5) = some (tz_ints cs 480 sh) := ((hq2 _ (by omega)).trans hM.2.2.2.2.2.1)
    have k8 : f1 (M + 6) = some (tz_ints cs 120 ro) := ((hq2 _ (by omega)).trans hM.2.2.2.2.2.2.1)
    have k9 : f1 (M + 7) = some (tz_ints cs 120 ma) := ((hq2 _ (by omega)).trans hM.2.2.2.2.2.2.2.1)
    have k10 : f1 (M + 8) = some (tz_ints cs 120 ca) := ((hq2 _ (by omega)).trans hM.2.2.2.2.2.2.2.2)
    have e9 : sp_move σ i j = (-100001, tz_fnd σ) := by simp only [sp_move, hlk5]; rw [tz_an_f (by decide)]
    rw [e9]
    exact ⟨rfl, ⟨_, _, _, _, _, _, _, _, _, _, _, ⟨hs2, k3, k4, k5, k6, k7, k8, k9, k10⟩, hE, hH, hQ⟩, (fun q hh => by rw [hq2 q (by omega)])⟩
  · skip
    replace h5 := tz_p1.mp h5
    obtain ⟨a, ha, ea, hlk5⟩ := tz_lk_y h5 hl8
    subst ea
    refine tz_aload_n C_ 0 rfl rfl td_M_move_8 ?_
    refine tz_iload_n C_ 2 rfl rfl td_M_move_9 ?_
    refine tz_rV C_ tmi_M_isLayer tw_922 tw_26 tw_920 hM.1 rfl (As := [.int j]) (by exact (ct_M_isLayer ⟨hM.1, hM.2.1, hM.2.2.1, hM.2.2.2.1, hM.2.2.2.2.1, hM.2.2.2.2.2.1, hM.2.2.2.2.2.2.1, hM.2.2.2.2.2.2.2.1, hM.2.2.2.2.2.2.2.2⟩ hE hWT)) rfl (rest := []) rfl (by decide) (Nat.le_of_ble_eq_true rfl) td_M_move_10 (st1 := [.int (tz_p (0 ≤ j ∧ j < nI (tz_cur σ).2.1))]) rfl ?_
    refine tz_if_ne C_ td_M_move_13 (fun h13 => ?_) (fun h13 => ?_)
    · skip
      replace h13 := tz_p1.mp h13
      obtain ⟨b, hb, eb, hlk13⟩ := tz_lk_y h13 hl8
      subst eb
      refine tz_aload_n C_ 0 rfl rfl td_M_move_23 ?_
      refine tz_cV C_ tmi_M_keep tw_815 tw_15 tw_813 hM.1 rfl (As := []) (by exact (ct_M_keep ⟨hM.1, hM.2.1, hM.2.2.1, hM.2.2.2.1, hM.2.2.2.2.1, hM.2.2.2.2.2.1, hM.2.2.2.2.2.2.1, hM.2.2.2.2.2.2.2.1, hM.2.2.2.2.2.2.2.2⟩ hH hE (fun j hj => hW.2.1 j hj) hkp)) rfl (rest := []) rfl (by decide) (Nat.le_of_ble_eq_true rfl) td_M_move_24 (st1 := []) rfl (fun f11 hF11 => ?_)
      obtain ⟨⟨paK, hMK, hHK⟩, hqK⟩ := hF11
      refine tz_aload_n C_ 0 rfl rfl td_M_move_27 ?_
      refine tz_get C_ tci_M 0 (by decide) tw_753 hMK.1 rfl td_M_move_28 ?_
      refine tz_sipush C_ (v := 488) (by decide) td_M_move_31 ?_
      refine tz_iload_n C_ 1 rfl rfl td_M_move_34 ?_
      refine tz_iadd C_ td_M_move_35 ?_
      rw [show (488 + (nI a) : Int32) = nI (488 + a) from nI_add (488) (a)]
      refine tz_ialdN C_ hMK.2.1 (by omega) (by decide) td_M_move_36 ?_
      refine tz_istore_n C_ (lv' := [(0, .ref M), (1, .int (nI a)), (2, .int (nI b)), (3, .int (nw ((488 + a))))]) [1, 2, 3, 0] rfl (by decide) rfl td_M_move_37 ?_
      refine tz_aload_n C_ 0 rfl rfl td_M_move_38 ?_
      refine tz_get C_ tci_M 0 (by decide) tw_753 hMK.1 rfl td_M_move_39 ?_
      refine tz_sipush C_ (v := 496) (by decide) td_M_move_42 ?_
      refine tz_iload_n C_ 1 rfl rfl td_M_move_45 ?_
      refine tz_iadd C_ td_M_move_46 ?_
      rw [show (496 + (nI a) : Int32) = nI (496 + a) from nI_add (496) (a)]
      refine tz_ialdN C_ hMK.2.1 (by omega) (by decide) td_M_move_47 ?_
      refine tz_istore C_ (lv' := [(0, .ref M), (1, .int (nI a)), (2, .int (nI b)), (3, .int (nw ((488 + a)))), (4, .int (nw ((496 + a))))]) [1, 2, 3, 4, 0] (by decide) rfl td_M_move_48 ?_
      refine tz_aload_n C_ 0 rfl rfl td_M_move_50 ?_
      refine tz_get C_ tci_M 0 (by decide) tw_753 hMK.1 rfl td_M_move_51 ?_
      refine tz_sipush C_ (v := 504) (by decide) td_M_move_54 ?_
      refine tz_iload_n C_ 1 rfl rfl td_M_move_57 ?_
      refine tz_iadd C_ td_M_move_58 ?_
      rw [show (504 + (nI a) : Int32) = nI (504 + a) from nI_add (504) (a)]
      refine tz_ialdN C_ hMK.2.1 (by omega) (by decide) td_M_move_59 ?_
      refine tz_istore C_ (lv' := [(0, .ref M), (1, .int (nI a)), (2, .int (nI b)), (3, .int (nw ((488 + a)))), (4, .int (nw ((496 + a)))), (5, .int (nw ((504 + a))))]) [1, 2, 3, 4, 5, 0] (by decide) rfl td_M_move_60 ?_
      refine tz_aload_n C_ 0 rfl rfl td_M_move_62 ?_
      refine tz_get C_ tci_M 0 (by decide) tw_753 hMK.1 rfl td_M_move_63 ?_
      refine tz_sipush C_ (v := 512) (by decide) td_M_move_66 ?_
      refine tz_iload_n C_ 1 rfl rfl td_M_move_69 ?_
      refine tz_iadd C_ td_M_move_70 ?_
      rw [show (512 + (nI a) : Int32) = nI (512 + a) from nI_add (512) (a)]
      refine tz_ialdN C_ hMK.2.1 (by omega) (by decide) td_M_move_71 ?_
      refine tz_istore C_ (lv' := [(0, .ref M), (1, .int (nI a)), (2, .int (nI b)), (3, .int (nw ((488 + a)))), (4, .int (nw ((496 + a)))), (5, .int (nw ((504 + a)))), (6, .int (nw ((512 + a))))]) [1, 2, 3, 4, 5, 6, 0] (by decide) rfl td_M_move_72 ?_
      refine tz_iload_n C_ 1 rfl rfl td_M_move_74 ?_
      refine tz_istore C_ (lv' := [(0, .ref M), (1, .int (nI a)), (2, .int (nI b)), (3, .int (nw ((488 + a)))), (4, .int (nw ((496 + a)))), (5, .int (nw ((504 + a)))), (6, .int (nw ((512 + a)))), (7, .int (nI a))]) [1, 2, 3, 4, 5, 6, 7, 0] (by decide) rfl td_M_move_75 ?_
      have loop77 : ∀ (kk77 : Nat) (nwL : Nat → Int32) (d : Nat) (fL : tz_PH), (tz_MB cs fL M (min (σ.2.1 + 1) 20) σ.2.2.2 ms ns tg nwL paK bi nu sh ro ma ca) → (∀ q, (q < M ∨ M + 9 ≤ q) → fL q = f q) → (a ≤ d ∧ (d ≤ b ∨ d = a)) → (tz_enL nwL (tz_cur σ).2.1 (tz_dl (tz_lyr σ) a d)) → (∀ q, (q < 488 ∨ 520 ≤ q) → nwL q = nw q) → (b - d) < kk77 → tz_V p_ l e_ rm_M_move s_ m_ ar_ be_ me_ c_ Q_ A D 8 fL sz 0 0 77 [(0, .ref M), (1, .int (nI a)), (2, .int (nI b)), (3, .int (nw (488 + a))), (4, .int (nw (496 + a))), (5, .int (nw (504 + a))), (6, .int (nw (512 + a))), (7, .int (nI d))] [] := by
        intro kk77
        induction kk77 with
        | zero => intro nwL d fL hM1 hfr hl hEL hEO hm77; omega
        | succ kk77 ih77 =>
          intro nwL d fL hM1 hfr hl hEL hEO hm77
          refine tz_iload C_ 7 rfl td_M_move_77 ?_
          refine tz_iload_n C_ 2 rfl rfl td_M_move_79 ?_
          refine tz_icmp_ge C_ td_M_move_80 (fun h80 => ?_) (fun h80 => ?_)
          · skip
            replace h80 := (nI_leI (a := b) (b := d) (by omega) (by omega)).mp h80
            refine tz_iload_n C_ 1 rfl rfl td_M_move_99 ?_
            refine tz_istore C_ (lv' := [(0, .ref M), (1, .int (nI a)), (2, .int (nI b)), (3, .int (nw (488 + a))), (4, .int (nw (496 + a))), (5, .int (nw (504 + a))), (6, .int (nw (512 + a))), (7, .int (nI a))]) [1, 2, 3, 4, 5, 6, 7, 0] (by decide) rfl td_M_move_100 ?_
            have loop102 : ∀ (kk102 : Nat) (nwL2 : Nat → Int32) (d2 : Nat) (fL2 : tz_PH), (tz_MB cs fL2 M (min (σ.2.1 + 1) 20) σ.2.2.2 ms ns tg nwL2 paK bi nu sh ro ma ca) → (∀ q, (q < M ∨ M + 9 ≤ q) → fL2 q = f q) → (d2 ≤ a ∧ (b ≤ d2 ∨ d2 = a)) → (tz_enL nwL2 (tz_cur σ).2.1 (tz_ul (tz_dl (tz_lyr σ) a d) a d2)) → (∀ q, (q < 488 ∨ 520 ≤ q) → nwL2 q = nw q) → (d2) < kk102 → tz_V p_ l e_ rm_M_move s_ m_ ar_ be_ me_ c_ Q_ A D 8 fL2 sz 0 0 102 [(0, .ref M), (1, .int (nI a)), (2, .int (nI b)), (3, .int (nw (488 + a))), (4, .int (nw (496 + a))), (5, .int (nw (504 + a))), (6, .int (nw (512 + a))), (7, .int (nI d2))] [] := by
              intro kk102
              induction kk102 with
              | zero => intro nwL2 d2 fL2 hM2 hfr hl2 hEL2 hEO2 hm102; omega
              | succ kk102 ih102 =>
                intro nwL2 d2 fL2 hM2 hfr hl2 hEL2 hEO2 hm102
                refine tz_iload C_ 7 rfl td_M_move_102 ?_
                refine tz_iload_n C_ 2 rfl rfl td_M_move_104 ?_
                refine tz_icmp_le C_ td_M_move_105 (fun h105 => ?_) (fun h105 => ?_)
                · skip
                  replace h105 := (nI_leI (a := d2) (b := b) (by omega) (by omega)).mp h105
                  refine tz_aload_n C_ 0 rfl rfl td_M_move_124 ?_
                  refine tz_iload_n C_ 2 rfl rfl td_M_move_125 ?_
                  refine tz_iload_n C_ 3 rfl rfl td_M_move_126 ?_
                  refine tz_iload C_ 4 rfl td_M_move_127 ?_
                  refine tz_iload C_ 5 rfl td_M_move_129 ?_
                  refine tz_iload C_ 6 rfl td_M_move_131 ?_
                  refine tz_cV C_ tmi_M_setLayer tw_914 tw_25 tw_912 hM2.1 rfl (As := [.int (nI b), .int (nw (488 + a)), .int (nw (496 + a)), .int (nw (504 + a)), .int (nw (512 + a))]) (by exact (ct_M_setLayer ⟨hM2.1, hM2.2.1, hM2.2.2.1, hM2.2.2.2.1, hM2.2.2.2.2.1, hM2.2.2.2.2.2.1, hM2.2.2.2.2.2.2.1, hM2.2.2.2.2.2.2.2.1, hM2.2.2.2.2.2.2.2.2⟩ (q := b) (by omega))) rfl (rest := []) rfl (by decide) (Nat.le_of_ble_eq_true rfl) td_M_move_133 (st1 := []) rfl (fun f12 hF12 => ?_)
                  obtain ⟨hSL13, hq13⟩ := hF12
                  refine tz_iconst C_ (v := 1) (by decide) td_M_move_136 ?_
                  refine tz_riret C_ hr_ hk_ hQ_ rfl td_M_move_137 ?_
                  have e9 : sp_move σ (nI a) (nI b) = (1, tz_act σ (tz_sl (tz_cur σ) (tz_cur σ).2.1 (tz_inl (tz_rml (tz_lyr σ) a (tz_cur σ).2.1) ((tz_cur σ).2.1 - 1) b (tz_lyr σ a)))) := by simp only [sp_move, hlk5, hlk13]
                  rw [e9]
                  exact ⟨rfl, tz_AM_act hW ⟨hSL13.1, hSL13.2.1, hSL13.2.2.1, hSL13.2.2.2.1, hSL13.2.2.2.2.1, hSL13.2.2.2.2.2.1, hSL13.2.2.2.2.2.2.1, hSL13.2.2.2.2.2.2.2.1, hSL13.2.2.2.2.2.2.2.2⟩ (tz_en_lay hE hWT (fun q hq => (tz_stl_o (by omega) (by omega)).trans (hEO2 q (by omega))) (((tz_stl_o (by omega) (by omega)).trans (hEO2 484 (by omega))).trans hE.2.2.1) (by obtain ⟨z1, z2, z3, z4⟩ := hE.2.2.2.1 a ha; rw [z1, z2, z3, z4]; exact tz_enL_cg (tz_enL_set hEL2 hl8 (by omega)) (fun q hq => tz_mv ha hb ⟨hl.1, hl.2, h80⟩ ⟨hl2.1, hl2.2, h105⟩ q hq))) hHK hQ, (fun q hh => by rw [hq13 q (by omega), hfr q (by omega)])⟩
                · skip
                  replace h105 := mt (nI_leI (a := d2) (b := b) (by omega) (by omega)).mpr h105
                  refine tz_aload_n C_ 0 rfl rfl td_M_move_108 ?_
                  refine tz_iload C_ 7 rfl td_M_move_109 ?_
                  refine tz_iconst C_ (v := 1) (by decide) td_M_move_111 ?_
                  refine tz_isub C_ td_M_move_112 ?_
                  rw [show ((nI d2) - 1 : Int32) = nI (d2 - 1) from pk_sub (a := d2) (b := 1) (by omega)]
                  refine tz_iload C_ 7 rfl td_M_move_113 ?_
                  refine tz_cV C_ tmi_M_copyLayer tw_930 tw_27 tw_928 hM2.1 rfl (As := [.int (nI (d2 - 1)), .int (nI d2)]) (by exact (ct_M_copyLayer ⟨hM2.1, hM2.2.1, hM2.2.2.1, hM2.2.2.2.1, hM2.2.2.2.2.1, hM2.2.2.2.2.2.1, hM2.2.2.2.2.2.2.1, hM2.2.2.2.2.2.2.2.1, hM2.2.2.2.2.2.2.2.2⟩ (a := (d2 - 1)) (b := d2) (by omega) (by omega))) rfl (rest := []) rfl (by decide) (Nat.le_of_ble_eq_true rfl) td_M_move_115 (st1 := []) rfl (fun f14 hF14 => ?_)
                  obtain ⟨hCL15, hq15⟩ := hF14
                  refine tz_iinc C_ (k := -1) (v := nI (d2 - 1)) (lv' := [(0, .ref M), (1, .int (nI a)), (2, .int (nI b)), (3, .int (nw (488 + a))), (4, .int (nw (496 + a))), (5, .int (nw (504 + a))), (6, .int (nw (512 + a))), (7, .int (nI (d2 - 1)))]) 7 rfl (tz_dec (by omega)) [1, 2, 3, 4, 5, 6, 7, 0] (by decide) rfl td_M_move_118 ?_
                  refine tz_goto C_ td_M_move_121 ?_
                  exact ih102 ((tz_stl nwL2 d2 (nwL2 (488 + (d2 - 1))) (nwL2 (496 + (d2 - 1))) (nwL2 (504 + (d2 - 1))) (nwL2 (512 + (d2 - 1))))) (d2 - 1) f14 (⟨hCL15.1, hCL15.2.1, hCL15.2.2.1, hCL15.2.2.2.1, hCL15.2.2.2.2.1, hCL15.2.2.2.2.2.1, hCL15.2.2.2.2.2.2.1, hCL15.2.2.2.2.2.2.2.1, hCL15.2.2.2.2.2.2.2.2⟩) (fun q hh => by rw [hq15 q (by omega), hfr q (by omega)]) (⟨by omega, by omega⟩) (tz_enL_cp hEL2 hl8 (by omega) (by omega) (fun q _ => tz_ul_s (by omega) (by omega) q)) (fun q hq => (tz_stl_o (by omega) hq).trans (hEO2 q hq)) (by omega)
            exact loop102 _ nwL a fL (⟨hM1.1, hM1.2.1, hM1.2.2.1, hM1.2.2.2.1, hM1.2.2.2.2.1, hM1.2.2.2.2.2.1, hM1.2.2.2.2.2.2.1, hM1.2.2.2.2.2.2.2.1, hM1.2.2.2.2.2.2.2.2⟩) (fun q hh => by rw [hfr q (by omega)]) (⟨Nat.le_refl _, Or.inr rfl⟩) (by rw [tz_ul_0]; exact hEL) hEO (Nat.lt_succ_self _)
          · skip
            replace h80 := mt (nI_leI (a := b) (b := d) (by omega) (by omega)).mpr h80
            refine tz_aload_n C_ 0 rfl rfl td_M_move_83 ?_
            refine tz_iload C_ 7 rfl td_M_move_84 ?_
            refine tz_iconst C_ (v := 1) (by decide) td_M_move_86 ?_
            refine tz_iadd C_ td_M_move_87 ?_
            rw [show ((nI d) + 1 : Int32) = nI (d + 1) from nI_add (d) (1)]
            refine tz_iload C_ 7 rfl td_M_move_88 ?_
            refine tz_cV C_ tmi_M_copyLayer tw_930 tw_27 tw_928 hM1.1 rfl (As := [.int (nI (d + 1)), .int (nI d)]) (by exact (ct_M_copyLayer ⟨hM1.1, hM1.2.1, hM1.2.2.1, hM1.2.2.2.1, hM1.2.2.2.2.1, hM1.2.2.2.2.2.1, hM1.2.2.2.2.2.2.1, hM1.2.2.2.2.2.2.2.1, hM1.2.2.2.2.2.2.2.2⟩ (a := (d + 1)) (b := d) (by omega) (by omega))) rfl (rest := []) rfl (by decide) (Nat.le_of_ble_eq_true rfl) td_M_move_90 (st1 := []) rfl (fun f16 hF16 => ?_)
            obtain ⟨hCL17, hq17⟩ := hF16
            refine tz_iinc C_ (k := 1) (v := nI (d + 1)) (lv' := [(0, .ref M), (1, .int (nI a)), (2, .int (nI b)), (3, .int (nw (488 + a))), (4, .int (nw (496 + a))), (5, .int (nw (504 + a))), (6, .int (nw (512 + a))), (7, .int (nI (d + 1)))]) 7 rfl (nI_1 d) [1, 2, 3, 4, 5, 6, 7, 0] (by decide) rfl td_M_move_93 ?_
            refine tz_goto C_ td_M_move_96 ?_
            exact ih77 ((tz_stl nwL d (nwL (488 + (d + 1))) (nwL (496 + (d + 1))) (nwL (504 + (d + 1))) (nwL (512 + (d + 1))))) (d + 1) f16 (⟨hCL17.1, hCL17.2.1, hCL17.2.2.1, hCL17.2.2.2.1, hCL17.2.2.2.2.1, hCL17.2.2.2.2.2.1, hCL17.2.2.2.2.2.2.1, hCL17.2.2.2.2.2.2.2.1, hCL17.2.2.2.2.2.2.2.2⟩) (fun q hh => by rw [hq17 q (by omega), hfr q (by omega)]) (⟨by omega, by omega⟩) (tz_enL_cp hEL hl8 (by omega) (by omega) (fun q _ => tz_dl_s (by omega) q)) (fun q hq => (tz_stl_o (by omega) hq).trans (hEO q hq)) (by omega)
      exact loop77 _ nw a f11 (⟨hMK.1, hMK.2.1, hMK.2.2.1, hMK.2.2.2.1, hMK.2.2.2.2.1, hMK.2.2.2.2.2.1, hMK.2.2.2.2.2.2.1, hMK.2.2.2.2.2.2.2.1, hMK.2.2.2.2.2.2.2.2⟩) (fun q hh => by rw [hqK q (by omega)]) (⟨Nat.le_refl _, Or.inr rfl⟩) (by rw [tz_dl_0]; exact hE.2.2.2.1) (fun q _ => rfl) (Nat.lt_succ_self _)
    · skip
      replace h13 := tz_p0.mp h13
      have hlk13 := tz_lk_n h13
      refine tz_aload_n C_ 0 rfl rfl td_M_move_16 ?_
      refine tz_ldc C_ tw_812 td_M_move_17 ?_
      refine tz_cV C_ tmi_M_finding tw_800 tw_14 tw_798 hM.1 rfl (As := [.int (-100001)]) (by exact (ct_M_finding (v := -100001) hM.1)) rfl (rest := []) rfl (by decide) (Nat.le_of_ble_eq_true rfl) td_M_move_19 (st1 := [.int (-100001)]) rfl (fun f18 hF18 => ?_)
      obtain ⟨hs19, hq19⟩ := hF18
      refine tz_riret C_ hr_ hk_ hQ_ rfl td_M_move_22 ?_
      have k20 : f18 (M + 1) = some (tz_ints cs 532 nw) := ((hq19 _ (by omega)).trans hM.2.1)
      have k21 : f18 (M + 2) = some (tz_ints cs 10640 pa) := ((hq19 _ (by omega)).trans hM.2.2.1)
      have k22 : f18 (M + 3) = some (tz_ints cs 4 bi) := ((hq19 _ (by omega)).trans hM.2.2.2.1)
      have k23 : f18 (M + 4) = some (tz_ints cs 4 nu) := ((hq19 _ (by omega)).trans hM.2.2.2.2.1)
      have k24 : f18 (M + 5) = some (tz_ints cs 480 sh) := ((hq19 _ (by omega)).trans hM.2.2.2.2.2.1)
      have k25 : f18 (M + 6) = some (tz_ints cs 120 ro) := ((hq19 _ (by omega)).trans hM.2.2.2.2.2.2.1)
      have k26 : f18 (M + 7) = some (tz_ints cs 120 ma) := ((hq19 _ (by omega)).trans hM.2.2.2.2.2.2.2.1)
      have k27 : f18 (M + 8) = some (tz_ints cs 120 ca) := ((hq19 _ (by omega)).trans hM.2.2.2.2.2.2.2.2)
      have e9 : sp_move σ (nI a) j = (-100001, tz_fnd σ) := by simp only [sp_move, hlk5, hlk13]; rw [tz_an_f (by decide)]
      rw [e9]
      exact ⟨rfl, ⟨_, _, _, _, _, _, _, _, _, _, _, ⟨hs19, k20, k21, k22, k23, k24, k25, k26, k27⟩, hE, hH, hQ⟩, (fun q hh => by rw [hq19 q (by omega)])⟩

abbrev rm_M_drop : Room := { frames := 2, cells := 0, slots := 0, locals := 47 }
set_option maxHeartbeats 4000000 in
set_option maxRecDepth 100000 in
theorem ct_M_drop {l : Launch} {A : Nat → Prop} {D : va_G} {cs : Nat → ClassId} {sz : Nat} {f : tz_PH} {M : Nat} {σ : tz_SG} (hX : tz_AM cs f M σ) (hW : tz_WF σ) {i : Int32} : tz_CN l tyM_drop prog_13_method_36_code 3 (some (.int)) rm_M_drop 0 0 A D cs sz [.ref M, .int i] f (some (.int (sp_drop σ i).1)) (fun f' => tz_AM cs f' M (sp_drop σ i).2 ∧ ∀ q, (q < M ∨ M + 9 ≤ q) → f' q = f q) := by
  refine tz_C.ofB (lv0 := [(0, .ref M), (1, .int i)]) (plainFor_of_name (by decide)) (Nat.le_of_ble_eq_true rfl) rfl ?_
  intro p_ e_ s_ m_ ar_ be_ me_ c_ Q_ C_ hr_ hk_ hnm_ hz_ hQ_
  obtain ⟨ms, ns, tg, nw, pa, bi, nu, sh, ro, ma, ca, hM, hE, hH, hQ⟩ := hX
  have hWT := hW.cur
  have hkp : σ.2.1 ≤ 20 := hW.1
  have hl8 := hWT.2.1
  refine tz_aload_n C_ 0 rfl rfl td_M_drop_0 ?_
  refine tz_iload_n C_ 1 rfl rfl td_M_drop_1 ?_
  refine tz_rV C_ tmi_M_isLayer tw_922 tw_26 tw_920 hM.1 rfl (As := [.int i]) (by exact (ct_M_isLayer ⟨hM.1, hM.2.1, hM.2.2.1, hM.2.2.2.1, hM.2.2.2.2.1, hM.2.2.2.2.2.1, hM.2.2.2.2.2.2.1, hM.2.2.2.2.2.2.2.1, hM.2.2.2.2.2.2.2.2⟩ hE hWT)) rfl (rest := []) rfl (by decide) (Nat.le_of_ble_eq_true rfl) td_M_drop_2 (st1 := [.int (tz_p (0 ≤ i ∧ i < nI (tz_cur σ).2.1))]) rfl ?_
  refine tz_if_ne C_ td_M_drop_5 (fun h5 => ?_) (fun h5 => ?_)
  · skip
    replace h5 := tz_p1.mp h5
    obtain ⟨k, hk, ek, hlk5⟩ := tz_lk_y h5 hl8
    subst ek
    refine tz_aload_n C_ 0 rfl rfl td_M_drop_15 ?_
    refine tz_cV C_ tmi_M_keep tw_815 tw_15 tw_813 hM.1 rfl (As := []) (by exact (ct_M_keep ⟨hM.1, hM.2.1, hM.2.2.1, hM.2.2.2.1, hM.2.2.2.2.1, hM.2.2.2.2.2.1, hM.2.2.2.2.2.2.1, hM.2.2.2.2.2.2.2.1, hM.2.2.2.2.2.2.2.2⟩ hH hE (fun j hj => hW.2.1 j hj) hkp)) rfl (rest := []) rfl (by decide) (Nat.le_of_ble_eq_true rfl) td_M_drop_16 (st1 := []) rfl (fun f1 hF1 => ?_)
    obtain ⟨⟨paK, hMK, hHK⟩, hqK⟩ := hF1
    refine tz_aload_n C_ 0 rfl rfl td_M_drop_19 ?_
    refine tz_get C_ tci_M 0 (by decide) tw_753 hMK.1 rfl td_M_drop_20 ?_
    refine tz_sipush C_ (v := nI 484) (by decide) td_M_drop_23 ?_
    refine tz_dup2 C_ rfl rfl td_M_drop_26 ?_
    refine tz_ialdN C_ hMK.2.1 (by omega) (by decide) td_M_drop_27 ?_
    refine tz_iconst C_ (v := 1) (by decide) td_M_drop_28 ?_
    refine tz_isub C_ td_M_drop_29 ?_
    rw [show (nw 484) - 1 = nI ((tz_cur σ).2.1 - 1) from by rw [hE.2.2.1]; exact pk_sub (a := (tz_cur σ).2.1) (b := 1) (by omega)]
    refine tz_wiastN C_ hMK.2.1 (by omega) (by decide) (g' := upd nw 484 (nI ((tz_cur σ).2.1 - 1))) rfl td_M_drop_30 (fun f2 hs2 hq2 => ?_)
    refine tz_iload_n C_ 1 rfl rfl td_M_drop_31 ?_
    refine tz_istore_n C_ (lv' := [(0, .ref M), (1, .int (nI k)), (2, .int (nI k))]) [1, 2, 0] rfl (by decide) rfl td_M_drop_32 ?_
    have k3 : f2 M = some (tz_obj 11 [.ref (M + 1), .ref (M + 2), .int (nI (min (σ.2.1 + 1) 20)), .int σ.2.2.2, .ref (M + 3), .ref (M + 4), .ref (M + 5), .int ms, .ref (M + 6), .int ns, .ref (M + 7), .ref (M + 8), .int tg]) := ((hq2 _ (by omega)).trans hMK.1)
    have k4 : f2 (M + 2) = some (tz_ints cs 10640 paK) := ((hq2 _ (by omega)).trans hMK.2.2.1)
    have k5 : f2 (M + 3) = some (tz_ints cs 4 bi) := ((hq2 _ (by omega)).trans hMK.2.2.2.1)
    have k6 : f2 (M + 4) = some (tz_ints cs 4 nu) := ((hq2 _ (by omega)).trans hMK.2.2.2.2.1)
    have k7 : f2 (M + 5) = some (tz_ints cs 480 sh) := ((hq2 _ (by omega)).trans hMK.2.2.2.2.2.1)
    have k8 : f2 (M + 6) = some (tz_ints cs 120 ro) := ((hq2 _ (by omega)).trans hMK.2.2.2.2.2.2.1)
    have k9 : f2 (M + 7) = some (tz_ints cs 120 ma) := ((hq2 _ (by omega)).trans hMK.2.2.2.2.2.2.2.1)
    have k10 : f2 (M + 8) = some (tz_ints cs 120 ca) := ((hq2 _ (by omega)).trans hMK.2.2.2.2.2.2.2.2)
    have loop33 : ∀ (kk33 : Nat) (nwL : Nat → Int32) (d : Nat) (fL : tz_PH), (tz_MB cs fL M (min (σ.2.1 + 1) 20) σ.2.2.2 ms ns tg nwL paK bi nu sh ro ma ca) → (∀ q, (q < M ∨ M + 9 ≤ q) → fL q = f q) → (k ≤ d ∧ d ≤ (tz_cur σ).2.1 - 1) → (tz_enL nwL (tz_cur σ).2.1 (tz_dl (tz_lyr σ) k d)) → (∀ q, (q < 484 ∨ (484 < q ∧ q < 488) ∨ 520 ≤ q) → nwL q = nw q) → (nwL 484 = nI ((tz_cur σ).2.1 - 1)) → ((tz_cur σ).2.1 - d) < kk33 → tz_V p_ l e_ rm_M_drop s_ m_ ar_ be_ me_ c_ Q_ A D 3 fL sz 0 0 33 [(0, .ref M), (1, .int (nI k)), (2, .int (nI d))] [] := by
      intro kk33
      induction kk33 with
      | zero => intro nwL d fL hM1 hfr hl hEL hEO h484 hm33; omega
      | succ kk33 ih33 =>
        intro nwL d fL hM1 hfr hl hEL hEO h484 hm33
        refine tz_iload_n C_ 2 rfl rfl td_M_drop_33 ?_
        refine tz_aload_n C_ 0 rfl rfl td_M_drop_34 ?_
        refine tz_get C_ tci_M 0 (by decide) tw_753 hM1.1 rfl td_M_drop_35 ?_
        refine tz_sipush C_ (v := nI 484) (by decide) td_M_drop_38 ?_
        refine tz_ialdN C_ hM1.2.1 (by omega) (by decide) td_M_drop_41 ?_
        rw [h484]
        refine tz_icmp_ge C_ td_M_drop_42 (fun h42 => ?_) (fun h42 => ?_)
        · skip
          replace h42 := (nI_leI (a := (tz_cur σ).2.1 - 1) (b := d) (by omega) (by omega)).mp h42
          refine tz_aload_n C_ 0 rfl rfl td_M_drop_59 ?_
          refine tz_get C_ tci_M 0 (by decide) tw_753 hM1.1 rfl td_M_drop_60 ?_
          refine tz_sipush C_ (v := nI 484) (by decide) td_M_drop_63 ?_
          refine tz_ialdN C_ hM1.2.1 (by omega) (by decide) td_M_drop_66 ?_
          rw [h484]
          refine tz_riret C_ hr_ hk_ hQ_ rfl td_M_drop_67 ?_
          have e8 : d = (tz_cur σ).2.1 - 1 := by omega
          have hEL9 : tz_enL nwL (tz_cur σ).2.1 (tz_rml (tz_lyr σ) k (tz_cur σ).2.1) := by rw [e8] at hEL; exact hEL
          have e9 : sp_drop σ (nI k) = (nI ((tz_cur σ).2.1 - 1), tz_act σ (tz_sl (tz_cur σ) ((tz_cur σ).2.1 - 1) (tz_rml (tz_lyr σ) k (tz_cur σ).2.1))) := by simp only [sp_drop, hlk5]
          rw [e9]
          exact ⟨rfl, tz_AM_act hW ⟨hM1.1, hM1.2.1, hM1.2.2.1, hM1.2.2.2.1, hM1.2.2.2.2.1, hM1.2.2.2.2.2.1, hM1.2.2.2.2.2.2.1, hM1.2.2.2.2.2.2.2.1, hM1.2.2.2.2.2.2.2.2⟩ (tz_en_lay hE hWT hEO h484 (fun q hq => hEL9 q (Nat.lt_of_lt_of_le hq (Nat.sub_le _ _)))) hHK hQ, (fun q hh => by rw [hfr q (by omega)])⟩
        · skip
          replace h42 := mt (nI_leI (a := (tz_cur σ).2.1 - 1) (b := d) (by omega) (by omega)).mpr h42
          refine tz_aload_n C_ 0 rfl rfl td_M_drop_45 ?_
          refine tz_iload_n C_ 2 rfl rfl td_M_drop_46 ?_
          refine tz_iconst C_ (v := 1) (by decide) td_M_drop_47 ?_
          refine tz_iadd C_ td_M_drop_48 ?_
          rw [show ((nI d) + 1 : Int32) = nI (d + 1) from nI_add (d) (1)]
          refine tz_iload_n C_ 2 rfl rfl td_M_drop_49 ?_
          refine tz_cV C_ tmi_M_copyLayer tw_930 tw_27 tw_928 hM1.1 rfl (As := [.int (nI (d + 1)), .int (nI d)]) (by exact (ct_M_copyLayer ⟨hM1.1, hM1.2.1, hM1.2.2.1, hM1.2.2.2.1, hM1.2.2.2.2.1, hM1.2.2.2.2.2.1, hM1.2.2.2.2.2.2.1, hM1.2.2.2.2.2.2.2.1, hM1.2.2.2.2.2.2.2.2⟩ (a := (d + 1)) (b := d) (by omega) (by omega))) rfl (rest := []) rfl (by decide) (Nat.le_of_ble_eq_true rfl) td_M_drop_50 (st1 := []) rfl (fun f11 hF11 => ?_)
          obtain ⟨hCL12, hq12⟩ := hF11
          refine tz_iinc C_ (k := 1) (v := nI (d + 1)) (lv' := [(0, .ref M), (1, .int (nI k)), (2, .int (nI (d + 1)))]) 2 rfl (nI_1 d) [1, 2, 0] (by decide) rfl td_M_drop_53 ?_
          refine tz_goto C_ td_M_drop_56 ?_
          exact ih33 ((tz_stl nwL d (nwL (488 + (d + 1))) (nwL (496 + (d + 1))) (nwL (504 + (d + 1))) (nwL (512 + (d + 1))))) (d + 1) f11 (⟨hCL12.1, hCL12.2.1, hCL12.2.2.1, hCL12.2.2.2.1, hCL12.2.2.2.2.1, hCL12.2.2.2.2.2.1, hCL12.2.2.2.2.2.2.1, hCL12.2.2.2.2.2.2.2.1, hCL12.2.2.2.2.2.2.2.2⟩) (fun q hh => by rw [hq12 q (by omega), hfr q (by omega)]) (⟨by omega, by omega⟩) (tz_enL_cp hEL hl8 (by omega) (by omega) (fun q _ => tz_dl_s (by omega) q)) (fun q hq => (tz_stl_o (by omega) (by omega)).trans (hEO q hq)) (Eq.trans (tz_stl_o (by omega) (by omega)) h484) (by omega)
    exact loop33 _ (upd nw 484 (nI ((tz_cur σ).2.1 - 1))) k f2 (⟨k3, hs2, k4, k5, k6, k7, k8, k9, k10⟩) (fun q hh => by rw [hq2 q (by omega), hqK q (by omega)]) (⟨Nat.le_refl _, by omega⟩) (by rw [tz_dl_0]; exact fun q hq => by rw [tz_updo (by omega), tz_updo (by omega), tz_updo (by omega), tz_updo (by omega)]; exact hE.2.2.2.1 q hq) (fun q hq => tz_updo (by omega)) tz_updk (Nat.lt_succ_self _)
  · skip
    replace h5 := tz_p0.mp h5
    have hlk5 := tz_lk_n h5
    refine tz_aload_n C_ 0 rfl rfl td_M_drop_8 ?_
    refine tz_ldc C_ tw_812 td_M_drop_9 ?_
    refine tz_cV C_ tmi_M_finding tw_800 tw_14 tw_798 hM.1 rfl (As := [.int (-100001)]) (by exact (ct_M_finding (v := -100001) hM.1)) rfl (rest := []) rfl (by decide) (Nat.le_of_ble_eq_true rfl) td_M_drop_11 (st1 := [.int (-100001)]) rfl (fun f13 hF13 => ?_)
    obtain ⟨hs14, hq14⟩ := hF13
    refine tz_riret C_ hr_ hk_ hQ_ rfl td_M_drop_14 ?_
    have k15 : f13 (M + 1) = some (tz_ints cs 532 nw) := ((hq14 _ (by omega)).trans hM.2.1)
    have k16 : f13 (M + 2) = some (tz_ints cs 10640 pa) := ((hq14 _ (by omega)).trans hM.2.2.1)
    have k17 : f13 (M + 3) = some (tz_ints cs 4 bi) := ((hq14 _ (by omega)).trans hM.2.2.2.1)
    have k18 : f13 (M + 4) = some (tz_ints cs 4 nu) := ((hq14 _ (by omega)).trans hM.2.2.2.2.1)
    have k19 : f13 (M + 5) = some (tz_ints cs 480 sh) := ((hq14 _ (by omega)).trans hM.2.2.2.2.2.1)
    have k20 : f13 (M + 6) = some (tz_ints cs 120 ro) := ((hq14 _ (by omega)).trans hM.2.2.2.2.2.2.1)
    have k21 : f13 (M + 7) = some (tz_ints cs 120 ma) := ((hq14 _ (by omega)).trans hM.2.2.2.2.2.2.2.1)
    have k22 : f13 (M + 8) = some (tz_ints cs 120 ca) := ((hq14 _ (by omega)).trans hM.2.2.2.2.2.2.2.2)
    have e9 : sp_drop σ i = (-100001, tz_fnd σ) := by simp only [sp_drop, hlk5]; rw [tz_an_f (by decide)]
    rw [e9]
    exact ⟨rfl, ⟨_, _, _, _, _, _, _, _, _, _, _, ⟨hs14, k15, k16, k17, k18, k19, k20, k21, k22⟩, hE, hH, hQ⟩, (fun q hh => by rw [hq14 q (by omega)])⟩

abbrev rm_M_bake : Room := { frames := 8, cells := 0, slots := 0, locals := 189 }
set_option maxHeartbeats 4000000 in
set_option maxRecDepth 100000 in
theorem ct_M_bake {l : Launch} {A : Nat → Prop} {D : va_G} {cs : Nat → ClassId} {sz : Nat} {f : tz_PH} {M : Nat} {σ : tz_SG} (hX : tz_AM cs f M σ) (hW : tz_WF σ) {p q : Int32} : tz_CN l tyM_bake prog_13_method_56_code 3 (some (.int)) rm_M_bake 0 0 A D cs sz [.ref M, .int p, .int q] f (some (.int (sp_bake σ p q).1)) (fun f' => tz_AM cs f' M (sp_bake σ p q).2 ∧ ∀ q, (q < M ∨ M + 9 ≤ q) → f' q = f q) := by
  refine tz_C.ofB (lv0 := [(0, .ref M), (1, .int p), (2, .int q)]) (plainFor_of_name (by decide)) (Nat.le_of_ble_eq_true rfl) rfl ?_
  intro p_ e_ s_ m_ ar_ be_ me_ c_ Q_ C_ hr_ hk_ hnm_ hz_ hQ_
  obtain ⟨ms, ns, tg, nw, pa, bi, nu, sh, ro, ma, ca, hM, hE, hH, hQ⟩ := hX
  have hWT := hW.cur
  have hkp : σ.2.1 ≤ 20 := hW.1
  have hl8 := hWT.2.1
  refine tz_iload_n C_ 1 rfl rfl td_M_bake_0 ?_
  refine tz_rS C_ tmi_M_isPass tw_807 tw_806 (As := [.int p]) (by exact ct_M_isPass) rfl (rest := []) rfl (by decide) (Nat.le_of_ble_eq_true rfl) td_M_bake_1 (st1 := [.int (tz_p (0 ≤ p ∧ p < 4))]) rfl ?_
  refine tz_if_eq C_ td_M_bake_4 (fun h4 => ?_) (fun h4 => ?_)
  · skip
    replace h4 := tz_p0.mp h4
    have hpk4 := tz_pk_out h4
    refine tz_aload_n C_ 0 rfl rfl td_M_bake_14 ?_
    refine tz_ldc C_ tw_812 td_M_bake_15 ?_
    refine tz_cV C_ tmi_M_finding tw_800 tw_14 tw_798 hM.1 rfl (As := [.int (-100001)]) (by exact (ct_M_finding (v := -100001) hM.1)) rfl (rest := []) rfl (by decide) (Nat.le_of_ble_eq_true rfl) td_M_bake_17 (st1 := [.int (-100001)]) rfl (fun f1 hF1 => ?_)
    obtain ⟨hs2, hq2⟩ := hF1
    refine tz_riret C_ hr_ hk_ hQ_ rfl td_M_bake_20 ?_
    have k3 : f1 (M + 1) = some (tz_ints cs 532 nw) := ((hq2 _ (by omega)).trans hM.2.1)
    have k4 : f1 (M + 2) = some (tz_ints cs 10640 pa) := ((hq2 _ (by omega)).trans hM.2.2.1)
    have k5 : f1 (M + 3) = some (tz_ints cs 4 bi) := ((hq2 _ (by omega)).trans hM.2.2.2.1)
    have k6 : f1 (M + 4) = some (tz_ints cs 4 nu) := ((hq2 _ (by omega)).trans hM.2.2.2.2.1)
    have k7 : f1 (M + 5) = some (tz_ints cs 480 sh) := ((hq2 _ (by omega)).trans hM.2.2.2.2.2.1)
    have k8 : f1 (M + 6) = some (tz_ints cs 120 ro) := ((hq2 _ (by omega)).trans hM.2.2.2.2.2.2.1)
    have k9 : f1 (M + 7) = some (tz_ints cs 120 ma) := ((hq2 _ (by omega)).trans hM.2.2.2.2.2.2.2.1)
    have k10 : f1 (M + 8) = some (tz_ints cs 120 ca) := ((hq2 _ (by omega)).trans hM.2.2.2.2.2.2.2.2)
    have e9 : sp_bake σ p q = (-100001, tz_fnd σ) := by simp only [sp_bake, hpk4]; rw [tz_an_f (by decide)]
    rw [e9]
    exact ⟨rfl, ⟨_, _, _, _, _, _, _, _, _, _, _, ⟨hs2, k3, k4, k5, k6, k7, k8, k9, k10⟩, hE, hH, hQ⟩, (fun q hh => by rw [hq2 q (by omega)])⟩
  · skip
    replace h4 := tz_p1.mp h4
    obtain ⟨a, ha, ea⟩ := tz_pk_in h4
    subst ea
    have hpk4 := tz_pk_N ha
    have hna : tz_ln σ a ≤ 120 := (hWT.1 a ha).1
    have hNa : ((tz_cur σ).1 a).1 ≤ 120 := (hWT.1 a ha).1
    refine tz_iload_n C_ 2 rfl rfl td_M_bake_7 ?_
    refine tz_rS C_ tmi_M_isPass tw_807 tw_806 (As := [.int q]) (by exact ct_M_isPass) rfl (rest := []) rfl (by decide) (Nat.le_of_ble_eq_true rfl) td_M_bake_8 (st1 := [.int (tz_p (0 ≤ q ∧ q < 4))]) rfl ?_
    refine tz_if_ne C_ td_M_bake_11 (fun h11 => ?_) (fun h11 => ?_)
    · skip
      replace h11 := tz_p1.mp h11
      obtain ⟨b, hb, eb⟩ := tz_pk_in h11
      subst eb
      have hpk11 := tz_pk_N hb
      have hnb : tz_ln σ b ≤ 120 := (hWT.1 b hb).1
      have hNb : ((tz_cur σ).1 b).1 ≤ 120 := (hWT.1 b hb).1
      refine tz_aload_n C_ 0 rfl rfl td_M_bake_21 ?_
      refine tz_cV C_ tmi_M_keep tw_815 tw_15 tw_813 hM.1 rfl (As := []) (by exact (ct_M_keep ⟨hM.1, hM.2.1, hM.2.2.1, hM.2.2.2.1, hM.2.2.2.2.1, hM.2.2.2.2.2.1, hM.2.2.2.2.2.2.1, hM.2.2.2.2.2.2.2.1, hM.2.2.2.2.2.2.2.2⟩ hH hE (fun j hj => hW.2.1 j hj) hkp)) rfl (rest := []) rfl (by decide) (Nat.le_of_ble_eq_true rfl) td_M_bake_22 (st1 := []) rfl (fun f11 hF11 => ?_)
      obtain ⟨⟨paK, hMK, hHK⟩, hqK⟩ := hF11
      refine tz_aload_n C_ 0 rfl rfl td_M_bake_25 ?_
      refine tz_iload_n C_ 1 rfl rfl td_M_bake_26 ?_
      refine tz_cV C_ tmi_M_output tw_950 tw_28 tw_948 hMK.1 rfl (As := [.int (nI a)]) (by exact (ct_M_output ⟨hMK.1, hMK.2.1, hMK.2.2.1, hMK.2.2.2.1, hMK.2.2.2.2.1, hMK.2.2.2.2.2.1, hMK.2.2.2.2.2.2.1, hMK.2.2.2.2.2.2.2.1, hMK.2.2.2.2.2.2.2.2⟩ hE hWT (k := a) (by omega))) rfl (rest := []) rfl (by decide) (Nat.le_of_ble_eq_true rfl) td_M_bake_27 (st1 := []) rfl (fun f12 hF12 => ?_)
      obtain ⟨⟨roW, maW, nsW, tgW, hMW, herW⟩, hqW⟩ := hF12
      have hokW : tz_okr (tz_ou (tz_cur σ) a (-1)).1 (tz_ou (tz_cur σ) a (-1)).2.1 := (tz_rn_ok hWT ha (-1) _ (Nat.le_refl _)).1
      have hleW : (tz_ou (tz_cur σ) a (-1)).1 ≤ 120 := tz_ou_le hWT ha (-1)
      refine tz_aload_n C_ 0 rfl rfl td_M_bake_30 ?_
      refine tz_iload_n C_ 2 rfl rfl td_M_bake_31 ?_
      refine tz_cV C_ tmi_M_laysDown tw_898 tw_24 tw_896 hMW.1 rfl (As := [.int (nI b)]) (by exact (ct_M_laysDown ⟨hMW.1, hMW.2.1, hMW.2.2.1, hMW.2.2.2.1, hMW.2.2.2.2.1, hMW.2.2.2.2.2.1, hMW.2.2.2.2.2.2.1, hMW.2.2.2.2.2.2.2.1, hMW.2.2.2.2.2.2.2.2⟩ (k := b) (by omega) hleW)) rfl (rest := []) rfl (by decide) (Nat.le_of_ble_eq_true rfl) td_M_bake_32 (st1 := []) rfl (fun f13 hF13 => ?_)
      obtain ⟨hMD14, hq14⟩ := hF13
      refine tz_aload_n C_ 0 rfl rfl td_M_bake_35 ?_
      refine tz_get C_ tci_M 7 (by decide) tw_760 hMD14.1 rfl td_M_bake_36 ?_
      refine tz_riret C_ hr_ hk_ hQ_ rfl td_M_bake_39 ?_
      have e9 : sp_bake σ (nI a) (nI b) = (nI (tz_ou (tz_cur σ) a (-1)).1, tz_act σ (tz_sr (tz_cur σ) b ((tz_ou (tz_cur σ) a (-1)).1, (tz_ou (tz_cur σ) a (-1)).2.1))) := by simp only [sp_bake, hpk4, hpk11]
      rw [e9]
      exact ⟨rfl, tz_AM_act hW ⟨hMD14.1, hMD14.2.1, hMD14.2.2.1, hMD14.2.2.2.1, hMD14.2.2.2.2.1, hMD14.2.2.2.2.2.1, hMD14.2.2.2.2.2.2.1, hMD14.2.2.2.2.2.2.2.1, hMD14.2.2.2.2.2.2.2.2⟩ (tz_en_row hE hWT hb herW hleW) hHK hQ, (fun q hh => by rw [hq14 q (by omega), hqW q (by omega), hqK q (by omega)])⟩
    · skip
      replace h11 := tz_p0.mp h11
      have hpk11 := tz_pk_out h11
      refine tz_aload_n C_ 0 rfl rfl td_M_bake_14 ?_
      refine tz_ldc C_ tw_812 td_M_bake_15 ?_
      refine tz_cV C_ tmi_M_finding tw_800 tw_14 tw_798 hM.1 rfl (As := [.int (-100001)]) (by exact (ct_M_finding (v := -100001) hM.1)) rfl (rest := []) rfl (by decide) (Nat.le_of_ble_eq_true rfl) td_M_bake_17 (st1 := [.int (-100001)]) rfl (fun f15 hF15 => ?_)
      obtain ⟨hs16, hq16⟩ := hF15
      refine tz_riret C_ hr_ hk_ hQ_ rfl td_M_bake_20 ?_
      have k17 : f15 (M + 1) = some (tz_ints cs 532 nw) := ((hq16 _ (by omega)).trans hM.2.1)
      have k18 : f15 (M + 2) = some (tz_ints cs 10640 pa) := ((hq16 _ (by omega)).trans hM.2.2.1)
      have k19 : f15 (M + 3) = some (tz_ints cs 4 bi) := ((hq16 _ (by omega)).trans hM.2.2.2.1)
      have k20 : f15 (M + 4) = some (tz_ints cs 4 nu) := ((hq16 _ (by omega)).trans hM.2.2.2.2.1)
      have k21 : f15 (M + 5) = some (tz_ints cs 480 sh) := ((hq16 _ (by omega)).trans hM.2.2.2.2.2.1)
      have k22 : f15 (M + 6) = some (tz_ints cs 120 ro) := ((hq16 _ (by omega)).trans hM.2.2.2.2.2.2.1)
      have k23 : f15 (M + 7) = some (tz_ints cs 120 ma) := ((hq16 _ (by omega)).trans hM.2.2.2.2.2.2.2.1)
      have k24 : f15 (M + 8) = some (tz_ints cs 120 ca) := ((hq16 _ (by omega)).trans hM.2.2.2.2.2.2.2.2)
      have e9 : sp_bake σ (nI a) q = (-100001, tz_fnd σ) := by simp only [sp_bake, hpk4, hpk11]; rw [tz_an_f (by decide)]
      rw [e9]
      exact ⟨rfl, ⟨_, _, _, _, _, _, _, _, _, _, _, ⟨hs16, k17, k18, k19, k20, k21, k22, k23, k24⟩, hE, hH, hQ⟩, (fun q hh => by rw [hq16 q (by omega)])⟩


theorem tz_sh_rg {g g2 : Nat → Int32} {n n2 : Nat} : ∀ t, t ≤ 19 → ¬ (tz_sh g n n2 g2 t).1 = tz_NO → ¬ (tz_sh g n n2 g2 t).1 ≤ -100000 := by
  intro t
  induction t with
  | zero => intro _ h; exact absurd rfl h
  | succ t ih =>
    intro ht
    rw [tz_sh]
    split
    · intro _
      have := (tz_sd_ne t (by omega)).2
      intro z
      exact absurd (Int32.le_trans this.1 z) (by decide)
    · exact ih (by omega)

abbrev rm_M_align : Room := { frames := 5, cells := 0, slots := 0, locals := 121 }
set_option maxHeartbeats 4000000 in
set_option maxRecDepth 100000 in
theorem ct_M_align {l : Launch} {A : Nat → Prop} {D : va_G} {cs : Nat → ClassId} {sz : Nat} {f : tz_PH} {M : Nat} {σ : tz_SG} (hX : tz_AM cs f M σ) (hW : tz_WF σ) {p q w : Int32} : tz_CN l tyM_align prog_13_method_57_code 5 (some (.int)) rm_M_align 0 0 A D cs sz [.ref M, .int p, .int q, .int w] f (some (.int (sp_align σ p q w).1)) (fun f' => tz_AM cs f' M (sp_align σ p q w).2 ∧ ∀ q, (q < M ∨ M + 9 ≤ q) → f' q = f q) := by
  refine tz_C.ofB (lv0 := [(0, .ref M), (1, .int p), (2, .int q), (3, .int w)]) (plainFor_of_name (by decide)) (Nat.le_of_ble_eq_true rfl) rfl ?_
  intro p_ e_ s_ m_ ar_ be_ me_ c_ Q_ C_ hr_ hk_ hnm_ hz_ hQ_
  obtain ⟨ms, ns, tg, nw, pa, bi, nu, sh, ro, ma, ca, hM, hE, hH, hQ⟩ := hX
  have hWT := hW.cur
  have hkp : σ.2.1 ≤ 20 := hW.1
  have hl8 := hWT.2.1
  refine tz_iload_n C_ 1 rfl rfl td_M_align_0 ?_
  refine tz_rS C_ tmi_M_isPass tw_807 tw_806 (As := [.int p]) (by exact ct_M_isPass) rfl (rest := []) rfl (by decide) (Nat.le_of_ble_eq_true rfl) td_M_align_1 (st1 := [.int (tz_p (0 ≤ p ∧ p < 4))]) rfl ?_
  refine tz_if_eq C_ td_M_align_4 (fun h4 => ?_) (fun h4 => ?_)
  · skip
    replace h4 := tz_p0.mp h4
    have hpk4 := tz_pk_out h4
    refine tz_aload_n C_ 0 rfl rfl td_M_align_24 ?_
    refine tz_ldc C_ tw_812 td_M_align_25 ?_
    refine tz_cV C_ tmi_M_finding tw_800 tw_14 tw_798 hM.1 rfl (As := [.int (-100001)]) (by exact (ct_M_finding (v := -100001) hM.1)) rfl (rest := []) rfl (by decide) (Nat.le_of_ble_eq_true rfl) td_M_align_27 (st1 := [.int (-100001)]) rfl (fun f1 hF1 => ?_)
    obtain ⟨hs2, hq2⟩ := hF1
    refine tz_riret C_ hr_ hk_ hQ_ rfl td_M_align_30 ?_
    have k3 : f1 (M + 1) = some (tz_ints cs 532 nw) := ((hq2 _ (by omega)).trans hM.2.1)
    have k4 : f1 (M + 2) = some (tz_ints cs 10640 pa) := ((hq2 _ (by omega)).trans hM.2.2.1)
    have k5 : f1 (M + 3) = some (tz_ints cs 4 bi) := ((hq2 _ (by omega)).trans hM.2.2.2.1)
    have k6 : f1 (M + 4) = some (tz_ints cs 4 nu) := ((hq2 _ (by omega)).trans hM.2.2.2.2.1)
    have k7 : f1 (M + 5) = some (tz_ints cs 480 sh) := ((hq2 _ (by omega)).trans hM.2.2.2.2.2.1)
    have k8 : f1 (M + 6) = some (tz_ints cs 120 ro) := ((hq2 _ (by omega)).trans hM.2.2.2.2.2.2.1)
    have k9 : f1 (M + 7) = some (tz_ints cs 120 ma) := ((hq2 _ (by omega)).trans hM.2.2.2.2.2.2.2.1)
    have k10 : f1 (M + 8) = some (tz_ints cs 120 ca) := ((hq2 _ (by omega)).trans hM.2.2.2.2.2.2.2.2)
    have e9 : sp_align σ p q w = (-100001, tz_fnd σ) := by simp only [sp_align, hpk4]; rw [tz_an_f (by decide)]
    rw [e9]
    exact ⟨rfl, ⟨_, _, _, _, _, _, _, _, _, _, _, ⟨hs2, k3, k4, k5, k6, k7, k8, k9, k10⟩, hE, hH, hQ⟩, (fun q hh => by rw [hq2 q (by omega)])⟩
  · skip
    replace h4 := tz_p1.mp h4
    obtain ⟨a, ha, ea⟩ := tz_pk_in h4
    subst ea
    have hpk4 := tz_pk_N ha
    have hna : tz_ln σ a ≤ 120 := (hWT.1 a ha).1
    have hNa : ((tz_cur σ).1 a).1 ≤ 120 := (hWT.1 a ha).1
    refine tz_iload_n C_ 2 rfl rfl td_M_align_7 ?_
    refine tz_rS C_ tmi_M_isPass tw_807 tw_806 (As := [.int q]) (by exact ct_M_isPass) rfl (rest := []) rfl (by decide) (Nat.le_of_ble_eq_true rfl) td_M_align_8 (st1 := [.int (tz_p (0 ≤ q ∧ q < 4))]) rfl ?_
    refine tz_if_eq C_ td_M_align_11 (fun h11 => ?_) (fun h11 => ?_)
    · skip
      replace h11 := tz_p0.mp h11
      have hpk11 := tz_pk_out h11
      refine tz_aload_n C_ 0 rfl rfl td_M_align_24 ?_
      refine tz_ldc C_ tw_812 td_M_align_25 ?_
      refine tz_cV C_ tmi_M_finding tw_800 tw_14 tw_798 hM.1 rfl (As := [.int (-100001)]) (by exact (ct_M_finding (v := -100001) hM.1)) rfl (rest := []) rfl (by decide) (Nat.le_of_ble_eq_true rfl) td_M_align_27 (st1 := [.int (-100001)]) rfl (fun f11 hF11 => ?_)
      obtain ⟨hs12, hq12⟩ := hF11
      refine tz_riret C_ hr_ hk_ hQ_ rfl td_M_align_30 ?_
      have k13 : f11 (M + 1) = some (tz_ints cs 532 nw) := ((hq12 _ (by omega)).trans hM.2.1)
      have k14 : f11 (M + 2) = some (tz_ints cs 10640 pa) := ((hq12 _ (by omega)).trans hM.2.2.1)
      have k15 : f11 (M + 3) = some (tz_ints cs 4 bi) := ((hq12 _ (by omega)).trans hM.2.2.2.1)
      have k16 : f11 (M + 4) = some (tz_ints cs 4 nu) := ((hq12 _ (by omega)).trans hM.2.2.2.2.1)
      have k17 : f11 (M + 5) = some (tz_ints cs 480 sh) := ((hq12 _ (by omega)).trans hM.2.2.2.2.2.1)
      have k18 : f11 (M + 6) = some (tz_ints cs 120 ro) := ((hq12 _ (by omega)).trans hM.2.2.2.2.2.2.1)
      have k19 : f11 (M + 7) = some (tz_ints cs 120 ma) := ((hq12 _ (by omega)).trans hM.2.2.2.2.2.2.2.1)
      have k20 : f11 (M + 8) = some (tz_ints cs 120 ca) := ((hq12 _ (by omega)).trans hM.2.2.2.2.2.2.2.2)
      have e9 : sp_align σ (nI a) q w = (-100001, tz_fnd σ) := by simp only [sp_align, hpk4, hpk11]; rw [tz_an_f (by decide)]
      rw [e9]
      exact ⟨rfl, ⟨_, _, _, _, _, _, _, _, _, _, _, ⟨hs12, k13, k14, k15, k16, k17, k18, k19, k20⟩, hE, hH, hQ⟩, (fun q hh => by rw [hq12 q (by omega)])⟩
    · skip
      replace h11 := tz_p1.mp h11
      obtain ⟨b, hb, eb⟩ := tz_pk_in h11
      subst eb
      have hpk11 := tz_pk_N hb
      have hnb : tz_ln σ b ≤ 120 := (hWT.1 b hb).1
      have hNb : ((tz_cur σ).1 b).1 ≤ 120 := (hWT.1 b hb).1
      refine tz_iload_n C_ 3 rfl rfl td_M_align_14 ?_
      refine tz_iconst C_ (v := 0) (by decide) td_M_align_15 ?_
      refine tz_bipush C_ (v := 9) (by decide) td_M_align_16 ?_
      refine tz_rS C_ tmi_M_in tw_810 tw_809 (As := [.int w, .int 0, .int 9]) (by exact ct_M_in) rfl (rest := []) rfl (by decide) (Nat.le_of_ble_eq_true rfl) td_M_align_18 (st1 := [.int (tz_p (0 ≤ w ∧ w ≤ 9))]) rfl ?_
      refine tz_if_ne C_ td_M_align_21 (fun h21 => ?_) (fun h21 => ?_)
      · skip
        replace h21 := tz_p1.mp h21
        obtain ⟨w9, hw9, ew9⟩ := tz_toN (m := 9) (tz_le_nlt h21.1) h21.2 (by decide)
        subst ew9
        refine tz_aload_n C_ 0 rfl rfl td_M_align_31 ?_
        refine tz_iload_n C_ 1 rfl rfl td_M_align_32 ?_
        refine tz_cV C_ tmi_M_takePass tw_845 tw_18 tw_843 hM.1 rfl (As := [.int (nI a)]) (by exact (ct_M_takePass ⟨hM.1, hM.2.1, hM.2.2.1, hM.2.2.2.1, hM.2.2.2.2.1, hM.2.2.2.2.2.1, hM.2.2.2.2.2.2.1, hM.2.2.2.2.2.2.2.1, hM.2.2.2.2.2.2.2.2⟩ hE hWT (k := a) (by omega))) rfl (rest := []) rfl (by decide) (Nat.le_of_ble_eq_true rfl) td_M_align_33 (st1 := []) rfl (fun f21 hF21 => ?_)
        obtain ⟨⟨roT, hMT, herT⟩, hqT⟩ := hF21
        refine tz_aload_n C_ 0 rfl rfl td_M_align_36 ?_
        refine tz_iload_n C_ 2 rfl rfl td_M_align_37 ?_
        refine tz_iload_n C_ 3 rfl rfl td_M_align_38 ?_
        refine tz_cV C_ tmi_M_aligned tw_977 tw_34 tw_975 hMT.1 rfl (As := [.int (nI b), .int (nI w9)]) (by exact (ct_M_aligned ⟨hMT.1, hMT.2.1, hMT.2.2.1, hMT.2.2.2.1, hMT.2.2.2.2.1, hMT.2.2.2.2.2.1, hMT.2.2.2.2.2.2.1, hMT.2.2.2.2.2.2.2.1, hMT.2.2.2.2.2.2.2.2⟩ herT (hWT.1 a ha).2 (hWT.1 a ha).1 hE hWT (k := b) (by omega) (w := w9) (by omega))) rfl (rest := []) rfl (by decide) (Nat.le_of_ble_eq_true rfl) td_M_align_39 (st1 := [.int (tz_b1 (tz_sh ((tz_cur σ).1 a).2 ((tz_cur σ).1 a).1 ((tz_cur σ).1 b).1 ((tz_cur σ).1 b).2 (2 * w9 + 1)).1)]) rfl (fun f22 hF22 => ?_)
        obtain ⟨⟨tg23, hD23⟩, hq23⟩ := hF22
        refine tz_istore C_ (lv' := [(0, .ref M), (1, .int (nI a)), (2, .int (nI b)), (3, .int (nI w9)), (4, .int (tz_b1 (tz_sh ((tz_cur σ).1 a).2 ((tz_cur σ).1 a).1 ((tz_cur σ).1 b).1 ((tz_cur σ).1 b).2 (2 * w9 + 1)).1))]) [1, 2, 3, 4, 0] (by decide) rfl td_M_align_42 ?_
        refine tz_iload C_ 4 rfl td_M_align_44 ?_
        refine tz_bipush C_ (v := 100) (by decide) td_M_align_46 ?_
        refine tz_icmp_ne C_ td_M_align_48 (fun h48 => ?_) (fun h48 => ?_)
        · skip
          refine tz_iload C_ 4 rfl td_M_align_60 ?_
          refine tz_riret C_ hr_ hk_ hQ_ rfl td_M_align_62 ?_
          have e9 : sp_align σ (nI a) (nI b) (nI w9) = (tz_b1 (tz_sh ((tz_cur σ).1 a).2 ((tz_cur σ).1 a).1 ((tz_cur σ).1 b).1 ((tz_cur σ).1 b).2 (2 * w9 + 1)).1, σ) := by simp only [sp_align, hpk4, hpk11]; rw [if_pos h21, nI_clamp (by omega)]; rw [tz_an_n (tz_sh_rg _ (by omega) (mt (tz_b1_iff (tz_sh_ne _ (by omega))).mpr h48)), ← tz_b1_id (mt (tz_b1_iff (tz_sh_ne _ (by omega))).mpr h48)]
          rw [e9]
          exact ⟨rfl, ⟨_, _, _, _, _, _, _, _, _, _, _, ⟨hD23.1, hD23.2.1, hD23.2.2.1, hD23.2.2.2.1, hD23.2.2.2.2.1, hD23.2.2.2.2.2.1, hD23.2.2.2.2.2.2.1, hD23.2.2.2.2.2.2.2.1, hD23.2.2.2.2.2.2.2.2⟩, hE, hH, hQ⟩, (fun q hh => by rw [hq23 q (by omega), hqT q (by omega)])⟩
        · skip
          refine tz_aload_n C_ 0 rfl rfl td_M_align_51 ?_
          refine tz_ldc C_ tw_797 td_M_align_52 ?_
          refine tz_cV C_ tmi_M_finding tw_800 tw_14 tw_798 hD23.1 rfl (As := [.int (-100006)]) (by exact (ct_M_finding (v := -100006) hD23.1)) rfl (rest := []) rfl (by decide) (Nat.le_of_ble_eq_true rfl) td_M_align_54 (st1 := [.int (-100006)]) rfl (fun f24 hF24 => ?_)
          obtain ⟨hs25, hq25⟩ := hF24
          refine tz_goto C_ td_M_align_57 ?_
          refine tz_riret C_ hr_ hk_ hQ_ rfl td_M_align_62 ?_
          have k26 : f24 (M + 1) = some (tz_ints cs 532 nw) := ((hq25 _ (by omega)).trans hD23.2.1)
          have k27 : f24 (M + 2) = some (tz_ints cs 10640 pa) := ((hq25 _ (by omega)).trans hD23.2.2.1)
          have k28 : f24 (M + 3) = some (tz_ints cs 4 bi) := ((hq25 _ (by omega)).trans hD23.2.2.2.1)
          have k29 : f24 (M + 4) = some (tz_ints cs 4 nu) := ((hq25 _ (by omega)).trans hD23.2.2.2.2.1)
          have k30 : f24 (M + 5) = some (tz_ints cs 480 sh) := ((hq25 _ (by omega)).trans hD23.2.2.2.2.2.1)
          have k31 : f24 (M + 6) = some (tz_ints cs 120 roT) := ((hq25 _ (by omega)).trans hD23.2.2.2.2.2.2.1)
          have k32 : f24 (M + 7) = some (tz_ints cs 120 ma) := ((hq25 _ (by omega)).trans hD23.2.2.2.2.2.2.2.1)
          have k33 : f24 (M + 8) = some (tz_ints cs 120 ca) := ((hq25 _ (by omega)).trans hD23.2.2.2.2.2.2.2.2)
          have e9 : sp_align σ (nI a) (nI b) (nI w9) = (-100006, tz_fnd σ) := by simp only [sp_align, hpk4, hpk11]; rw [if_pos h21, nI_clamp (by omega)]; rw [(tz_b1_iff (tz_sh_ne _ (by omega))).mp h48, tz_an_f (by decide)]
          rw [e9]
          exact ⟨rfl, ⟨_, _, _, _, _, _, _, _, _, _, _, ⟨hs25, k26, k27, k28, k29, k30, k31, k32, k33⟩, hE, hH, hQ⟩, (fun q hh => by rw [hq25 q (by omega), hq23 q (by omega), hqT q (by omega)])⟩
      · skip
        replace h21 := tz_p0.mp h21
        refine tz_aload_n C_ 0 rfl rfl td_M_align_24 ?_
        refine tz_ldc C_ tw_812 td_M_align_25 ?_
        refine tz_cV C_ tmi_M_finding tw_800 tw_14 tw_798 hM.1 rfl (As := [.int (-100001)]) (by exact (ct_M_finding (v := -100001) hM.1)) rfl (rest := []) rfl (by decide) (Nat.le_of_ble_eq_true rfl) td_M_align_27 (st1 := [.int (-100001)]) rfl (fun f34 hF34 => ?_)
        obtain ⟨hs35, hq35⟩ := hF34
        refine tz_riret C_ hr_ hk_ hQ_ rfl td_M_align_30 ?_
        have k36 : f34 (M + 1) = some (tz_ints cs 532 nw) := ((hq35 _ (by omega)).trans hM.2.1)
        have k37 : f34 (M + 2) = some (tz_ints cs 10640 pa) := ((hq35 _ (by omega)).trans hM.2.2.1)
        have k38 : f34 (M + 3) = some (tz_ints cs 4 bi) := ((hq35 _ (by omega)).trans hM.2.2.2.1)
        have k39 : f34 (M + 4) = some (tz_ints cs 4 nu) := ((hq35 _ (by omega)).trans hM.2.2.2.2.1)
        have k40 : f34 (M + 5) = some (tz_ints cs 480 sh) := ((hq35 _ (by omega)).trans hM.2.2.2.2.2.1)
        have k41 : f34 (M + 6) = some (tz_ints cs 120 ro) := ((hq35 _ (by omega)).trans hM.2.2.2.2.2.2.1)
        have k42 : f34 (M + 7) = some (tz_ints cs 120 ma) := ((hq35 _ (by omega)).trans hM.2.2.2.2.2.2.2.1)
        have k43 : f34 (M + 8) = some (tz_ints cs 120 ca) := ((hq35 _ (by omega)).trans hM.2.2.2.2.2.2.2.2)
        have e9 : sp_align σ (nI a) (nI b) w = (-100001, tz_fnd σ) := by simp only [sp_align, hpk4, hpk11]; rw [if_neg h21, tz_an_f (by decide)]
        rw [e9]
        exact ⟨rfl, ⟨_, _, _, _, _, _, _, _, _, _, _, ⟨hs35, k36, k37, k38, k39, k40, k41, k42, k43⟩, hE, hH, hQ⟩, (fun q hh => by rw [hq35 q (by omega)])⟩

abbrev rm_M_differ : Room := { frames := 4, cells := 0, slots := 0, locals := 88 }
set_option maxHeartbeats 4000000 in
set_option maxRecDepth 100000 in
theorem ct_M_differ {l : Launch} {A : Nat → Prop} {D : va_G} {cs : Nat → ClassId} {sz : Nat} {f : tz_PH} {M : Nat} {σ : tz_SG} (hX : tz_AM cs f M σ) (hW : tz_WF σ) {p q d z : Int32} : tz_CN l tyM_differ prog_13_method_58_code 6 (some (.int)) rm_M_differ 0 0 A D cs sz [.ref M, .int p, .int q, .int d, .int z] f (some (.int (sp_differ σ p q d z).1)) (fun f' => tz_AM cs f' M (sp_differ σ p q d z).2 ∧ ∀ q, (q < M ∨ M + 9 ≤ q) → f' q = f q) := by
  refine tz_C.ofB (lv0 := [(0, .ref M), (1, .int p), (2, .int q), (3, .int d), (4, .int z)]) (plainFor_of_name (by decide)) (Nat.le_of_ble_eq_true rfl) rfl ?_
  intro p_ e_ s_ m_ ar_ be_ me_ c_ Q_ C_ hr_ hk_ hnm_ hz_ hQ_
  obtain ⟨ms, ns, tg, nw, pa, bi, nu, sh, ro, ma, ca, hM, hE, hH, hQ⟩ := hX
  have hWT := hW.cur
  have hkp : σ.2.1 ≤ 20 := hW.1
  have hl8 := hWT.2.1
  refine tz_iload_n C_ 1 rfl rfl td_M_differ_0 ?_
  refine tz_rS C_ tmi_M_isPass tw_807 tw_806 (As := [.int p]) (by exact ct_M_isPass) rfl (rest := []) rfl (by decide) (Nat.le_of_ble_eq_true rfl) td_M_differ_1 (st1 := [.int (tz_p (0 ≤ p ∧ p < 4))]) rfl ?_
  refine tz_if_eq C_ td_M_differ_4 (fun h4 => ?_) (fun h4 => ?_)
  · skip
    replace h4 := tz_p0.mp h4
    have hpk4 := tz_pk_out h4
    refine tz_aload_n C_ 0 rfl rfl td_M_differ_25 ?_
    refine tz_ldc C_ tw_812 td_M_differ_26 ?_
    refine tz_cV C_ tmi_M_finding tw_800 tw_14 tw_798 hM.1 rfl (As := [.int (-100001)]) (by exact (ct_M_finding (v := -100001) hM.1)) rfl (rest := []) rfl (by decide) (Nat.le_of_ble_eq_true rfl) td_M_differ_28 (st1 := [.int (-100001)]) rfl (fun f1 hF1 => ?_)
    obtain ⟨hs2, hq2⟩ := hF1
    refine tz_riret C_ hr_ hk_ hQ_ rfl td_M_differ_31 ?_
    have k3 : f1 (M + 1) = some (tz_ints cs 532 nw) := ((hq2 _ (by omega)).trans hM.2.1)
    have k4 : f1 (M + 2) = some (tz_ints cs 10640 pa) := ((hq2 _ (by omega)).trans hM.2.2.1)
    have k5 : f1 (M + 3) = some (tz_ints cs 4 bi) := ((hq2 _ (by omega)).trans hM.2.2.2.1)
    have k6 : f1 (M + 4) = some (tz_ints cs 4 nu) := ((hq2 _ (by omega)).trans hM.2.2.2.2.1)
    have k7 : f1 (M + 5) = some (tz_ints cs 480 sh) := ((hq2 _ (by omega)).trans hM.2.2.2.2.2.1)
    have k8 : f1 (M + 6) = some (tz_ints cs 120 ro) := ((hq2 _ (by omega)).trans hM.2.2.2.2.2.2.1)
    have k9 : f1 (M + 7) = some (tz_ints cs 120 ma) := ((hq2 _ (by omega)).trans hM.2.2.2.2.2.2.2.1)
    have k10 : f1 (M + 8) = some (tz_ints cs 120 ca) := ((hq2 _ (by omega)).trans hM.2.2.2.2.2.2.2.2)
    have e9 : sp_differ σ p q d z = (-100001, tz_fnd σ) := by simp only [sp_differ, hpk4]; rw [tz_an_f (by decide)]
    rw [e9]
    exact ⟨rfl, ⟨_, _, _, _, _, _, _, _, _, _, _, ⟨hs2, k3, k4, k5, k6, k7, k8, k9, k10⟩, hE, hH, hQ⟩, (fun q hh => by rw [hq2 q (by omega)])⟩
  · skip
    replace h4 := tz_p1.mp h4
    obtain ⟨a, ha, ea⟩ := tz_pk_in h4
    subst ea
    have hpk4 := tz_pk_N ha
    have hna : tz_ln σ a ≤ 120 := (hWT.1 a ha).1
    have hNa : ((tz_cur σ).1 a).1 ≤ 120 := (hWT.1 a ha).1
    refine tz_iload_n C_ 2 rfl rfl td_M_differ_7 ?_
    refine tz_rS C_ tmi_M_isPass tw_807 tw_806 (As := [.int q]) (by exact ct_M_isPass) rfl (rest := []) rfl (by decide) (Nat.le_of_ble_eq_true rfl) td_M_differ_8 (st1 := [.int (tz_p (0 ≤ q ∧ q < 4))]) rfl ?_
    refine tz_if_eq C_ td_M_differ_11 (fun h11 => ?_) (fun h11 => ?_)
    · skip
      replace h11 := tz_p0.mp h11
      have hpk11 := tz_pk_out h11
      refine tz_aload_n C_ 0 rfl rfl td_M_differ_25 ?_
      refine tz_ldc C_ tw_812 td_M_differ_26 ?_
      refine tz_cV C_ tmi_M_finding tw_800 tw_14 tw_798 hM.1 rfl (As := [.int (-100001)]) (by exact (ct_M_finding (v := -100001) hM.1)) rfl (rest := []) rfl (by decide) (Nat.le_of_ble_eq_true rfl) td_M_differ_28 (st1 := [.int (-100001)]) rfl (fun f11 hF11 => ?_)
      obtain ⟨hs12, hq12⟩ := hF11
      refine tz_riret C_ hr_ hk_ hQ_ rfl td_M_differ_31 ?_
      have k13 : f11 (M + 1) = some (tz_ints cs 532 nw) := ((hq12 _ (by omega)).trans hM.2.1)
      have k14 : f11 (M + 2) = some (tz_ints cs 10640 pa) := ((hq12 _ (by omega)).trans hM.2.2.1)
      have k15 : f11 (M + 3) = some (tz_ints cs 4 bi) := ((hq12 _ (by omega)).trans hM.2.2.2.1)
      have k16 : f11 (M + 4) = some (tz_ints cs 4 nu) := ((hq12 _ (by omega)).trans hM.2.2.2.2.1)
      have k17 : f11 (M + 5) = some (tz_ints cs 480 sh) := ((hq12 _ (by omega)).trans hM.2.2.2.2.2.1)
      have k18 : f11 (M + 6) = some (tz_ints cs 120 ro) := ((hq12 _ (by omega)).trans hM.2.2.2.2.2.2.1)
      have k19 : f11 (M + 7) = some (tz_ints cs 120 ma) := ((hq12 _ (by omega)).trans hM.2.2.2.2.2.2.2.1)
      have k20 : f11 (M + 8) = some (tz_ints cs 120 ca) := ((hq12 _ (by omega)).trans hM.2.2.2.2.2.2.2.2)
      have e9 : sp_differ σ (nI a) q d z = (-100001, tz_fnd σ) := by simp only [sp_differ, hpk4, hpk11]; rw [tz_an_f (by decide)]
      rw [e9]
      exact ⟨rfl, ⟨_, _, _, _, _, _, _, _, _, _, _, ⟨hs12, k13, k14, k15, k16, k17, k18, k19, k20⟩, hE, hH, hQ⟩, (fun q hh => by rw [hq12 q (by omega)])⟩
    · skip
      replace h11 := tz_p1.mp h11
      obtain ⟨b, hb, eb⟩ := tz_pk_in h11
      subst eb
      have hpk11 := tz_pk_N hb
      have hnb : tz_ln σ b ≤ 120 := (hWT.1 b hb).1
      have hNb : ((tz_cur σ).1 b).1 ≤ 120 := (hWT.1 b hb).1
      refine tz_iload_n C_ 3 rfl rfl td_M_differ_14 ?_
      refine tz_bipush C_ (v := -9) (by decide) td_M_differ_15 ?_
      refine tz_bipush C_ (v := 9) (by decide) td_M_differ_17 ?_
      refine tz_rS C_ tmi_M_in tw_810 tw_809 (As := [.int d, .int (-9), .int 9]) (by exact ct_M_in) rfl (rest := []) rfl (by decide) (Nat.le_of_ble_eq_true rfl) td_M_differ_19 (st1 := [.int (tz_p ((-9) ≤ d ∧ d ≤ 9))]) rfl ?_
      refine tz_if_ne C_ td_M_differ_22 (fun h22 => ?_) (fun h22 => ?_)
      · skip
        replace h22 := tz_p1.mp h22
        refine tz_aload_n C_ 0 rfl rfl td_M_differ_32 ?_
        refine tz_iload_n C_ 1 rfl rfl td_M_differ_33 ?_
        refine tz_cV C_ tmi_M_takePass tw_845 tw_18 tw_843 hM.1 rfl (As := [.int (nI a)]) (by exact (ct_M_takePass ⟨hM.1, hM.2.1, hM.2.2.1, hM.2.2.2.1, hM.2.2.2.2.1, hM.2.2.2.2.2.1, hM.2.2.2.2.2.2.1, hM.2.2.2.2.2.2.2.1, hM.2.2.2.2.2.2.2.2⟩ hE hWT (k := a) (by omega))) rfl (rest := []) rfl (by decide) (Nat.le_of_ble_eq_true rfl) td_M_differ_34 (st1 := []) rfl (fun f21 hF21 => ?_)
        obtain ⟨⟨roT, hMT, herT⟩, hqT⟩ := hF21
        refine tz_aload_n C_ 0 rfl rfl td_M_differ_37 ?_
        refine tz_iload_n C_ 2 rfl rfl td_M_differ_38 ?_
        refine tz_iload_n C_ 3 rfl rfl td_M_differ_39 ?_
        refine tz_cV C_ tmi_M_differs tw_981 tw_35 tw_979 hMT.1 rfl (As := [.int (nI b), .int d]) (by exact (ct_M_differs ⟨hMT.1, hMT.2.1, hMT.2.2.1, hMT.2.2.2.1, hMT.2.2.2.2.1, hMT.2.2.2.2.2.1, hMT.2.2.2.2.2.2.1, hMT.2.2.2.2.2.2.2.1, hMT.2.2.2.2.2.2.2.2⟩ herT (hWT.1 a ha).2 (hWT.1 a ha).1 hE hWT (k := b) (by omega))) rfl (rest := []) rfl (by decide) (Nat.le_of_ble_eq_true rfl) td_M_differ_40 (st1 := [.int (tz_ds ((tz_cur σ).1 a).2 ((tz_cur σ).1 b).1 ((tz_cur σ).1 b).2 d ((tz_cur σ).1 a).1)]) rfl (fun f22 hF22 => ?_)
        obtain ⟨hD23, hq23⟩ := hF22
        refine tz_istore C_ (lv' := [(0, .ref M), (1, .int (nI a)), (2, .int (nI b)), (3, .int d), (4, .int z), (5, .int (tz_ds ((tz_cur σ).1 a).2 ((tz_cur σ).1 b).1 ((tz_cur σ).1 b).2 d ((tz_cur σ).1 a).1))]) [1, 2, 3, 4, 5, 0] (by decide) rfl td_M_differ_43 ?_
        refine tz_iload C_ 4 rfl td_M_differ_45 ?_
        refine tz_if_eq C_ td_M_differ_47 (fun h47 => ?_) (fun h47 => ?_)
        · skip
          refine tz_iload C_ 5 rfl td_M_differ_57 ?_
          refine tz_riret C_ hr_ hk_ hQ_ rfl td_M_differ_59 ?_
          have e9 : sp_differ σ (nI a) (nI b) d z = (tz_ds ((tz_cur σ).1 a).2 ((tz_cur σ).1 b).1 ((tz_cur σ).1 b).2 d ((tz_cur σ).1 a).1, σ) := by simp only [sp_differ, hpk4, hpk11]; rw [if_pos h22, if_pos h47]
          rw [e9]
          exact ⟨rfl, ⟨_, _, _, _, _, _, _, _, _, _, _, ⟨hD23.1, hD23.2.1, hD23.2.2.1, hD23.2.2.2.1, hD23.2.2.2.2.1, hD23.2.2.2.2.2.1, hD23.2.2.2.2.2.2.1, hD23.2.2.2.2.2.2.2.1, hD23.2.2.2.2.2.2.2.2⟩, hE, hH, hQ⟩, (fun q hh => by rw [hq23 q (by omega), hqT q (by omega)])⟩
        · skip
          refine tz_aload_n C_ 0 rfl rfl td_M_differ_50 ?_
          refine tz_get C_ tci_M 12 (by decide) tw_765 hD23.1 rfl td_M_differ_51 ?_
          refine tz_goto C_ td_M_differ_54 ?_
          refine tz_riret C_ hr_ hk_ hQ_ rfl td_M_differ_59 ?_
          have e9 : sp_differ σ (nI a) (nI b) d z = (nI (tz_dn ((tz_cur σ).1 a).2 ((tz_cur σ).1 b).1 ((tz_cur σ).1 b).2 d ((tz_cur σ).1 a).1), σ) := by simp only [sp_differ, hpk4, hpk11]; rw [if_pos h22, if_neg h47]
          rw [e9]
          exact ⟨rfl, ⟨_, _, _, _, _, _, _, _, _, _, _, ⟨hD23.1, hD23.2.1, hD23.2.2.1, hD23.2.2.2.1, hD23.2.2.2.2.1, hD23.2.2.2.2.2.1, hD23.2.2.2.2.2.2.1, hD23.2.2.2.2.2.2.2.1, hD23.2.2.2.2.2.2.2.2⟩, hE, hH, hQ⟩, (fun q hh => by rw [hq23 q (by omega), hqT q (by omega)])⟩
      · skip
        replace h22 := tz_p0.mp h22
        refine tz_aload_n C_ 0 rfl rfl td_M_differ_25 ?_
        refine tz_ldc C_ tw_812 td_M_differ_26 ?_
        refine tz_cV C_ tmi_M_finding tw_800 tw_14 tw_798 hM.1 rfl (As := [.int (-100001)]) (by exact (ct_M_finding (v := -100001) hM.1)) rfl (rest := []) rfl (by decide) (Nat.le_of_ble_eq_true rfl) td_M_differ_28 (st1 := [.int (-100001)]) rfl (fun f24 hF24 => ?_)
        obtain ⟨hs25, hq25⟩ := hF24
        refine tz_riret C_ hr_ hk_ hQ_ rfl td_M_differ_31 ?_
        have k26 : f24 (M + 1) = some (tz_ints cs 532 nw) := ((hq25 _ (by omega)).trans hM.2.1)
        have k27 : f24 (M + 2) = some (tz_ints cs 10640 pa) := ((hq25 _ (by omega)).trans hM.2.2.1)
        have k28 : f24 (M + 3) = some (tz_ints cs 4 bi) := ((hq25 _ (by omega)).trans hM.2.2.2.1)
        have k29 : f24 (M + 4) = some (tz_ints cs 4 nu) := ((hq25 _ (by omega)).trans hM.2.2.2.2.1)
        have k30 : f24 (M + 5) = some (tz_ints cs 480 sh) := ((hq25 _ (by omega)).trans hM.2.2.2.2.2.1)
        have k31 : f24 (M + 6) = some (tz_ints cs 120 ro) := ((hq25 _ (by omega)).trans hM.2.2.2.2.2.2.1)
        have k32 : f24 (M + 7) = some (tz_ints cs 120 ma) := ((hq25 _ (by omega)).trans hM.2.2.2.2.2.2.2.1)
        have k33 : f24 (M + 8) = some (tz_ints cs 120 ca) := ((hq25 _ (by omega)).trans hM.2.2.2.2.2.2.2.2)
        have e9 : sp_differ σ (nI a) (nI b) d z = (-100001, tz_fnd σ) := by simp only [sp_differ, hpk4, hpk11]; rw [if_neg h22, tz_an_f (by decide)]
        rw [e9]
        exact ⟨rfl, ⟨_, _, _, _, _, _, _, _, _, _, _, ⟨hs25, k26, k27, k28, k29, k30, k31, k32, k33⟩, hE, hH, hQ⟩, (fun q hh => by rw [hq25 q (by omega)])⟩
