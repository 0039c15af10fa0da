
theorem tz_lsg_0 (g : Nat → Int32) (a : Nat) : tz_lsg g a a = g := by
  funext j
  unfold tz_lsg
  rw [if_neg (by omega)]
theorem tz_lsg_n {n i m : Nat} {g : Nat → Int32} (hn : n ≤ 120) (h : i < n) (hm : m ≤ i) : tz_rset n (tz_lsg g m i) (nI i) tz_LO = tz_lsg g m (i + 1) := by
  rw [tz_rset_N hn h]
  exact tz_lsg_s hm

abbrev rm_X_lose : Room := { frames := 4, cells := 0, slots := 0, locals := 85 }
set_option maxHeartbeats 4000000 in
set_option maxRecDepth 100000 in
theorem ct_X_lose {l : Launch} {A : Nat → Prop} {D : va_G} {cs : Nat → ClassId} {sz : Nat} {f : tz_PH} {B L0 : Nat} {σ : tz_SG} (hX : tz_AX cs L0 f B σ) (hW : tz_WF σ) (hB : B + 179 ≤ L0) {p x n : Int32} : tz_CN l tyX_lose prog_1_method_4_code 7 (some (.int)) rm_X_lose 0 0 A D cs sz [.ref B, .int p, .int x, .int n] f (some (.int (sp_lose σ p x n).1)) (fun f' => tz_AX cs L0 f' B (sp_lose σ p x n).2 ∧ ∀ q, (q < B ∨ B + 179 ≤ q) → f' q = f q) := by
  refine tz_C.ofB (lv0 := [(0, .ref B), (1, .int p), (2, .int x), (3, .int n)]) (plainFor_of_name (by decide)) (Nat.le_of_ble_eq_true rfl) rfl ?_
  intro p_ e_ s_ m_ ar_ be_ me_ c_ Q_ C_ hr_ hk_ hnm_ hz_ hQ_
  obtain ⟨R, o, mp, ml, nx, St, Sb, hXB, hag, hnx, hH, hQ⟩ := hX
  obtain ⟨hB0, hT, hHi, hShs, hTuX, hAlX, hPlX, hRoX⟩ := hXB
  have hTu9 := hTuX
  obtain ⟨tn, tg, hTu, htn⟩ := hTu9
  have hAl9 := hAlX
  obtain ⟨zA, kA, hAl⟩ := hAl9
  have hPl9 := hPlX
  obtain ⟨pr, px, pfo, pz, pk, ptn, ptg, pn, pg, pn2, pg2, hPl, hpn, hptn⟩ := hPl9
  have hRo9 := hRoX
  obtain ⟨jn, jg, hRo, hjn⟩ := hRo9
  have hrx := hPl.2.2.2.2.2
  have hRn : ∀ p, p < 4 → (R p).1 ≤ 120 := fun p hp => by rw [(hag.1 p hp).1]; exact (hW.cur.1 p hp).1
  have hnl : (tz_cur σ).2.1 ≤ 8 := hW.cur.2.1
  have hkp : σ.2.1 ≤ 20 := hW.1
  have hSn : ∀ s, s < 4 → (Sb s).2.1 ≤ 120 := fun s hs => by rw [(hQ s hs).2.1]; exact (hW.2.2 s hs).1
  refine tz_aload_n C_ 0 rfl rfl td_X_lose_0 ?_
  refine tz_get C_ tci_X 0 (by decide) tw_240 hB0 rfl td_X_lose_1 ?_
  refine tz_iload_n C_ 1 rfl rfl td_X_lose_4 ?_
  refine tz_rV C_ tmi_T_rowAt tw_270 tw_271 tw_269 hT.1 rfl (As := [.int p]) (by exact (ct_T_rowAt hT)) rfl (rest := []) rfl (by decide) (Nat.le_of_ble_eq_true rfl) td_X_lose_5 (st1 := [va_rf (tz_rof (B + 1) p)]) rfl ?_
  refine tz_astoreQ C_ (lv' := [(0, .ref B), (1, .int p), (2, .int x), (3, .int n), (4, va_rf (tz_rof (B + 1) p))]) [1, 2, 3, 4, 0] (by decide) rfl td_X_lose_8 ?_
  refine tz_aloadQ C_ 4 rfl td_X_lose_10 ?_
  refine tz_ifnull C_ td_X_lose_12 (fun h12 => ?_) (fun q12 h12 => ?_)
  · skip
    rw [h12]
    have hpk12 := tz_pk_none h12
    refine tz_aload_n C_ 0 rfl rfl td_X_lose_28 ?_
    refine tz_ldc C_ tw_273 td_X_lose_29 ?_
    refine tz_cV C_ tmi_X_answer tw_276 tw_0 tw_274 hB0 rfl (As := [.int (-100001)]) (by exact (ct_X_answer (v := -100001) hB0)) rfl (rest := []) rfl (by decide) (Nat.le_of_ble_eq_true rfl) td_X_lose_31 (st1 := [.int (-100001)]) rfl (fun f1 hF1 => ?_)
    obtain ⟨hs2, hq2⟩ := hF1
    refine tz_riret C_ hr_ hk_ hQ_ rfl td_X_lose_34 ?_
    have k3 : f1 (B + 166) = some (tz_obj 9 [.ref (B + 166 + 1), .int (nI tn)]) := ((hq2 _ (by omega)).trans hTu.1)
    have k4 : f1 (B + 166 + 1) = some (tz_ints cs 120 tg) := ((hq2 _ (by omega)).trans hTu.2)
    have k5 : f1 (B + 168) = some (tz_obj 0 [.int zA, .int (nI kA)]) := ((hq2 _ (by omega)).trans hAl)
    have kp6 : tz_Tape cs f1 (B + 1) R (tz_cur σ).2.1 o mp ml := hT.fr (fun q h1_ h2_ => (hq2 q (by omega)))
    have kp7 : tz_Hist cs f1 (B + 15) nx σ.2.1 St := hHi.fr (fun q h1_ h2_ => (hq2 q (by omega)))
    have kp8 : tz_Shs cs f1 (B + 157) Sb := hShs.fr (fun q h1_ h2_ => (hq2 q (by omega)))
    have kp9 : tz_PlX cs f1 (B + 169) := hPlX.fr (fun q h1_ h2_ => (hq2 q (by omega)))
    have kp10 : tz_RoX cs f1 (B + 177) := hRoX.fr (fun q h1_ h2_ => (hq2 q (by omega)))
    have e9 : sp_lose σ p x n = tz_an σ (-100001) := by simp only [sp_lose, hpk12]
    rw [e9]
    exact ⟨rfl, ⟨R, o, mp, ml, nx, St, Sb, ⟨hs2, kp6, kp7, kp8, ⟨_, _, ⟨k3, k4⟩, htn⟩, ⟨_, _, k5⟩, kp9, kp10⟩, hag.fr (fun q h9 => (hq2 q (by omega))), hnx, hH.fr (fun q h9 => (hq2 q (by omega))), hQ⟩, (fun q hh => by rw [hq2 q (by omega)])⟩
  · skip
    obtain ⟨kr12, hkr12, ekr12, eqkr12⟩ := tz_rof_some h12
    rw [h12]
    subst eqkr12
    subst ekr12
    have hpk12 := tz_pk_N hkr12
    have hRnkr12 := hRn kr12 hkr12
    have hlkr12 : (R kr12).1 = tz_ln σ kr12 := (hag.1 kr12 hkr12).1
    have hgkr12 : ∀ j, j < tz_ln σ kr12 → (R kr12).2 j = tz_sg σ kr12 j := (hag.1 kr12 hkr12).2
    have hakr12 : tz_at (R kr12).1 (R kr12).2 = tz_at (tz_ln σ kr12) (tz_sg σ kr12) := tz_agR.at hag.1 hkr12 (hW.cur.1 kr12 hkr12).1
    have hckr12 : tz_ln σ kr12 ≤ 120 := (hW.cur.1 kr12 hkr12).1
    refine tz_aload C_ 4 rfl td_X_lose_15 ?_
    refine tz_rV C_ tmi_R_length tw_308 tw_309 tw_307 (hT.2.2.2.2.2 kr12 hkr12).1 rfl (As := []) (by exact (ct_R_length (n := (R kr12).1) (g := (R kr12).2) ⟨(hT.2.2.2.2.2 kr12 hkr12).1, (hT.2.2.2.2.2 kr12 hkr12).2⟩)) rfl (rest := []) rfl (by decide) (Nat.le_of_ble_eq_true rfl) td_X_lose_17 (st1 := [.int (nI ((R kr12).1))]) rfl ?_
    refine tz_iload_n C_ 2 rfl rfl td_X_lose_20 ?_
    refine tz_iload_n C_ 3 rfl rfl td_X_lose_21 ?_
    refine tz_rS C_ tmi_X_holds tw_347 tw_346 (As := [.int (nI ((R kr12).1)), .int x, .int n]) (by exact ct_X_holds) rfl (rest := []) rfl (by decide) (Nat.le_of_ble_eq_true rfl) td_X_lose_22 (st1 := [.int (tz_p (tz_hld (nI ((R kr12).1)) x n))]) rfl ?_
    refine tz_if_ne C_ td_X_lose_25 (fun h25 => ?_) (fun h25 => ?_)
    · skip
      replace h25 := tz_p1.mp h25
      obtain ⟨m, mk, em, emk, hmk⟩ := tz_hld_N hRnkr12 h25
      subst em
      subst emk
      refine tz_aload_n C_ 0 rfl rfl td_X_lose_35 ?_
      refine tz_get C_ tci_X 1 (by decide) tw_241 hB0 rfl td_X_lose_36 ?_
      refine tz_aload_n C_ 0 rfl rfl td_X_lose_39 ?_
      refine tz_get C_ tci_X 0 (by decide) tw_240 hB0 rfl td_X_lose_40 ?_
      refine tz_iload_n C_ 1 rfl rfl td_X_lose_43 ?_
      refine tz_cV C_ tmi_H_keep tw_280 tw_281 tw_279 hHi.1 rfl (As := [.ref (B + 1), .int (nI kr12)]) (by exact (ct_H_keep hHi hnx hkp hT (by omega) (hag.2.2.1.fr (fun q h9 => rfl)) (by omega))) rfl (rest := []) rfl (by decide) (Nat.le_of_ble_eq_true rfl) td_X_lose_44 (st1 := []) rfl (fun f11 hF11 => ?_)
      obtain ⟨⟨sK, hSK, hpK, hhK⟩, hqK⟩ := hF11
      refine tz_aload C_ 4 rfl td_X_lose_47 ?_
      have k12 : f11 (B + 1 + 6 + 2 * kr12) = some (tz_obj 5 [.ref (B + 1 + 6 + 2 * kr12 + 1), .int (nI (R kr12).1)]) := ((hqK _ (by omega)).trans (hT.2.2.2.2.2 kr12 hkr12).1)
      have k13 : f11 (B + 1 + 6 + 2 * kr12 + 1) = some (tz_ints cs 120 ((R kr12).2)) := ((hqK _ (by omega)).trans (hT.2.2.2.2.2 kr12 hkr12).2)
      refine tz_rV C_ tmi_R_lostOnes tw_350 tw_351 tw_349 k12 rfl (As := []) (by exact (ct_R_lostOnes (n := (R kr12).1) (g := (R kr12).2) ⟨k12, k13⟩ hRnkr12)) rfl (rest := []) rfl (by decide) (Nat.le_of_ble_eq_true rfl) td_X_lose_49 (st1 := [.int (nI (tz_ct (fun k => decide (((R kr12).2) k = tz_LO)) ((R kr12).1)))]) rfl ?_
      refine tz_istore C_ (lv' := [(0, .ref B), (1, .int (nI kr12)), (2, .int (nI m)), (3, .int (nI mk)), (4, .ref (B + 1 + 6 + 2 * kr12)), (5, .int (nI (tz_ct (fun k => decide (((R kr12).2) k = tz_LO)) ((R kr12).1))))]) [1, 2, 3, 4, 5, 0] (by decide) rfl td_X_lose_52 ?_
      refine tz_iload_n C_ 2 rfl rfl td_X_lose_54 ?_
      refine tz_istore C_ (lv' := [(0, .ref B), (1, .int (nI kr12)), (2, .int (nI m)), (3, .int (nI mk)), (4, .ref (B + 1 + 6 + 2 * kr12)), (5, .int (nI (tz_ct (fun k => decide (((R kr12).2) k = tz_LO)) ((R kr12).1)))), (6, .int (nI m))]) [1, 2, 3, 4, 5, 6, 0] (by decide) rfl td_X_lose_55 ?_
      have k14 : f11 B = some (tz_obj 10 [.ref (B + 1), .ref (B + 15), .ref (B + 157), .ref (B + 166), .ref (B + 168), .ref (B + 169), .ref (B + 177), .int σ.2.2.2]) := ((hqK _ (by omega)).trans hB0)
      have loop57 : ∀ (kk57 : Nat) (i : Nat) (fL : tz_PH), (fL B = some (tz_obj 10 [.ref (B + 1), .ref (B + 15), .ref (B + 157), .ref (B + 166), .ref (B + 168), .ref (B + 169), .ref (B + 177), .int σ.2.2.2])) → (tz_Hist cs fL (B + 15) ((nx + 1) % 20) (min (σ.2.1 + 1) 20) (va_up St nx sK)) → (tz_Row cs fL (B + 1 + 6 + 2 * kr12) ((R kr12).1) (tz_lsg (R kr12).2 m i)) → (∀ q, (q < B + 15 ∨ B + 157 ≤ q) ∧ (q < B + 1 + 6 + 2 * kr12 ∨ B + 1 + 6 + 2 * kr12 + 2 ≤ q) → fL q = f q) → (m ≤ i ∧ i ≤ m + mk) → (m + mk - i) < kk57 → tz_V p_ l e_ rm_X_lose s_ m_ ar_ be_ me_ c_ Q_ A D 7 fL sz 0 0 57 [(0, .ref B), (1, .int (nI kr12)), (2, .int (nI m)), (3, .int (nI mk)), (4, .ref (B + 1 + 6 + 2 * kr12)), (5, .int (nI (tz_lost (R kr12).1 (R kr12).2))), (6, .int (nI i))] [] := by
        intro kk57
        induction kk57 with
        | zero => intro i fL hB1 hHi1 hR1 hfr hmi hm57; omega
        | succ kk57 ih57 =>
          intro i fL hB1 hHi1 hR1 hfr hmi hm57
          refine tz_iload C_ 6 rfl td_X_lose_57 ?_
          refine tz_iload_n C_ 2 rfl rfl td_X_lose_59 ?_
          refine tz_iload_n C_ 3 rfl rfl td_X_lose_60 ?_
          refine tz_iadd C_ td_X_lose_61 ?_
          rw [show ((nI m) + (nI mk) : Int32) = nI (m + mk) from nI_add (m) (mk)]
          refine tz_icmp_ge C_ td_X_lose_62 (fun h62 => ?_) (fun h62 => ?_)
          · skip
            replace h62 := (nI_leI (a := m + mk) (b := i) (by omega) (by omega)).mp h62
            refine tz_aload C_ 4 rfl td_X_lose_80 ?_
            refine tz_rV C_ tmi_R_lostOnes tw_350 tw_351 tw_349 hR1.1 rfl (As := []) (by exact (ct_R_lostOnes (n := (R kr12).1) (g := tz_lsg (R kr12).2 m i) ⟨hR1.1, hR1.2⟩ hRnkr12)) rfl (rest := []) rfl (by decide) (Nat.le_of_ble_eq_true rfl) td_X_lose_82 (st1 := [.int (nI (tz_ct (fun k => decide ((tz_lsg (R kr12).2 m i) k = tz_LO)) ((R kr12).1)))]) rfl ?_
            refine tz_iload C_ 5 rfl td_X_lose_85 ?_
            refine tz_isub C_ td_X_lose_87 ?_
            refine tz_riret C_ hr_ hk_ hQ_ rfl td_X_lose_88 ?_
            have e7 : i = m + mk := by omega
            have e9 : sp_lose σ (nI kr12) (nI m) (nI mk) = ((nI (tz_ct (fun k => decide ((tz_lsg (R kr12).2 m i) k = tz_LO)) ((R kr12).1))) - (nI (tz_lost (R kr12).1 (R kr12).2)), tz_act σ (tz_sr (tz_cur σ) kr12 (tz_ln σ kr12, tz_lsg (tz_sg σ kr12) m (m + mk)))) := by 
              have hh9 := tz_hldN (i := m) (k := mk) hRnkr12 (by omega)
              have a1 : tz_lost (tz_ln σ kr12) (tz_lsg (tz_sg σ kr12) m (m + mk)) = tz_lost (R kr12).1 (tz_lsg (R kr12).2 m i) := by rw [hlkr12, e7]; exact (tz_lost_cg (fun j hj => by simp only [tz_lsg, hgkr12 j hj])).symm
              have a2 : tz_lost (tz_ln σ kr12) (tz_sg σ kr12) = tz_lost (R kr12).1 (R kr12).2 := by rw [hlkr12]; exact (tz_lost_cg hgkr12).symm
              simp only [sp_lose, hpk12]
              rw [if_pos (hlkr12 ▸ hh9), nI_clamp (by omega), nI_clamp (by omega), a1, a2]; rfl
            rw [e9]
            refine ⟨(by rfl), tz_AX_row (s7 := sK) hW hB hT hag hnx hH hQ hkr12 hpK hhK (fun q hh => by rw [hfr q (by omega)]) hB1 hHi1 (hShs.fr (fun q a9 b9 => hfr q (by omega))) ⟨_, _, ⟨((hfr _ (by omega)).trans hTu.1), ((hfr _ (by omega)).trans hTu.2)⟩, htn⟩ ⟨_, _, ((hfr _ (by omega)).trans hAl)⟩ (hPlX.fr (fun q a9 b9 => hfr q (by omega))) (hRoX.fr (fun q a9 b9 => hfr q (by omega))) ⟨hR1.1, hR1.2⟩ ?_, (fun q hh => by rw [hfr q (by omega)])⟩
            exact ⟨hlkr12, fun j hj => by simp only [tz_lsg, hgkr12 j hj, e7]⟩
          · skip
            replace h62 := mt (nI_leI (a := m + mk) (b := i) (by omega) (by omega)).mpr h62
            refine tz_aload C_ 4 rfl td_X_lose_65 ?_
            refine tz_iload C_ 6 rfl td_X_lose_67 ?_
            refine tz_ldc C_ tw_336 td_X_lose_69 ?_
            refine tz_cV C_ tmi_R_set tw_338 tw_339 tw_337 hR1.1 rfl (As := [.int (nI i), .int (-100007)]) (by exact (ct_R_set (n := (R kr12).1) (g := tz_lsg (R kr12).2 m i) ⟨hR1.1, hR1.2⟩ hRnkr12)) rfl (rest := []) rfl (by decide) (Nat.le_of_ble_eq_true rfl) td_X_lose_71 (st1 := []) rfl (fun f15 hF15 => ?_)
            obtain ⟨hP16, hq16⟩ := hF15
            refine tz_iinc C_ (k := 1) (v := nI (i + 1)) (lv' := [(0, .ref B), (1, .int (nI kr12)), (2, .int (nI m)), (3, .int (nI mk)), (4, .ref (B + 1 + 6 + 2 * kr12)), (5, .int (nI (tz_lost (R kr12).1 (R kr12).2))), (6, .int (nI (i + 1)))]) 6 rfl (nI_1 i) [1, 2, 3, 4, 5, 6, 0] (by decide) rfl td_X_lose_74 ?_
            refine tz_goto C_ td_X_lose_77 ?_
            have k17 : f15 B = some (tz_obj 10 [.ref (B + 1), .ref (B + 15), .ref (B + 157), .ref (B + 166), .ref (B + 168), .ref (B + 169), .ref (B + 177), .int σ.2.2.2]) := ((hq16 _ (by omega)).trans hB1)
            have kp18 : tz_Hist cs f15 (B + 15) ((nx + 1) % 20) (min (σ.2.1 + 1) 20) (va_up St nx sK) := hHi1.fr (fun q h1_ h2_ => (hq16 q (by omega)))
            exact ih57 (i + 1) f15 k17 kp18 (⟨hP16.1, by rw [← tz_lsg_n hRnkr12 (by omega) (by omega)]; exact hP16.2⟩) (fun q hh => by rw [hq16 q (by omega), hfr q (by omega)]) (by omega) (by omega)
      exact loop57 _ m f11 k14 hSK (by rw [tz_lsg_0]; exact ⟨k12, k13⟩) (fun q hh => by rw [hqK q (by omega)]) (⟨Nat.le_refl _, by omega⟩) (Nat.lt_succ_self _)
    · skip
      replace h25 := tz_p0.mp h25
      refine tz_aload_n C_ 0 rfl rfl td_X_lose_28 ?_
      refine tz_ldc C_ tw_273 td_X_lose_29 ?_
      refine tz_cV C_ tmi_X_answer tw_276 tw_0 tw_274 hB0 rfl (As := [.int (-100001)]) (by exact (ct_X_answer (v := -100001) hB0)) rfl (rest := []) rfl (by decide) (Nat.le_of_ble_eq_true rfl) td_X_lose_31 (st1 := [.int (-100001)]) rfl (fun f19 hF19 => ?_)
      obtain ⟨hs20, hq20⟩ := hF19
      refine tz_riret C_ hr_ hk_ hQ_ rfl td_X_lose_34 ?_
      have k21 : f19 (B + 166) = some (tz_obj 9 [.ref (B + 166 + 1), .int (nI tn)]) := ((hq20 _ (by omega)).trans hTu.1)
      have k22 : f19 (B + 166 + 1) = some (tz_ints cs 120 tg) := ((hq20 _ (by omega)).trans hTu.2)
      have k23 : f19 (B + 168) = some (tz_obj 0 [.int zA, .int (nI kA)]) := ((hq20 _ (by omega)).trans hAl)
      have kp24 : tz_Tape cs f19 (B + 1) R (tz_cur σ).2.1 o mp ml := hT.fr (fun q h1_ h2_ => (hq20 q (by omega)))
      have kp25 : tz_Hist cs f19 (B + 15) nx σ.2.1 St := hHi.fr (fun q h1_ h2_ => (hq20 q (by omega)))
      have kp26 : tz_Shs cs f19 (B + 157) Sb := hShs.fr (fun q h1_ h2_ => (hq20 q (by omega)))
      have kp27 : tz_PlX cs f19 (B + 169) := hPlX.fr (fun q h1_ h2_ => (hq20 q (by omega)))
      have kp28 : tz_RoX cs f19 (B + 177) := hRoX.fr (fun q h1_ h2_ => (hq20 q (by omega)))
      have e9 : sp_lose σ (nI kr12) x n = tz_an σ (-100001) := by simp only [sp_lose, hpk12]; rw [hlkr12] at h25; rw [if_neg h25]
      rw [e9]
      exact ⟨rfl, ⟨R, o, mp, ml, nx, St, Sb, ⟨hs20, kp24, kp25, kp26, ⟨_, _, ⟨k21, k22⟩, htn⟩, ⟨_, _, k23⟩, kp27, kp28⟩, hag.fr (fun q h9 => (hq20 q (by omega))), hnx, hH.fr (fun q h9 => (hq20 q (by omega))), hQ⟩, (fun q hh => by rw [hq20 q (by omega)])⟩

abbrev rm_X_about : Room := { frames := 3, cells := 0, slots := 0, locals := 67 }
set_option maxHeartbeats 4000000 in
set_option maxRecDepth 100000 in
theorem ct_X_about {l : Launch} {A : Nat → Prop} {D : va_G} {cs : Nat → ClassId} {sz : Nat} {f : tz_PH} {B L0 : Nat} {σ : tz_SG} (hX : tz_AX cs L0 f B σ) (hW : tz_WF σ) (hB : B + 179 ≤ L0) {p w : Int32} : tz_CN l tyX_about prog_1_method_6_code 4 (some (.int)) rm_X_about 0 0 A D cs sz [.ref B, .int p, .int w] f (some (.int (sp_about σ p w).1)) (fun f' => tz_AX cs L0 f' B (sp_about σ p w).2 ∧ ∀ q, (q < B ∨ B + 179 ≤ q) → f' q = f q) := by
  refine tz_C.ofB (lv0 := [(0, .ref B), (1, .int p), (2, .int w)]) (plainFor_of_name (by decide)) (Nat.le_of_ble_eq_true rfl) rfl ?_
  intro p_ e_ s_ m_ ar_ be_ me_ c_ Q_ C_ hr_ hk_ hnm_ hz_ hQ_
  obtain ⟨R, o, mp, ml, nx, St, Sb, hXB, hag, hnx, hH, hQ⟩ := hX
  obtain ⟨hB0, hT, hHi, hShs, hTuX, hAlX, hPlX, hRoX⟩ := hXB
  have hTu9 := hTuX
  obtain ⟨tn, tg, hTu, htn⟩ := hTu9
  have hAl9 := hAlX
  obtain ⟨zA, kA, hAl⟩ := hAl9
  have hPl9 := hPlX
  obtain ⟨pr, px, pfo, pz, pk, ptn, ptg, pn, pg, pn2, pg2, hPl, hpn, hptn⟩ := hPl9
  have hRo9 := hRoX
  obtain ⟨jn, jg, hRo, hjn⟩ := hRo9
  have hrx := hPl.2.2.2.2.2
  have hRn : ∀ p, p < 4 → (R p).1 ≤ 120 := fun p hp => by rw [(hag.1 p hp).1]; exact (hW.cur.1 p hp).1
  have hnl : (tz_cur σ).2.1 ≤ 8 := hW.cur.2.1
  have hkp : σ.2.1 ≤ 20 := hW.1
  have hSn : ∀ s, s < 4 → (Sb s).2.1 ≤ 120 := fun s hs => by rw [(hQ s hs).2.1]; exact (hW.2.2 s hs).1
  refine tz_aload_n C_ 0 rfl rfl td_X_about_0 ?_
  refine tz_get C_ tci_X 0 (by decide) tw_240 hB0 rfl td_X_about_1 ?_
  refine tz_iload_n C_ 1 rfl rfl td_X_about_4 ?_
  refine tz_rV C_ tmi_T_rowAt tw_270 tw_271 tw_269 hT.1 rfl (As := [.int p]) (by exact (ct_T_rowAt hT)) rfl (rest := []) rfl (by decide) (Nat.le_of_ble_eq_true rfl) td_X_about_5 (st1 := [va_rf (tz_rof (B + 1) p)]) rfl ?_
  refine tz_astore_nQ C_ (lv' := [(0, .ref B), (1, .int p), (2, .int w), (3, va_rf (tz_rof (B + 1) p))]) [1, 2, 3, 0] rfl (by decide) rfl td_X_about_8 ?_
  refine tz_aload_nQ C_ 3 rfl rfl td_X_about_9 ?_
  refine tz_ifnonnull C_ td_X_about_10 (fun q10 h10 => ?_) (fun h10 => ?_)
  · skip
    obtain ⟨kr10, hkr10, ekr10, eqkr10⟩ := tz_rof_some h10
    rw [h10]
    subst eqkr10
    subst ekr10
    have hpk10 := tz_pk_N hkr10
    have hRnkr10 := hRn kr10 hkr10
    have hlkr10 : (R kr10).1 = tz_ln σ kr10 := (hag.1 kr10 hkr10).1
    have hgkr10 : ∀ j, j < tz_ln σ kr10 → (R kr10).2 j = tz_sg σ kr10 j := (hag.1 kr10 hkr10).2
    have hakr10 : tz_at (R kr10).1 (R kr10).2 = tz_at (tz_ln σ kr10) (tz_sg σ kr10) := tz_agR.at hag.1 hkr10 (hW.cur.1 kr10 hkr10).1
    have hckr10 : tz_ln σ kr10 ≤ 120 := (hW.cur.1 kr10 hkr10).1
    refine tz_iload_n C_ 2 rfl rfl td_X_about_20 ?_
    by_cases h21_0 : w = 0
    · skip
      refine tz_tableIn C_ td_X_about_21 (off := 31) (tgt := 52) (by rw [h21_0]; decide) (by decide) ?_
      refine tz_aload_n C_ 3 rfl rfl td_X_about_52 ?_
      refine tz_rV C_ tmi_R_length tw_308 tw_309 tw_307 (hT.2.2.2.2.2 kr10 hkr10).1 rfl (As := []) (by exact (ct_R_length (n := (R kr10).1) (g := (R kr10).2) ⟨(hT.2.2.2.2.2 kr10 hkr10).1, (hT.2.2.2.2.2 kr10 hkr10).2⟩)) rfl (rest := []) rfl (by decide) (Nat.le_of_ble_eq_true rfl) td_X_about_53 (st1 := [.int (nI ((R kr10).1))]) rfl ?_
      refine tz_riret C_ hr_ hk_ hQ_ rfl td_X_about_56 ?_
      have e9 : sp_about σ (nI kr10) w = (nI ((R kr10).1), σ) := by 
        simp only [sp_about, hpk10]
        rw [if_pos h21_0, hlkr10]
      rw [e9]
      exact ⟨rfl, ⟨R, o, mp, ml, nx, St, Sb, ⟨hB0, hT, hHi, hShs, ⟨_, _, ⟨hTu.1, hTu.2⟩, htn⟩, ⟨_, _, hAl⟩, hPlX, hRoX⟩, hag.fr (fun q h9 => rfl), hnx, hH.fr (fun q h9 => rfl), hQ⟩, (fun q hh => rfl)⟩
    by_cases h21_1 : w = 1
    · skip
      refine tz_tableIn C_ td_X_about_21 (off := 36) (tgt := 57) (by rw [h21_1]; decide) (by decide) ?_
      refine tz_aload_n C_ 3 rfl rfl td_X_about_57 ?_
      refine tz_rV C_ tmi_R_lostOnes tw_350 tw_351 tw_349 (hT.2.2.2.2.2 kr10 hkr10).1 rfl (As := []) (by exact (ct_R_lostOnes (n := (R kr10).1) (g := (R kr10).2) ⟨(hT.2.2.2.2.2 kr10 hkr10).1, (hT.2.2.2.2.2 kr10 hkr10).2⟩ (by omega))) rfl (rest := []) rfl (by decide) (Nat.le_of_ble_eq_true rfl) td_X_about_58 (st1 := [.int (nI (tz_ct (fun k => decide (((R kr10).2) k = tz_LO)) ((R kr10).1)))]) rfl ?_
      refine tz_riret C_ hr_ hk_ hQ_ rfl td_X_about_61 ?_
      have e9 : sp_about σ (nI kr10) w = (nI (tz_ct (fun k => decide (((R kr10).2) k = tz_LO)) ((R kr10).1)), σ) := by 
        simp only [sp_about, hpk10]
        have a1 : tz_lost (tz_ln σ kr10) (tz_sg σ kr10) = tz_lost (R kr10).1 (R kr10).2 := by rw [hlkr10]; exact (tz_lost_cg hgkr10).symm
        rw [if_neg h21_0, if_pos h21_1, a1]; rfl
      rw [e9]
      exact ⟨rfl, ⟨R, o, mp, ml, nx, St, Sb, ⟨hB0, hT, hHi, hShs, ⟨_, _, ⟨hTu.1, hTu.2⟩, htn⟩, ⟨_, _, hAl⟩, hPlX, hRoX⟩, hag.fr (fun q h9 => rfl), hnx, hH.fr (fun q h9 => rfl), hQ⟩, (fun q hh => rfl)⟩
    by_cases h21_2 : w = 2
    · skip
      refine tz_tableIn C_ td_X_about_21 (off := 41) (tgt := 62) (by rw [h21_2]; decide) (by decide) ?_
      refine tz_aload_n C_ 0 rfl rfl td_X_about_62 ?_
      refine tz_get C_ tci_X 3 (by decide) tw_243 hB0 rfl td_X_about_63 ?_
      refine tz_aload_n C_ 3 rfl rfl td_X_about_66 ?_
      refine tz_cV C_ tmi_U_find tw_363 tw_364 tw_362 hTu.1 rfl (As := [.ref (B + 1 + 6 + 2 * kr10)]) (by exact (ct_U_find (tn := tn) (tg := tg) (n := (R kr10).1) (g := (R kr10).2) ⟨hTu.1, hTu.2⟩ ⟨(hT.2.2.2.2.2 kr10 hkr10).1, (hT.2.2.2.2.2 kr10 hkr10).2⟩ (by omega) (by omega))) rfl (rest := []) rfl (by decide) (Nat.le_of_ble_eq_true rfl) td_X_about_67 (st1 := []) rfl (fun f1 hF1 => ?_)
      obtain ⟨tg2, hT2, ht2, hq2⟩ := hF1
      refine tz_aload_n C_ 0 rfl rfl td_X_about_70 ?_
      have k3 : f1 B = some (tz_obj 10 [.ref (B + 1), .ref (B + 15), .ref (B + 157), .ref (B + 166), .ref (B + 168), .ref (B + 169), .ref (B + 177), .int σ.2.2.2]) := ((hq2 _ (by omega)).trans hB0)
      refine tz_get C_ tci_X 3 (by decide) tw_243 k3 rfl td_X_about_71 ?_
      refine tz_rV C_ tmi_U_found tw_372 tw_373 tw_371 hT2.1 rfl (As := []) (by exact (ct_U_found (tn := (tz_ct (tz_tp ((R kr10).1) ((R kr10).2)) ((R kr10).1))) (tg := tg2) ⟨hT2.1, hT2.2⟩)) rfl (rest := []) rfl (by decide) (Nat.le_of_ble_eq_true rfl) td_X_about_74 (st1 := [.int (nI ((tz_ct (tz_tp ((R kr10).1) ((R kr10).2)) ((R kr10).1))))]) rfl ?_
      refine tz_riret C_ hr_ hk_ hQ_ rfl td_X_about_77 ?_
      have k4 : f1 (B + 168) = some (tz_obj 0 [.int zA, .int (nI kA)]) := ((hq2 _ (by omega)).trans hAl)
      have kp5 : tz_Tape cs f1 (B + 1) R (tz_cur σ).2.1 o mp ml := hT.fr (fun q h1_ h2_ => (hq2 q (by omega)))
      have kp6 : tz_Hist cs f1 (B + 15) nx σ.2.1 St := hHi.fr (fun q h1_ h2_ => (hq2 q (by omega)))
      have kp7 : tz_Shs cs f1 (B + 157) Sb := hShs.fr (fun q h1_ h2_ => (hq2 q (by omega)))
      have kp8 : tz_PlX cs f1 (B + 169) := hPlX.fr (fun q h1_ h2_ => (hq2 q (by omega)))
      have kp9 : tz_RoX cs f1 (B + 177) := hRoX.fr (fun q h1_ h2_ => (hq2 q (by omega)))
      have e9 : sp_about σ (nI kr10) w = (nI ((tz_ct (tz_tp ((R kr10).1) ((R kr10).2)) ((R kr10).1))), σ) := by 
        simp only [sp_about, hpk10]
        have a1 : tz_T (tz_ln σ kr10) (tz_sg σ kr10) = tz_T (R kr10).1 (R kr10).2 := by rw [hlkr10]; exact (tz_T_cg hgkr10 hckr10).symm
        rw [if_neg h21_0, if_neg h21_1, if_pos h21_2, a1]
      rw [e9]
      exact ⟨rfl, ⟨R, o, mp, ml, nx, St, Sb, ⟨k3, kp5, kp6, kp7, ⟨_, _, ⟨hT2.1, hT2.2⟩, (Nat.le_trans (tz_ct_le _ _) (by omega))⟩, ⟨_, _, k4⟩, kp8, kp9⟩, hag.fr (fun q h9 => (hq2 q (by omega))), hnx, hH.fr (fun q h9 => (hq2 q (by omega))), hQ⟩, (fun q hh => by rw [hq2 q (by omega)])⟩
    by_cases h21_3 : w = 3
    · skip
      refine tz_tableIn C_ td_X_about_21 (off := 57) (tgt := 78) (by rw [h21_3]; decide) (by decide) ?_
      refine tz_aload_n C_ 3 rfl rfl td_X_about_78 ?_
      refine tz_bipush C_ (v := 100) (by decide) td_X_about_79 ?_
      refine tz_rV C_ tmi_R_clicks tw_376 tw_377 tw_375 (hT.2.2.2.2.2 kr10 hkr10).1 rfl (As := [.int 100]) (by exact (ct_R_clicks (n := (R kr10).1) (g := (R kr10).2) ⟨(hT.2.2.2.2.2 kr10 hkr10).1, (hT.2.2.2.2.2 kr10 hkr10).2⟩ (by omega))) rfl (rest := []) rfl (by decide) (Nat.le_of_ble_eq_true rfl) td_X_about_81 (st1 := [.int (nI (tz_ct (fun k => decide (tz_click ((R kr10).1) ((R kr10).2) (nI k) 100)) ((R kr10).1)))]) rfl ?_
      refine tz_riret C_ hr_ hk_ hQ_ rfl td_X_about_84 ?_
      have e9 : sp_about σ (nI kr10) w = (nI (tz_ct (fun k => decide (tz_click ((R kr10).1) ((R kr10).2) (nI k) 100)) ((R kr10).1)), σ) := by 
        simp only [sp_about, hpk10]
        have a1 : tz_clk (tz_ln σ kr10) (tz_sg σ kr10) = tz_clk (R kr10).1 (R kr10).2 := by rw [hlkr10]; exact (tz_clk_cg hgkr10 hckr10).symm
        rw [if_neg h21_0, if_neg h21_1, if_neg h21_2, if_pos h21_3, a1]; rfl
      rw [e9]
      exact ⟨rfl, ⟨R, o, mp, ml, nx, St, Sb, ⟨hB0, hT, hHi, hShs, ⟨_, _, ⟨hTu.1, hTu.2⟩, htn⟩, ⟨_, _, hAl⟩, hPlX, hRoX⟩, hag.fr (fun q h9 => rfl), hnx, hH.fr (fun q h9 => rfl), hQ⟩, (fun q hh => rfl)⟩
    refine tz_tableOut C_ td_X_about_21 (tgt := 85) (by decide) ?_ ?_
    · skip
      have := lv_neT h21_0 (show (0 : Int32).toInt = 0 by decide)
      have := lv_neT h21_1 (show (1 : Int32).toInt = 1 by decide)
      have := lv_neT h21_2 (show (2 : Int32).toInt = 2 by decide)
      have := lv_neT h21_3 (show (3 : Int32).toInt = 3 by decide)
      omega
    refine tz_aload_n C_ 0 rfl rfl td_X_about_85 ?_
    refine tz_ldc C_ tw_273 td_X_about_86 ?_
    refine tz_cV C_ tmi_X_answer tw_276 tw_0 tw_274 hB0 rfl (As := [.int (-100001)]) (by exact (ct_X_answer (v := -100001) hB0)) rfl (rest := []) rfl (by decide) (Nat.le_of_ble_eq_true rfl) td_X_about_88 (st1 := [.int (-100001)]) rfl (fun f10 hF10 => ?_)
    obtain ⟨hs11, hq11⟩ := hF10
    refine tz_riret C_ hr_ hk_ hQ_ rfl td_X_about_91 ?_
    have k12 : f10 (B + 166) = some (tz_obj 9 [.ref (B + 166 + 1), .int (nI tn)]) := ((hq11 _ (by omega)).trans hTu.1)
    have k13 : f10 (B + 166 + 1) = some (tz_ints cs 120 tg) := ((hq11 _ (by omega)).trans hTu.2)
    have k14 : f10 (B + 168) = some (tz_obj 0 [.int zA, .int (nI kA)]) := ((hq11 _ (by omega)).trans hAl)
    have kp15 : tz_Tape cs f10 (B + 1) R (tz_cur σ).2.1 o mp ml := hT.fr (fun q h1_ h2_ => (hq11 q (by omega)))
    have kp16 : tz_Hist cs f10 (B + 15) nx σ.2.1 St := hHi.fr (fun q h1_ h2_ => (hq11 q (by omega)))
    have kp17 : tz_Shs cs f10 (B + 157) Sb := hShs.fr (fun q h1_ h2_ => (hq11 q (by omega)))
    have kp18 : tz_PlX cs f10 (B + 169) := hPlX.fr (fun q h1_ h2_ => (hq11 q (by omega)))
    have kp19 : tz_RoX cs f10 (B + 177) := hRoX.fr (fun q h1_ h2_ => (hq11 q (by omega)))
    have e9 : sp_about σ (nI kr10) w = tz_an σ (-100001) := by 
      simp only [sp_about, hpk10]
      rw [if_neg h21_0, if_neg h21_1, if_neg h21_2, if_neg h21_3]
    rw [e9]
    exact ⟨rfl, ⟨R, o, mp, ml, nx, St, Sb, ⟨hs11, kp15, kp16, kp17, ⟨_, _, ⟨k12, k13⟩, htn⟩, ⟨_, _, k14⟩, kp18, kp19⟩, hag.fr (fun q h9 => (hq11 q (by omega))), hnx, hH.fr (fun q h9 => (hq11 q (by omega))), hQ⟩, (fun q hh => by rw [hq11 q (by omega)])⟩
  · skip
    rw [h10]
    have hpk10 := tz_pk_none h10
    refine tz_aload_n C_ 0 rfl rfl td_X_about_13 ?_
    refine tz_ldc C_ tw_273 td_X_about_14 ?_
    refine tz_cV C_ tmi_X_answer tw_276 tw_0 tw_274 hB0 rfl (As := [.int (-100001)]) (by exact (ct_X_answer (v := -100001) hB0)) rfl (rest := []) rfl (by decide) (Nat.le_of_ble_eq_true rfl) td_X_about_16 (st1 := [.int (-100001)]) rfl (fun f20 hF20 => ?_)
    obtain ⟨hs21, hq21⟩ := hF20
    refine tz_riret C_ hr_ hk_ hQ_ rfl td_X_about_19 ?_
    have k22 : f20 (B + 166) = some (tz_obj 9 [.ref (B + 166 + 1), .int (nI tn)]) := ((hq21 _ (by omega)).trans hTu.1)
    have k23 : f20 (B + 166 + 1) = some (tz_ints cs 120 tg) := ((hq21 _ (by omega)).trans hTu.2)
    have k24 : f20 (B + 168) = some (tz_obj 0 [.int zA, .int (nI kA)]) := ((hq21 _ (by omega)).trans hAl)
    have kp25 : tz_Tape cs f20 (B + 1) R (tz_cur σ).2.1 o mp ml := hT.fr (fun q h1_ h2_ => (hq21 q (by omega)))
    have kp26 : tz_Hist cs f20 (B + 15) nx σ.2.1 St := hHi.fr (fun q h1_ h2_ => (hq21 q (by omega)))
    have kp27 : tz_Shs cs f20 (B + 157) Sb := hShs.fr (fun q h1_ h2_ => (hq21 q (by omega)))
    have kp28 : tz_PlX cs f20 (B + 169) := hPlX.fr (fun q h1_ h2_ => (hq21 q (by omega)))
    have kp29 : tz_RoX cs f20 (B + 177) := hRoX.fr (fun q h1_ h2_ => (hq21 q (by omega)))
    have e9 : sp_about σ p w = tz_an σ (-100001) := by simp only [sp_about, hpk10]
    rw [e9]
    exact ⟨rfl, ⟨R, o, mp, ml, nx, St, Sb, ⟨hs21, kp25, kp26, kp27, ⟨_, _, ⟨k22, k23⟩, htn⟩, ⟨_, _, k24⟩, kp28, kp29⟩, hag.fr (fun q h9 => (hq21 q (by omega))), hnx, hH.fr (fun q h9 => (hq21 q (by omega))), hQ⟩, (fun q hh => by rw [hq21 q (by omega)])⟩

abbrev rm_X_turn : Room := { frames := 3, cells := 0, slots := 0, locals := 64 }
set_option maxHeartbeats 4000000 in
set_option maxRecDepth 100000 in
theorem ct_X_turn {l : Launch} {A : Nat → Prop} {D : va_G} {cs : Nat → ClassId} {sz : Nat} {f : tz_PH} {B L0 : Nat} {σ : tz_SG} (hX : tz_AX cs L0 f B σ) (hW : tz_WF σ) (hB : B + 179 ≤ L0) {p i : Int32} : tz_CN l tyX_turn prog_1_method_7_code 4 (some (.int)) rm_X_turn 0 0 A D cs sz [.ref B, .int p, .int i] f (some (.int (sp_turn σ p i).1)) (fun f' => tz_AX cs L0 f' B (sp_turn σ p i).2 ∧ ∀ q, (q < B ∨ B + 179 ≤ q) → f' q = f q) := by
  refine tz_C.ofB (lv0 := [(0, .ref B), (1, .int p), (2, .int i)]) (plainFor_of_name (by decide)) (Nat.le_of_ble_eq_true rfl) rfl ?_
  intro p_ e_ s_ m_ ar_ be_ me_ c_ Q_ C_ hr_ hk_ hnm_ hz_ hQ_
  obtain ⟨R, o, mp, ml, nx, St, Sb, hXB, hag, hnx, hH, hQ⟩ := hX
  obtain ⟨hB0, hT, hHi, hShs, hTuX, hAlX, hPlX, hRoX⟩ := hXB
  have hTu9 := hTuX
  obtain ⟨tn, tg, hTu, htn⟩ := hTu9
  have hAl9 := hAlX
  obtain ⟨zA, kA, hAl⟩ := hAl9
  have hPl9 := hPlX
  obtain ⟨pr, px, pfo, pz, pk, ptn, ptg, pn, pg, pn2, pg2, hPl, hpn, hptn⟩ := hPl9
  have hRo9 := hRoX
  obtain ⟨jn, jg, hRo, hjn⟩ := hRo9
  have hrx := hPl.2.2.2.2.2
  have hRn : ∀ p, p < 4 → (R p).1 ≤ 120 := fun p hp => by rw [(hag.1 p hp).1]; exact (hW.cur.1 p hp).1
  have hnl : (tz_cur σ).2.1 ≤ 8 := hW.cur.2.1
  have hkp : σ.2.1 ≤ 20 := hW.1
  have hSn : ∀ s, s < 4 → (Sb s).2.1 ≤ 120 := fun s hs => by rw [(hQ s hs).2.1]; exact (hW.2.2 s hs).1
  refine tz_aload_n C_ 0 rfl rfl td_X_turn_0 ?_
  refine tz_get C_ tci_X 0 (by decide) tw_240 hB0 rfl td_X_turn_1 ?_
  refine tz_iload_n C_ 1 rfl rfl td_X_turn_4 ?_
  refine tz_rV C_ tmi_T_rowAt tw_270 tw_271 tw_269 hT.1 rfl (As := [.int p]) (by exact (ct_T_rowAt hT)) rfl (rest := []) rfl (by decide) (Nat.le_of_ble_eq_true rfl) td_X_turn_5 (st1 := [va_rf (tz_rof (B + 1) p)]) rfl ?_
  refine tz_astore_nQ C_ (lv' := [(0, .ref B), (1, .int p), (2, .int i), (3, va_rf (tz_rof (B + 1) p))]) [1, 2, 3, 0] rfl (by decide) rfl td_X_turn_8 ?_
  refine tz_aload_nQ C_ 3 rfl rfl td_X_turn_9 ?_
  refine tz_ifnonnull C_ td_X_turn_10 (fun q10 h10 => ?_) (fun h10 => ?_)
  · skip
    obtain ⟨kr10, hkr10, ekr10, eqkr10⟩ := tz_rof_some h10
    rw [h10]
    subst eqkr10
    subst ekr10
    have hpk10 := tz_pk_N hkr10
    have hRnkr10 := hRn kr10 hkr10
    have hlkr10 : (R kr10).1 = tz_ln σ kr10 := (hag.1 kr10 hkr10).1
    have hgkr10 : ∀ j, j < tz_ln σ kr10 → (R kr10).2 j = tz_sg σ kr10 j := (hag.1 kr10 hkr10).2
    have hakr10 : tz_at (R kr10).1 (R kr10).2 = tz_at (tz_ln σ kr10) (tz_sg σ kr10) := tz_agR.at hag.1 hkr10 (hW.cur.1 kr10 hkr10).1
    have hckr10 : tz_ln σ kr10 ≤ 120 := (hW.cur.1 kr10 hkr10).1
    refine tz_aload_n C_ 0 rfl rfl td_X_turn_20 ?_
    refine tz_get C_ tci_X 3 (by decide) tw_243 hB0 rfl td_X_turn_21 ?_
    refine tz_aload_n C_ 3 rfl rfl td_X_turn_24 ?_
    refine tz_cV C_ tmi_U_find tw_363 tw_364 tw_362 hTu.1 rfl (As := [.ref (B + 1 + 6 + 2 * kr10)]) (by exact (ct_U_find (tn := tn) (tg := tg) (n := (R kr10).1) (g := (R kr10).2) ⟨hTu.1, hTu.2⟩ ⟨(hT.2.2.2.2.2 kr10 hkr10).1, (hT.2.2.2.2.2 kr10 hkr10).2⟩ (by omega) (by omega))) rfl (rest := []) rfl (by decide) (Nat.le_of_ble_eq_true rfl) td_X_turn_25 (st1 := []) rfl (fun f1 hF1 => ?_)
    obtain ⟨tg2, hT2, ht2, hq2⟩ := hF1
    have hT9 : tz_ct (tz_tp (R kr10).1 (R kr10).2) (R kr10).1 ≤ 120 := Nat.le_trans (tz_ct_le _ _) hRnkr10
    refine tz_aload_n C_ 0 rfl rfl td_X_turn_28 ?_
    refine tz_aload_n C_ 0 rfl rfl td_X_turn_29 ?_
    have k3 : f1 B = some (tz_obj 10 [.ref (B + 1), .ref (B + 15), .ref (B + 157), .ref (B + 166), .ref (B + 168), .ref (B + 169), .ref (B + 177), .int σ.2.2.2]) := ((hq2 _ (by omega)).trans hB0)
    refine tz_get C_ tci_X 3 (by decide) tw_243 k3 rfl td_X_turn_30 ?_
    refine tz_iload_n C_ 2 rfl rfl td_X_turn_33 ?_
    refine tz_rV C_ tmi_U_placeAt tw_388 tw_389 tw_387 hT2.1 rfl (As := [.int i]) (by exact (ct_U_placeAt (tn := (tz_ct (tz_tp ((R kr10).1) ((R kr10).2)) ((R kr10).1))) (tg := tg2) ⟨hT2.1, hT2.2⟩ (by omega))) rfl (rest := [.ref B]) rfl (by decide) (Nat.le_of_ble_eq_true rfl) td_X_turn_34 (st1 := [.int (tz_pl ((tz_ct (tz_tp ((R kr10).1) ((R kr10).2)) ((R kr10).1))) tg2 i), .ref B]) rfl ?_
    refine tz_cV C_ tmi_X_answer tw_276 tw_0 tw_274 k3 rfl (As := [.int (tz_pl ((tz_ct (tz_tp ((R kr10).1) ((R kr10).2)) ((R kr10).1))) tg2 i)]) (by exact (ct_X_answer (v := tz_pl ((tz_ct (tz_tp ((R kr10).1) ((R kr10).2)) ((R kr10).1))) tg2 i) k3)) rfl (rest := []) rfl (by decide) (Nat.le_of_ble_eq_true rfl) td_X_turn_37 (st1 := [.int (tz_pl ((tz_ct (tz_tp ((R kr10).1) ((R kr10).2)) ((R kr10).1))) tg2 i)]) rfl (fun f4 hF4 => ?_)
    obtain ⟨hs5, hq5⟩ := hF4
    refine tz_riret C_ hr_ hk_ hQ_ rfl td_X_turn_40 ?_
    have k6 : f4 (B + 166) = some (tz_obj 9 [.ref (B + 166 + 1), .int (nI (tz_ct (tz_tp ((R kr10).1) ((R kr10).2)) ((R kr10).1)))]) := ((hq5 _ (by omega)).trans hT2.1)
    have k7 : f4 (B + 166 + 1) = some (tz_ints cs 120 tg2) := ((hq5 _ (by omega)).trans hT2.2)
    have k8 : f4 (B + 168) = some (tz_obj 0 [.int zA, .int (nI kA)]) := ((hq5 _ (by omega)).trans ((hq2 _ (by omega)).trans hAl))
    have kp9 : tz_Tape cs f4 (B + 1) R (tz_cur σ).2.1 o mp ml := hT.fr (fun q h1_ h2_ => ((hq5 q (by omega)).trans (hq2 q (by omega))))
    have kp10 : tz_Hist cs f4 (B + 15) nx σ.2.1 St := hHi.fr (fun q h1_ h2_ => ((hq5 q (by omega)).trans (hq2 q (by omega))))
    have kp11 : tz_Shs cs f4 (B + 157) Sb := hShs.fr (fun q h1_ h2_ => ((hq5 q (by omega)).trans (hq2 q (by omega))))
    have kp12 : tz_PlX cs f4 (B + 169) := hPlX.fr (fun q h1_ h2_ => ((hq5 q (by omega)).trans (hq2 q (by omega))))
    have kp13 : tz_RoX cs f4 (B + 177) := hRoX.fr (fun q h1_ h2_ => ((hq5 q (by omega)).trans (hq2 q (by omega))))
    have e9 : sp_turn σ (nI kr10) i = tz_an σ (tz_pl ((tz_ct (tz_tp ((R kr10).1) ((R kr10).2)) ((R kr10).1))) tg2 i) := by 
      simp only [sp_turn, hpk10]
      have a1 : tz_T (tz_ln σ kr10) (tz_sg σ kr10) = tz_T (R kr10).1 (R kr10).2 := by rw [hlkr10]; exact (tz_T_cg hgkr10 hckr10).symm
      have a2 : tz_tg (tz_ln σ kr10) (tz_sg σ kr10) = tz_tg (R kr10).1 (R kr10).2 := by rw [hlkr10]; exact (tz_tg_cg hgkr10 hckr10).symm
      rw [a1, a2, ← tz_pl_cg (t := tg2) (t' := tz_tg (R kr10).1 (R kr10).2) ht2 hT9 i]
    rw [e9]
    exact ⟨rfl, ⟨R, o, mp, ml, nx, St, Sb, ⟨hs5, kp9, kp10, kp11, ⟨_, _, ⟨k6, k7⟩, (Nat.le_trans (tz_ct_le _ _) (by omega))⟩, ⟨_, _, k8⟩, kp12, kp13⟩, hag.fr (fun q h9 => ((hq5 q (by omega)).trans (hq2 q (by omega)))), hnx, hH.fr (fun q h9 => ((hq5 q (by omega)).trans (hq2 q (by omega)))), hQ⟩, (fun q hh => by rw [hq5 q (by omega), hq2 q (by omega)])⟩
  · skip
    rw [h10]
    have hpk10 := tz_pk_none h10
    refine tz_aload_n C_ 0 rfl rfl td_X_turn_13 ?_
    refine tz_ldc C_ tw_273 td_X_turn_14 ?_
    refine tz_cV C_ tmi_X_answer tw_276 tw_0 tw_274 hB0 rfl (As := [.int (-100001)]) (by exact (ct_X_answer (v := -100001) hB0)) rfl (rest := []) rfl (by decide) (Nat.le_of_ble_eq_true rfl) td_X_turn_16 (st1 := [.int (-100001)]) rfl (fun f14 hF14 => ?_)
    obtain ⟨hs15, hq15⟩ := hF14
    refine tz_riret C_ hr_ hk_ hQ_ rfl td_X_turn_19 ?_
    have k16 : f14 (B + 166) = some (tz_obj 9 [.ref (B + 166 + 1), .int (nI tn)]) := ((hq15 _ (by omega)).trans hTu.1)
    have k17 : f14 (B + 166 + 1) = some (tz_ints cs 120 tg) := ((hq15 _ (by omega)).trans hTu.2)
    have k18 : f14 (B + 168) = some (tz_obj 0 [.int zA, .int (nI kA)]) := ((hq15 _ (by omega)).trans hAl)
    have kp19 : tz_Tape cs f14 (B + 1) R (tz_cur σ).2.1 o mp ml := hT.fr (fun q h1_ h2_ => (hq15 q (by omega)))
    have kp20 : tz_Hist cs f14 (B + 15) nx σ.2.1 St := hHi.fr (fun q h1_ h2_ => (hq15 q (by omega)))
    have kp21 : tz_Shs cs f14 (B + 157) Sb := hShs.fr (fun q h1_ h2_ => (hq15 q (by omega)))
    have kp22 : tz_PlX cs f14 (B + 169) := hPlX.fr (fun q h1_ h2_ => (hq15 q (by omega)))
    have kp23 : tz_RoX cs f14 (B + 177) := hRoX.fr (fun q h1_ h2_ => (hq15 q (by omega)))
    have e9 : sp_turn σ p i = tz_an σ (-100001) := by simp only [sp_turn, hpk10]
    rw [e9]
    exact ⟨rfl, ⟨R, o, mp, ml, nx, St, Sb, ⟨hs15, kp19, kp20, kp21, ⟨_, _, ⟨k16, k17⟩, htn⟩, ⟨_, _, k18⟩, kp22, kp23⟩, hag.fr (fun q h9 => (hq15 q (by omega))), hnx, hH.fr (fun q h9 => (hq15 q (by omega))), hQ⟩, (fun q hh => by rw [hq15 q (by omega)])⟩
