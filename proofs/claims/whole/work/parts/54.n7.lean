abbrev rm_M_out : Room := { frames := 8, cells := 0, slots := 0, locals := 189 }
set_option maxHeartbeats 4000000 in
set_option maxRecDepth 100000 in
theorem ct_M_out {l : Launch} {A : Nat → Prop} {D : va_G} {cs : Nat → ClassId} {sz : Nat} {f : tz_PH} {M : Nat} {σ : tz_SG} (hX : tz_AM cs f M σ) (hW : tz_WF σ) {p i : Int32} : tz_CN l tyM_out prog_13_method_53_code 3 (some (.int)) rm_M_out 0 0 A D cs sz [.ref M, .int p, .int i] f (some (.int (sp_out σ p i).1)) (fun f' => tz_AM cs f' M (sp_out σ p i).2 ∧ ∀ q, (q < M ∨ M + 9 ≤ q) → f' q = f q) := by
  refine tz_C.ofB (lv0 := [(0, .ref M), (1, .int p), (2, .int i)]) (plainFor_of_name (by decide)) (Nat.le_of_ble_eq_true rfl) rfl ?_
  intro p_ e_ s_ m_ ar_ be_ me_ c_ Q_ C_ hr_ hk_ hnm_ hz_ hQ_
  obtain ⟨ms, ns, tg, nw, pa, bi, nu, sh, ro, ma, ca, hM, hE, hH, hQ⟩ := hX
  have hWT := hW.cur
  have hkp : σ.2.1 ≤ 20 := hW.1
  have hl8 := hWT.2.1
  refine tz_iload_n C_ 1 rfl rfl td_M_out_0 ?_
  refine tz_rS C_ tmi_M_isPass tw_807 tw_806 (As := [.int p]) (by exact ct_M_isPass) rfl (rest := []) rfl (by decide) (Nat.le_of_ble_eq_true rfl) td_M_out_1 (st1 := [.int (tz_p (0 ≤ p ∧ p < 4))]) rfl ?_
  refine tz_if_ne C_ td_M_out_4 (fun h4 => ?_) (fun h4 => ?_)
  · skip
    replace h4 := tz_p1.mp h4
    obtain ⟨k, hk, ek⟩ := tz_pk_in h4
    subst ek
    have hpk4 := tz_pk_N hk
    have hnk : tz_ln σ k ≤ 120 := (hWT.1 k hk).1
    have hNk : ((tz_cur σ).1 k).1 ≤ 120 := (hWT.1 k hk).1
    refine tz_aload_n C_ 0 rfl rfl td_M_out_14 ?_
    refine tz_iload_n C_ 1 rfl rfl td_M_out_15 ?_
    refine tz_cV C_ tmi_M_output tw_950 tw_28 tw_948 hM.1 rfl (As := [.int (nI k)]) (by exact (ct_M_output ⟨hM.1, hM.2.1, hM.2.2.1, hM.2.2.2.1, hM.2.2.2.2.1, hM.2.2.2.2.2.1, hM.2.2.2.2.2.2.1, hM.2.2.2.2.2.2.2.1, hM.2.2.2.2.2.2.2.2⟩ hE hWT (k := k) (by omega))) rfl (rest := []) rfl (by decide) (Nat.le_of_ble_eq_true rfl) td_M_out_16 (st1 := []) rfl (fun f1 hF1 => ?_)
    obtain ⟨⟨roW, maW, nsW, tgW, hMW, herW⟩, hqW⟩ := hF1
    have hokW : tz_okr (tz_ou (tz_cur σ) k (-1)).1 (tz_ou (tz_cur σ) k (-1)).2.1 := (tz_rn_ok hWT hk (-1) _ (Nat.le_refl _)).1
    have hleW : (tz_ou (tz_cur σ) k (-1)).1 ≤ 120 := tz_ou_le hWT hk (-1)
    refine tz_iload_n C_ 2 rfl rfl td_M_out_19 ?_
    refine tz_iconst C_ (v := 0) (by decide) td_M_out_20 ?_
    refine tz_aload_n C_ 0 rfl rfl td_M_out_21 ?_
    refine tz_get C_ tci_M 7 (by decide) tw_760 hMW.1 rfl td_M_out_22 ?_
    refine tz_iconst C_ (v := 1) (by decide) td_M_out_25 ?_
    refine tz_isub C_ td_M_out_26 ?_
    refine tz_rS C_ tmi_M_in tw_810 tw_809 (As := [.int i, .int 0, .int ((nI (tz_ou (tz_cur σ) k (-1)).1) - 1)]) (by exact ct_M_in) rfl (rest := []) rfl (by decide) (Nat.le_of_ble_eq_true rfl) td_M_out_27 (st1 := [.int (tz_p (0 ≤ i ∧ i ≤ ((nI (tz_ou (tz_cur σ) k (-1)).1) - 1)))]) rfl ?_
    refine tz_if_ne C_ td_M_out_30 (fun h30 => ?_) (fun h30 => ?_)
    · skip
      replace h30 := tz_p1.mp h30
      rw [tz_leN (by omega)] at h30
      obtain ⟨j, hj, ej⟩ := vp_in_of (x := i) (n := (tz_ou (tz_cur σ) k (-1)).1) (tz_inI (tz_le_nlt h30.1) h30.2 (by omega)) (by omega)
      subst ej
      have hat := tz_at_N (g := (tz_ou (tz_cur σ) k (-1)).2.1) hleW hj
      have hlo := tz_er_lo herW hokW hj
      have hokj := hokW j hj
      refine tz_aload_n C_ 0 rfl rfl td_M_out_40 ?_
      refine tz_get C_ tci_M 8 (by decide) tw_761 hMW.1 rfl td_M_out_41 ?_
      refine tz_iload_n C_ 2 rfl rfl td_M_out_44 ?_
      refine tz_ialdN C_ hMW.2.2.2.2.2.2.1 (by omega) (by decide) td_M_out_45 ?_
      refine tz_ldc C_ tw_829 td_M_out_46 ?_
      refine tz_icmp_ne C_ td_M_out_48 (fun h48 => ?_) (fun h48 => ?_)
      · skip
        refine tz_aload_n C_ 0 rfl rfl td_M_out_60 ?_
        refine tz_get C_ tci_M 8 (by decide) tw_761 hMW.1 rfl td_M_out_61 ?_
        refine tz_iload_n C_ 2 rfl rfl td_M_out_64 ?_
        refine tz_ialdN C_ hMW.2.2.2.2.2.2.1 (by omega) (by decide) td_M_out_65 ?_
        refine tz_riret C_ hr_ hk_ hQ_ rfl td_M_out_66 ?_
        have e9 : sp_out σ (nI k) (nI j) = (roW j, σ) := by simp only [sp_out, hpk4]; rw [if_pos h30, hat, tz_an_n (tz_mo_big hokj (mt hlo.mpr h48)), tz_er_v herW hj (mt hlo.mpr h48)]
        rw [e9]
        exact ⟨rfl, ⟨_, _, _, _, _, _, _, _, _, _, _, ⟨hMW.1, hMW.2.1, hMW.2.2.1, hMW.2.2.2.1, hMW.2.2.2.2.1, hMW.2.2.2.2.2.1, hMW.2.2.2.2.2.2.1, hMW.2.2.2.2.2.2.2.1, hMW.2.2.2.2.2.2.2.2⟩, hE, hH, hQ⟩, (fun q hh => by rw [hqW q (by omega)])⟩
      · skip
        refine tz_aload_n C_ 0 rfl rfl td_M_out_51 ?_
        refine tz_ldc C_ tw_838 td_M_out_52 ?_
        refine tz_cV C_ tmi_M_finding tw_800 tw_14 tw_798 hMW.1 rfl (As := [.int (-100007)]) (by exact (ct_M_finding (v := -100007) hMW.1)) rfl (rest := []) rfl (by decide) (Nat.le_of_ble_eq_true rfl) td_M_out_54 (st1 := [.int (-100007)]) rfl (fun f2 hF2 => ?_)
        obtain ⟨hs3, hq3⟩ := hF2
        refine tz_goto C_ td_M_out_57 ?_
        refine tz_riret C_ hr_ hk_ hQ_ rfl td_M_out_66 ?_
        have k4 : f2 (M + 1) = some (tz_ints cs 532 nw) := ((hq3 _ (by omega)).trans hMW.2.1)
        have k5 : f2 (M + 2) = some (tz_ints cs 10640 pa) := ((hq3 _ (by omega)).trans hMW.2.2.1)
        have k6 : f2 (M + 3) = some (tz_ints cs 4 bi) := ((hq3 _ (by omega)).trans hMW.2.2.2.1)
        have k7 : f2 (M + 4) = some (tz_ints cs 4 nu) := ((hq3 _ (by omega)).trans hMW.2.2.2.2.1)
        have k8 : f2 (M + 5) = some (tz_ints cs 480 sh) := ((hq3 _ (by omega)).trans hMW.2.2.2.2.2.1)
        have k9 : f2 (M + 6) = some (tz_ints cs 120 roW) := ((hq3 _ (by omega)).trans hMW.2.2.2.2.2.2.1)
        have k10 : f2 (M + 7) = some (tz_ints cs 120 maW) := ((hq3 _ (by omega)).trans hMW.2.2.2.2.2.2.2.1)
        have k11 : f2 (M + 8) = some (tz_ints cs 120 ca) := ((hq3 _ (by omega)).trans hMW.2.2.2.2.2.2.2.2)
        have e9 : sp_out σ (nI k) (nI j) = (-100007, tz_fnd σ) := by simp only [sp_out, hpk4]; rw [if_pos h30, hat, hlo.mp h48, tz_an_f (by decide)]
        rw [e9]
        exact ⟨rfl, ⟨_, _, _, _, _, _, _, _, _, _, _, ⟨hs3, k4, k5, k6, k7, k8, k9, k10, k11⟩, hE, hH, hQ⟩, (fun q hh => by rw [hq3 q (by omega), hqW q (by omega)])⟩
    · skip
      replace h30 := tz_p0.mp h30
      rw [tz_leN (by omega)] at h30
      refine tz_aload_n C_ 0 rfl rfl td_M_out_33 ?_
      refine tz_ldc C_ tw_812 td_M_out_34 ?_
      refine tz_cV C_ tmi_M_finding tw_800 tw_14 tw_798 hMW.1 rfl (As := [.int (-100001)]) (by exact (ct_M_finding (v := -100001) hMW.1)) rfl (rest := []) rfl (by decide) (Nat.le_of_ble_eq_true rfl) td_M_out_36 (st1 := [.int (-100001)]) rfl (fun f12 hF12 => ?_)
      obtain ⟨hs13, hq13⟩ := hF12
      refine tz_riret C_ hr_ hk_ hQ_ rfl td_M_out_39 ?_
      have k14 : f12 (M + 1) = some (tz_ints cs 532 nw) := ((hq13 _ (by omega)).trans hMW.2.1)
      have k15 : f12 (M + 2) = some (tz_ints cs 10640 pa) := ((hq13 _ (by omega)).trans hMW.2.2.1)
      have k16 : f12 (M + 3) = some (tz_ints cs 4 bi) := ((hq13 _ (by omega)).trans hMW.2.2.2.1)
      have k17 : f12 (M + 4) = some (tz_ints cs 4 nu) := ((hq13 _ (by omega)).trans hMW.2.2.2.2.1)
      have k18 : f12 (M + 5) = some (tz_ints cs 480 sh) := ((hq13 _ (by omega)).trans hMW.2.2.2.2.2.1)
      have k19 : f12 (M + 6) = some (tz_ints cs 120 roW) := ((hq13 _ (by omega)).trans hMW.2.2.2.2.2.2.1)
      have k20 : f12 (M + 7) = some (tz_ints cs 120 maW) := ((hq13 _ (by omega)).trans hMW.2.2.2.2.2.2.2.1)
      have k21 : f12 (M + 8) = some (tz_ints cs 120 ca) := ((hq13 _ (by omega)).trans hMW.2.2.2.2.2.2.2.2)
      have e9 : sp_out σ (nI k) i = (-100001, tz_fnd σ) := by simp only [sp_out, hpk4]; rw [if_neg h30, tz_an_f (by decide)]
      rw [e9]
      exact ⟨rfl, ⟨_, _, _, _, _, _, _, _, _, _, _, ⟨hs13, k14, k15, k16, k17, k18, k19, k20, k21⟩, hE, hH, hQ⟩, (fun q hh => by rw [hq13 q (by omega), hqW q (by omega)])⟩
  · skip
    replace h4 := tz_p0.mp h4
    have hpk4 := tz_pk_out h4
    refine tz_aload_n C_ 0 rfl rfl td_M_out_7 ?_
    refine tz_ldc C_ tw_812 td_M_out_8 ?_
    refine tz_cV C_ tmi_M_finding tw_800 tw_14 tw_798 hM.1 rfl (As := [.int (-100001)]) (by exact (ct_M_finding (v := -100001) hM.1)) rfl (rest := []) rfl (by decide) (Nat.le_of_ble_eq_true rfl) td_M_out_10 (st1 := [.int (-100001)]) rfl (fun f22 hF22 => ?_)
    obtain ⟨hs23, hq23⟩ := hF22
    refine tz_riret C_ hr_ hk_ hQ_ rfl td_M_out_13 ?_
    have k24 : f22 (M + 1) = some (tz_ints cs 532 nw) := ((hq23 _ (by omega)).trans hM.2.1)
    have k25 : f22 (M + 2) = some (tz_ints cs 10640 pa) := ((hq23 _ (by omega)).trans hM.2.2.1)
    have k26 : f22 (M + 3) = some (tz_ints cs 4 bi) := ((hq23 _ (by omega)).trans hM.2.2.2.1)
    have k27 : f22 (M + 4) = some (tz_ints cs 4 nu) := ((hq23 _ (by omega)).trans hM.2.2.2.2.1)
    have k28 : f22 (M + 5) = some (tz_ints cs 480 sh) := ((hq23 _ (by omega)).trans hM.2.2.2.2.2.1)
    have k29 : f22 (M + 6) = some (tz_ints cs 120 ro) := ((hq23 _ (by omega)).trans hM.2.2.2.2.2.2.1)
    have k30 : f22 (M + 7) = some (tz_ints cs 120 ma) := ((hq23 _ (by omega)).trans hM.2.2.2.2.2.2.2.1)
    have k31 : f22 (M + 8) = some (tz_ints cs 120 ca) := ((hq23 _ (by omega)).trans hM.2.2.2.2.2.2.2.2)
    have e9 : sp_out σ p i = (-100001, tz_fnd σ) := by simp only [sp_out, hpk4]; rw [tz_an_f (by decide)]
    rw [e9]
    exact ⟨rfl, ⟨_, _, _, _, _, _, _, _, _, _, _, ⟨hs23, k24, k25, k26, k27, k28, k29, k30, k31⟩, hE, hH, hQ⟩, (fun q hh => by rw [hq23 q (by omega)])⟩
