
theorem tz_has_y {s : tz_SG} {p i : Int32} (h : tz_has (tz_cur s) p i) (hW : tz_WT (tz_cur s)) : ∃ k j, k < 4 ∧ p = nI k ∧ j < tz_ln s k ∧ i = nI j ∧ tz_pk p = some k := by
  obtain ⟨h1, h2, h3⟩ := h
  obtain ⟨k, hk, e⟩ := tz_pk_in h1
  subst e
  rw [nI_clamp (by omega)] at h3
  have hn : tz_ln s k ≤ 120 := (hW.1 k hk).1
  obtain ⟨j, hj, e2⟩ := vp_in_of (x := i) (n := tz_ln s k) (tz_inI (tz_le_nlt h2) h3 (by omega)) (by omega)
  exact ⟨k, j, hk, rfl, hj, e2, tz_pk_N hk⟩
theorem tz_has_n {s : tz_SG} {p i : Int32} {k : Nat} (h : ¬ tz_has (tz_cur s) p i) (hp : tz_pk p = some k) : ¬ (0 ≤ i ∧ i < nI (tz_ln s k)) := by
  unfold tz_pk at hp
  split at hp
  · rename_i h1
    have e := Option.some.inj hp
    subst e
    exact fun z => h ⟨h1, z⟩
  · cases hp

abbrev rm_M_sample : Room := { frames := 3, cells := 0, slots := 0, locals := 64 }
set_option maxHeartbeats 4000000 in
set_option maxRecDepth 100000 in
theorem ct_M_sample {l : Launch} {A : Nat → Prop} {D : va_G} {cs : Nat → ClassId} {sz : Nat} {f : tz_PH} {M : Nat} {σ : tz_SG} (hX : tz_AM cs f M σ) (hW : tz_WF σ) {p i : Int32} : tz_CN l tyM_sample prog_13_method_14_code 3 (some (.int)) rm_M_sample 0 0 A D cs sz [.ref M, .int p, .int i] f (some (.int (sp_sample σ p i).1)) (fun f' => tz_AM cs f' M (sp_sample σ p i).2 ∧ ∀ q, (q < M ∨ M + 9 ≤ q) → f' q = f q) := by
  refine tz_C.ofB (lv0 := [(0, .ref M), (1, .int p), (2, .int i)]) (plainFor_of_name (by decide)) (Nat.le_of_ble_eq_true rfl) rfl ?_
  intro p_ e_ s_ m_ ar_ be_ me_ c_ Q_ C_ hr_ hk_ hnm_ hz_ hQ_
  obtain ⟨ms, ns, tg, nw, pa, bi, nu, sh, ro, ma, ca, hM, hE, hH, hQ⟩ := hX
  have hWT := hW.cur
  have hkp : σ.2.1 ≤ 20 := hW.1
  have hl8 := hWT.2.1
  refine tz_aload_n C_ 0 rfl rfl td_M_sample_0 ?_
  refine tz_iload_n C_ 1 rfl rfl td_M_sample_1 ?_
  refine tz_iload_n C_ 2 rfl rfl td_M_sample_2 ?_
  refine tz_rV C_ tmi_M_isSample tw_823 tw_16 tw_821 hM.1 rfl (As := [.int p, .int i]) (by exact (ct_M_isSample ⟨hM.1, hM.2.1, hM.2.2.1, hM.2.2.2.1, hM.2.2.2.2.1, hM.2.2.2.2.2.1, hM.2.2.2.2.2.2.1, hM.2.2.2.2.2.2.2.1, hM.2.2.2.2.2.2.2.2⟩ hE hWT)) rfl (rest := []) rfl (by decide) (Nat.le_of_ble_eq_true rfl) td_M_sample_3 (st1 := [.int (tz_p (tz_has (tz_cur σ) p i))]) rfl ?_
  refine tz_if_ne C_ td_M_sample_6 (fun h6 => ?_) (fun h6 => ?_)
  · skip
    replace h6 := tz_p1.mp h6
    obtain ⟨k, j, hk, ek, hj, ej, hpk⟩ := tz_has_y h6 hWT
    subst ek
    subst ej
    have hnk : tz_ln σ k ≤ 120 := (hWT.1 k hk).1
    have hin : (0 ≤ nI j ∧ nI j < nI (tz_ln σ k)) := (tz_has_iff (by omega) (by omega)).mpr hj
    have hat := tz_at_N (g := tz_sg σ k) hnk hj
    have hok : tz_okv (tz_sg σ k j) := (hWT.1 k hk).2 j hj
    refine tz_aload_n C_ 0 rfl rfl td_M_sample_16 ?_
    refine tz_iload_n C_ 1 rfl rfl td_M_sample_17 ?_
    refine tz_iload_n C_ 2 rfl rfl td_M_sample_18 ?_
    refine tz_rV C_ tmi_M_at tw_827 tw_17 tw_825 hM.1 rfl (As := [.int (nI k), .int (nI j)]) (by exact (ct_M_at ⟨hM.1, hM.2.1, hM.2.2.1, hM.2.2.2.1, hM.2.2.2.2.1, hM.2.2.2.2.2.1, hM.2.2.2.2.2.2.1, hM.2.2.2.2.2.2.2.1, hM.2.2.2.2.2.2.2.2⟩ hE hWT (k := k) (j := j) (by omega) (by omega))) rfl (rest := []) rfl (by decide) (Nat.le_of_ble_eq_true rfl) td_M_sample_19 (st1 := [.int (tz_mo (((tz_cur σ).1 k).2 j))]) rfl ?_
    refine tz_ldc C_ tw_829 td_M_sample_22 ?_
    refine tz_icmp_ne C_ td_M_sample_24 (fun h24 => ?_) (fun h24 => ?_)
    · skip
      refine tz_aload_n C_ 0 rfl rfl td_M_sample_36 ?_
      refine tz_iload_n C_ 1 rfl rfl td_M_sample_37 ?_
      refine tz_iload_n C_ 2 rfl rfl td_M_sample_38 ?_
      refine tz_rV C_ tmi_M_at tw_827 tw_17 tw_825 hM.1 rfl (As := [.int (nI k), .int (nI j)]) (by exact (ct_M_at ⟨hM.1, hM.2.1, hM.2.2.1, hM.2.2.2.1, hM.2.2.2.2.1, hM.2.2.2.2.2.1, hM.2.2.2.2.2.2.1, hM.2.2.2.2.2.2.2.1, hM.2.2.2.2.2.2.2.2⟩ hE hWT (k := k) (j := j) (by omega) (by omega))) rfl (rest := []) rfl (by decide) (Nat.le_of_ble_eq_true rfl) td_M_sample_39 (st1 := [.int (tz_mo (((tz_cur σ).1 k).2 j))]) rfl ?_
      refine tz_riret C_ hr_ hk_ hQ_ rfl td_M_sample_42 ?_
      have e9 : sp_sample σ (nI k) (nI j) = (tz_mo (((tz_cur σ).1 k).2 j), σ) := by simp only [sp_sample, hpk]; rw [if_pos hin, hat, tz_mo_id (mt (tz_mo_lo hok).mpr h24), tz_an_n (tz_mo_big hok (mt (tz_mo_lo hok).mpr h24))]
      rw [e9]
      exact ⟨rfl, ⟨_, _, _, _, _, _, _, _, _, _, _, ⟨hM.1, hM.2.1, hM.2.2.1, hM.2.2.2.1, hM.2.2.2.2.1, hM.2.2.2.2.2.1, hM.2.2.2.2.2.2.1, hM.2.2.2.2.2.2.2.1, hM.2.2.2.2.2.2.2.2⟩, hE, hH, hQ⟩, (fun q hh => rfl)⟩
    · skip
      refine tz_aload_n C_ 0 rfl rfl td_M_sample_27 ?_
      refine tz_ldc C_ tw_838 td_M_sample_28 ?_
      refine tz_cV C_ tmi_M_finding tw_800 tw_14 tw_798 hM.1 rfl (As := [.int (-100007)]) (by exact (ct_M_finding (v := -100007) hM.1)) rfl (rest := []) rfl (by decide) (Nat.le_of_ble_eq_true rfl) td_M_sample_30 (st1 := [.int (-100007)]) rfl (fun f1 hF1 => ?_)
      obtain ⟨hs2, hq2⟩ := hF1
      refine tz_goto C_ td_M_sample_33 ?_
      refine tz_riret C_ hr_ hk_ hQ_ rfl td_M_sample_42 ?_
      have k3 : f1 (M + 1) = some (tz_ints cs 532 nw) := ((hq2 _ (by omega)).trans hM.2.1)
      have k4 : f1 (M + 2) = some (tz_ints cs 10640 pa) := ((hq2 _ (by omega)).trans hM.2.2.1)
      have k5 : f1 (M + 3) = some (tz_ints cs 4 bi) := ((hq2 _ (by omega)).trans hM.2.2.2.1)
      have k6 : f1 (M + 4) = some (tz_ints cs 4 nu) := ((hq2 _ (by omega)).trans hM.2.2.2.2.1)
      have k7 : f1 (M + 5) = some (tz_ints cs 480 sh) := ((hq2 _ (by omega)).trans hM.2.2.2.2.2.1)
      have k8 : f1 (M + 6) = some (tz_ints cs 120 ro) := ((hq2 _ (by omega)).trans hM.2.2.2.2.2.2.1)
      have k9 : f1 (M + 7) = some (tz_ints cs 120 ma) := ((hq2 _ (by omega)).trans hM.2.2.2.2.2.2.2.1)
      have k10 : f1 (M + 8) = some (tz_ints cs 120 ca) := ((hq2 _ (by omega)).trans hM.2.2.2.2.2.2.2.2)
      have e9 : sp_sample σ (nI k) (nI j) = (-100007, tz_fnd σ) := by simp only [sp_sample, hpk]; rw [if_pos hin, hat, (tz_mo_lo hok).mp h24, tz_an_f (by decide)]
      rw [e9]
      exact ⟨rfl, ⟨_, _, _, _, _, _, _, _, _, _, _, ⟨hs2, k3, k4, k5, k6, k7, k8, k9, k10⟩, hE, hH, hQ⟩, (fun q hh => by rw [hq2 q (by omega)])⟩
  · skip
    replace h6 := tz_p0.mp h6
    refine tz_aload_n C_ 0 rfl rfl td_M_sample_9 ?_
    refine tz_ldc C_ tw_812 td_M_sample_10 ?_
    refine tz_cV C_ tmi_M_finding tw_800 tw_14 tw_798 hM.1 rfl (As := [.int (-100001)]) (by exact (ct_M_finding (v := -100001) hM.1)) rfl (rest := []) rfl (by decide) (Nat.le_of_ble_eq_true rfl) td_M_sample_12 (st1 := [.int (-100001)]) rfl (fun f11 hF11 => ?_)
    obtain ⟨hs12, hq12⟩ := hF11
    refine tz_riret C_ hr_ hk_ hQ_ rfl td_M_sample_15 ?_
    have k13 : f11 (M + 1) = some (tz_ints cs 532 nw) := ((hq12 _ (by omega)).trans hM.2.1)
    have k14 : f11 (M + 2) = some (tz_ints cs 10640 pa) := ((hq12 _ (by omega)).trans hM.2.2.1)
    have k15 : f11 (M + 3) = some (tz_ints cs 4 bi) := ((hq12 _ (by omega)).trans hM.2.2.2.1)
    have k16 : f11 (M + 4) = some (tz_ints cs 4 nu) := ((hq12 _ (by omega)).trans hM.2.2.2.2.1)
    have k17 : f11 (M + 5) = some (tz_ints cs 480 sh) := ((hq12 _ (by omega)).trans hM.2.2.2.2.2.1)
    have k18 : f11 (M + 6) = some (tz_ints cs 120 ro) := ((hq12 _ (by omega)).trans hM.2.2.2.2.2.2.1)
    have k19 : f11 (M + 7) = some (tz_ints cs 120 ma) := ((hq12 _ (by omega)).trans hM.2.2.2.2.2.2.2.1)
    have k20 : f11 (M + 8) = some (tz_ints cs 120 ca) := ((hq12 _ (by omega)).trans hM.2.2.2.2.2.2.2.2)
    have e9 : sp_sample σ p i = (-100001, tz_fnd σ) := by 
      unfold sp_sample
      split
      · rw [tz_an_f (by decide)]
      · rename_i k9 h9
        rw [if_neg (tz_has_n h6 h9), tz_an_f (by decide)]
    rw [e9]
    exact ⟨rfl, ⟨_, _, _, _, _, _, _, _, _, _, _, ⟨hs12, k13, k14, k15, k16, k17, k18, k19, k20⟩, hE, hH, hQ⟩, (fun q hh => by rw [hq12 q (by omega)])⟩

abbrev rm_M_size : Room := { frames := 8, cells := 0, slots := 0, locals := 189 }
set_option maxHeartbeats 4000000 in
set_option maxRecDepth 100000 in
theorem ct_M_size {l : Launch} {A : Nat → Prop} {D : va_G} {cs : Nat → ClassId} {sz : Nat} {f : tz_PH} {M : Nat} {σ : tz_SG} (hX : tz_AM cs f M σ) (hW : tz_WF σ) {p : Int32} : tz_CN l tyM_size prog_13_method_52_code 2 (some (.int)) rm_M_size 0 0 A D cs sz [.ref M, .int p] f (some (.int (sp_size σ p).1)) (fun f' => tz_AM cs f' M (sp_size σ p).2 ∧ ∀ q, (q < M ∨ M + 9 ≤ q) → f' q = f q) := by
  refine tz_C.ofB (lv0 := [(0, .ref M), (1, .int p)]) (plainFor_of_name (by decide)) (Nat.le_of_ble_eq_true rfl) rfl ?_
  intro p_ e_ s_ m_ ar_ be_ me_ c_ Q_ C_ hr_ hk_ hnm_ hz_ hQ_
  obtain ⟨ms, ns, tg, nw, pa, bi, nu, sh, ro, ma, ca, hM, hE, hH, hQ⟩ := hX
  have hWT := hW.cur
  have hkp : σ.2.1 ≤ 20 := hW.1
  have hl8 := hWT.2.1
  refine tz_iload_n C_ 1 rfl rfl td_M_size_0 ?_
  refine tz_rS C_ tmi_M_isPass tw_807 tw_806 (As := [.int p]) (by exact ct_M_isPass) rfl (rest := []) rfl (by decide) (Nat.le_of_ble_eq_true rfl) td_M_size_1 (st1 := [.int (tz_p (0 ≤ p ∧ p < 4))]) rfl ?_
  refine tz_if_ne C_ td_M_size_4 (fun h4 => ?_) (fun h4 => ?_)
  · skip
    replace h4 := tz_p1.mp h4
    obtain ⟨k, hk, ek⟩ := tz_pk_in h4
    subst ek
    have hpk4 := tz_pk_N hk
    have hnk : tz_ln σ k ≤ 120 := (hWT.1 k hk).1
    have hNk : ((tz_cur σ).1 k).1 ≤ 120 := (hWT.1 k hk).1
    refine tz_aload_n C_ 0 rfl rfl td_M_size_14 ?_
    refine tz_iload_n C_ 1 rfl rfl td_M_size_15 ?_
    refine tz_cV C_ tmi_M_output tw_950 tw_28 tw_948 hM.1 rfl (As := [.int (nI k)]) (by exact (ct_M_output ⟨hM.1, hM.2.1, hM.2.2.1, hM.2.2.2.1, hM.2.2.2.2.1, hM.2.2.2.2.2.1, hM.2.2.2.2.2.2.1, hM.2.2.2.2.2.2.2.1, hM.2.2.2.2.2.2.2.2⟩ hE hWT (k := k) (by omega))) rfl (rest := []) rfl (by decide) (Nat.le_of_ble_eq_true rfl) td_M_size_16 (st1 := []) rfl (fun f1 hF1 => ?_)
    obtain ⟨⟨roW, maW, nsW, tgW, hMW, herW⟩, hqW⟩ := hF1
    have hokW : tz_okr (tz_ou (tz_cur σ) k (-1)).1 (tz_ou (tz_cur σ) k (-1)).2.1 := (tz_rn_ok hWT hk (-1) _ (Nat.le_refl _)).1
    have hleW : (tz_ou (tz_cur σ) k (-1)).1 ≤ 120 := tz_ou_le hWT hk (-1)
    refine tz_aload_n C_ 0 rfl rfl td_M_size_19 ?_
    refine tz_get C_ tci_M 7 (by decide) tw_760 hMW.1 rfl td_M_size_20 ?_
    refine tz_riret C_ hr_ hk_ hQ_ rfl td_M_size_23 ?_
    have e9 : sp_size σ (nI k) = (nI (tz_ou (tz_cur σ) k (-1)).1, σ) := by simp only [sp_size, hpk4]
    rw [e9]
    exact ⟨rfl, ⟨_, _, _, _, _, _, _, _, _, _, _, ⟨hMW.1, hMW.2.1, hMW.2.2.1, hMW.2.2.2.1, hMW.2.2.2.2.1, hMW.2.2.2.2.2.1, hMW.2.2.2.2.2.2.1, hMW.2.2.2.2.2.2.2.1, hMW.2.2.2.2.2.2.2.2⟩, hE, hH, hQ⟩, (fun q hh => by rw [hqW q (by omega)])⟩
  · skip
    replace h4 := tz_p0.mp h4
    have hpk4 := tz_pk_out h4
    refine tz_aload_n C_ 0 rfl rfl td_M_size_7 ?_
    refine tz_ldc C_ tw_812 td_M_size_8 ?_
    refine tz_cV C_ tmi_M_finding tw_800 tw_14 tw_798 hM.1 rfl (As := [.int (-100001)]) (by exact (ct_M_finding (v := -100001) hM.1)) rfl (rest := []) rfl (by decide) (Nat.le_of_ble_eq_true rfl) td_M_size_10 (st1 := [.int (-100001)]) rfl (fun f2 hF2 => ?_)
    obtain ⟨hs3, hq3⟩ := hF2
    refine tz_riret C_ hr_ hk_ hQ_ rfl td_M_size_13 ?_
    have k4 : f2 (M + 1) = some (tz_ints cs 532 nw) := ((hq3 _ (by omega)).trans hM.2.1)
    have k5 : f2 (M + 2) = some (tz_ints cs 10640 pa) := ((hq3 _ (by omega)).trans hM.2.2.1)
    have k6 : f2 (M + 3) = some (tz_ints cs 4 bi) := ((hq3 _ (by omega)).trans hM.2.2.2.1)
    have k7 : f2 (M + 4) = some (tz_ints cs 4 nu) := ((hq3 _ (by omega)).trans hM.2.2.2.2.1)
    have k8 : f2 (M + 5) = some (tz_ints cs 480 sh) := ((hq3 _ (by omega)).trans hM.2.2.2.2.2.1)
    have k9 : f2 (M + 6) = some (tz_ints cs 120 ro) := ((hq3 _ (by omega)).trans hM.2.2.2.2.2.2.1)
    have k10 : f2 (M + 7) = some (tz_ints cs 120 ma) := ((hq3 _ (by omega)).trans hM.2.2.2.2.2.2.2.1)
    have k11 : f2 (M + 8) = some (tz_ints cs 120 ca) := ((hq3 _ (by omega)).trans hM.2.2.2.2.2.2.2.2)
    have e9 : sp_size σ p = (-100001, tz_fnd σ) := by simp only [sp_size, hpk4]; rw [tz_an_f (by decide)]
    rw [e9]
    exact ⟨rfl, ⟨_, _, _, _, _, _, _, _, _, _, _, ⟨hs3, k4, k5, k6, k7, k8, k9, k10, k11⟩, hE, hH, hQ⟩, (fun q hh => by rw [hq3 q (by omega)])⟩
