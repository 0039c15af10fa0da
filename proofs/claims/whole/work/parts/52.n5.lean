
theorem tz_an_f {s : tz_SG} {v : Int32} (h : v ≤ -100000) : tz_an s v = (v, tz_fnd s) := by unfold tz_an tz_fnd; rw [if_pos h]
theorem tz_an_n {s : tz_SG} {v : Int32} (h : ¬ v ≤ -100000) : tz_an s v = (v, s) := by unfold tz_an; rw [if_neg h]
theorem tz_AM_act {cs : Nat → ClassId} {f : tz_PH} {M : Nat} {s : tz_SG} {t' : tz_TS} {ms ns tg : Int32} {nw pa bi nu sh ro ma ca : Nat → Int32} (hW : tz_WF s) (hM : tz_MB cs f M (min (s.2.1 + 1) 20) s.2.2.2 ms ns tg nw pa bi nu sh ro ma ca) (hE : tz_en nw t') (hH : ∀ t', tz_enH pa (min (s.2.1 + 1) 20) (tz_psh s.1 s.2.1 t')) (hQ : tz_enQ bi nu sh s.2.2.1) : tz_AM cs f M (tz_act s t') :=
  ⟨ms, ns, tg, nw, pa, bi, nu, sh, ro, ma, ca, hM, by rw [tz_cur_act hW.1]; exact hE, hH t', hQ⟩
theorem tz_mo_big {v : Int32} (h : tz_okv v) (hn : ¬ v = tz_LO) : ¬ v ≤ -100000 := by
  intro z
  have a := tz_rg h hn
  have b := Int32.le_iff_toInt_le.mp z
  have z1 : (-100000 : Int32).toInt = -100000 := by decide
  rw [z1] at b
  omega
theorem tz_nI_big {n : Nat} (h : n < 2 ^ 31) : ¬ nI n ≤ -100000 := by
  intro z
  have b := Int32.le_iff_toInt_le.mp z
  have z1 : (-100000 : Int32).toInt = -100000 := by decide
  rw [z1, nI_toInt h] at b
  omega

abbrev rm_M_pass : Room := { frames := 2, cells := 0, slots := 0, locals := 42 }
set_option maxHeartbeats 4000000 in
set_option maxRecDepth 100000 in
theorem ct_M_pass {l : Launch} {A : Nat → Prop} {D : va_G} {cs : Nat → ClassId} {sz : Nat} {f : tz_PH} {M : Nat} {σ : tz_SG} (hX : tz_AM cs f M σ) (hW : tz_WF σ) {p n : Int32} : tz_CN l tyM_pass prog_13_method_11_code 5 (some (.int)) rm_M_pass 0 0 A D cs sz [.ref M, .int p, .int n] f (some (.int (sp_pass σ p n).1)) (fun f' => tz_AM cs f' M (sp_pass σ p n).2 ∧ ∀ q, (q < M ∨ M + 9 ≤ q) → f' q = f q) := by
  refine tz_C.ofB (lv0 := [(0, .ref M), (1, .int p), (2, .int n)]) (plainFor_of_name (by decide)) (Nat.le_of_ble_eq_true rfl) rfl ?_
  intro p_ e_ s_ m_ ar_ be_ me_ c_ Q_ C_ hr_ hk_ hnm_ hz_ hQ_
  obtain ⟨ms, ns, tg, nw, pa, bi, nu, sh, ro, ma, ca, hM, hE, hH, hQ⟩ := hX
  have hWT := hW.cur
  have hkp : σ.2.1 ≤ 20 := hW.1
  have hl8 := hWT.2.1
  refine tz_iload_n C_ 1 rfl rfl td_M_pass_0 ?_
  refine tz_rS C_ tmi_M_isPass tw_807 tw_806 (As := [.int p]) (by exact ct_M_isPass) rfl (rest := []) rfl (by decide) (Nat.le_of_ble_eq_true rfl) td_M_pass_1 (st1 := [.int (tz_p (0 ≤ p ∧ p < 4))]) rfl ?_
  refine tz_if_eq C_ td_M_pass_4 (fun h4 => ?_) (fun h4 => ?_)
  · skip
    replace h4 := tz_p0.mp h4
    have hpk4 := tz_pk_out h4
    refine tz_aload_n C_ 0 rfl rfl td_M_pass_17 ?_
    refine tz_ldc C_ tw_812 td_M_pass_18 ?_
    refine tz_cV C_ tmi_M_finding tw_800 tw_14 tw_798 hM.1 rfl (As := [.int (-100001)]) (by exact (ct_M_finding (v := -100001) hM.1)) rfl (rest := []) rfl (by decide) (Nat.le_of_ble_eq_true rfl) td_M_pass_20 (st1 := [.int (-100001)]) rfl (fun f1 hF1 => ?_)
    obtain ⟨hs2, hq2⟩ := hF1
    refine tz_riret C_ hr_ hk_ hQ_ rfl td_M_pass_23 ?_
    have k3 : f1 (M + 1) = some (tz_ints cs 532 nw) := ((hq2 _ (by omega)).trans hM.2.1)
    have k4 : f1 (M + 2) = some (tz_ints cs 10640 pa) := ((hq2 _ (by omega)).trans hM.2.2.1)
    have k5 : f1 (M + 3) = some (tz_ints cs 4 bi) := ((hq2 _ (by omega)).trans hM.2.2.2.1)
    have k6 : f1 (M + 4) = some (tz_ints cs 4 nu) := ((hq2 _ (by omega)).trans hM.2.2.2.2.1)
    have k7 : f1 (M + 5) = some (tz_ints cs 480 sh) := ((hq2 _ (by omega)).trans hM.2.2.2.2.2.1)
    have k8 : f1 (M + 6) = some (tz_ints cs 120 ro) := ((hq2 _ (by omega)).trans hM.2.2.2.2.2.2.1)
    have k9 : f1 (M + 7) = some (tz_ints cs 120 ma) := ((hq2 _ (by omega)).trans hM.2.2.2.2.2.2.2.1)
    have k10 : f1 (M + 8) = some (tz_ints cs 120 ca) := ((hq2 _ (by omega)).trans hM.2.2.2.2.2.2.2.2)
    have e9 : sp_pass σ p n = (-100001, tz_fnd σ) := by simp only [sp_pass, hpk4]; rw [tz_an_f (by decide)]
    rw [e9]
    exact ⟨rfl, ⟨_, _, _, _, _, _, _, _, _, _, _, ⟨hs2, k3, k4, k5, k6, k7, k8, k9, k10⟩, hE, hH, hQ⟩, (fun q hh => by rw [hq2 q (by omega)])⟩
  · skip
    replace h4 := tz_p1.mp h4
    obtain ⟨k, hk, ek⟩ := tz_pk_in h4
    subst ek
    have hpk4 := tz_pk_N hk
    have hnk : tz_ln σ k ≤ 120 := (hWT.1 k hk).1
    have hNk : ((tz_cur σ).1 k).1 ≤ 120 := (hWT.1 k hk).1
    refine tz_iload_n C_ 2 rfl rfl td_M_pass_7 ?_
    refine tz_iconst C_ (v := 0) (by decide) td_M_pass_8 ?_
    refine tz_bipush C_ (v := 120) (by decide) td_M_pass_9 ?_
    refine tz_rS C_ tmi_M_in tw_810 tw_809 (As := [.int n, .int 0, .int 120]) (by exact ct_M_in) rfl (rest := []) rfl (by decide) (Nat.le_of_ble_eq_true rfl) td_M_pass_11 (st1 := [.int (tz_p (0 ≤ n ∧ n ≤ 120))]) rfl ?_
    refine tz_if_ne C_ td_M_pass_14 (fun h14 => ?_) (fun h14 => ?_)
    · skip
      replace h14 := tz_p1.mp h14
      obtain ⟨m, hm, em⟩ := tz_toN (tz_le_nlt h14.1) (show n ≤ nI 120 from h14.2) (by decide)
      subst em
      refine tz_aload_n C_ 0 rfl rfl td_M_pass_24 ?_
      refine tz_cV C_ tmi_M_keep tw_815 tw_15 tw_813 hM.1 rfl (As := []) (by exact (ct_M_keep ⟨hM.1, hM.2.1, hM.2.2.1, hM.2.2.2.1, hM.2.2.2.2.1, hM.2.2.2.2.2.1, hM.2.2.2.2.2.2.1, hM.2.2.2.2.2.2.2.1, hM.2.2.2.2.2.2.2.2⟩ hH hE (fun j hj => hW.2.1 j hj) hkp)) rfl (rest := []) rfl (by decide) (Nat.le_of_ble_eq_true rfl) td_M_pass_25 (st1 := []) rfl (fun f11 hF11 => ?_)
      obtain ⟨⟨paK, hMK, hHK⟩, hqK⟩ := hF11
      refine tz_aload_n C_ 0 rfl rfl td_M_pass_28 ?_
      refine tz_get C_ tci_M 0 (by decide) tw_753 hMK.1 rfl td_M_pass_29 ?_
      refine tz_iconst C_ (v := 0) (by decide) td_M_pass_32 ?_
      refine tz_iload_n C_ 1 rfl rfl td_M_pass_33 ?_
      refine tz_iadd C_ td_M_pass_34 ?_
      rw [show (0 + (nI k) : Int32) = nI k from Int32.zero_add _]
      refine tz_ialdN C_ hMK.2.1 (by omega) (by decide) td_M_pass_35 ?_
      refine tz_istore_n C_ (lv' := [(0, .ref M), (1, .int (nI k)), (2, .int (nI m)), (3, .int (nw k))]) [1, 2, 3, 0] rfl (by decide) rfl td_M_pass_36 ?_
      refine tz_aload_n C_ 0 rfl rfl td_M_pass_37 ?_
      refine tz_get C_ tci_M 0 (by decide) tw_753 hMK.1 rfl td_M_pass_38 ?_
      refine tz_iconst C_ (v := 0) (by decide) td_M_pass_41 ?_
      refine tz_iload_n C_ 1 rfl rfl td_M_pass_42 ?_
      refine tz_iadd C_ td_M_pass_43 ?_
      rw [show (0 + (nI k) : Int32) = nI k from Int32.zero_add _]
      refine tz_iload_n C_ 2 rfl rfl td_M_pass_44 ?_
      refine tz_wiastN C_ hMK.2.1 (by omega) (by decide) (g' := upd nw k (nI m)) rfl td_M_pass_45 (fun f12 hs12 hq12 => ?_)
      refine tz_iconst C_ (v := 0) (by decide) td_M_pass_46 ?_
      refine tz_istore C_ (lv' := [(0, .ref M), (1, .int (nI k)), (2, .int (nI m)), (3, .int (nw k)), (4, .int 0)]) [1, 2, 3, 4, 0] (by decide) rfl td_M_pass_47 ?_
      have k13 : f12 M = some (tz_obj 11 [.ref (M + 1), .ref (M + 2), .int (nI (min (σ.2.1 + 1) 20)), .int σ.2.2.2, .ref (M + 3), .ref (M + 4), .ref (M + 5), .int ms, .ref (M + 6), .int ns, .ref (M + 7), .ref (M + 8), .int tg]) := ((hq12 _ (by omega)).trans hMK.1)
      have k14 : f12 (M + 2) = some (tz_ints cs 10640 paK) := ((hq12 _ (by omega)).trans hMK.2.2.1)
      have k15 : f12 (M + 3) = some (tz_ints cs 4 bi) := ((hq12 _ (by omega)).trans hMK.2.2.2.1)
      have k16 : f12 (M + 4) = some (tz_ints cs 4 nu) := ((hq12 _ (by omega)).trans hMK.2.2.2.2.1)
      have k17 : f12 (M + 5) = some (tz_ints cs 480 sh) := ((hq12 _ (by omega)).trans hMK.2.2.2.2.2.1)
      have k18 : f12 (M + 6) = some (tz_ints cs 120 ro) := ((hq12 _ (by omega)).trans hMK.2.2.2.2.2.2.1)
      have k19 : f12 (M + 7) = some (tz_ints cs 120 ma) := ((hq12 _ (by omega)).trans hMK.2.2.2.2.2.2.2.1)
      have k20 : f12 (M + 8) = some (tz_ints cs 120 ca) := ((hq12 _ (by omega)).trans hMK.2.2.2.2.2.2.2.2)
      have loop49 : ∀ (kk49 : Nat) (i : Nat) (fL : tz_PH), (tz_MB cs fL M (min (σ.2.1 + 1) 20) σ.2.2.2 ms ns tg ((tz_cpf (fun _ => 0) (upd nw k (nI m)) (4 + 120 * k) i)) paK bi nu sh ro ma ca) → (∀ q, (q < M ∨ M + 9 ≤ q) → fL q = f q) → (i ≤ m) → (m - i) < kk49 → tz_V p_ l e_ rm_M_pass s_ m_ ar_ be_ me_ c_ Q_ A D 5 fL sz 0 0 49 [(0, .ref M), (1, .int (nI k)), (2, .int (nI m)), (3, .int (nw k)), (4, .int (nI i))] [] := by
        intro kk49
        induction kk49 with
        | zero => intro i fL hM1 hfr hi hm49; omega
        | succ kk49 ih49 =>
          intro i fL hM1 hfr hi hm49
          refine tz_iload C_ 4 rfl td_M_pass_49 ?_
          refine tz_iload_n C_ 2 rfl rfl td_M_pass_51 ?_
          refine tz_icmp_ge C_ td_M_pass_52 (fun h52 => ?_) (fun h52 => ?_)
          · skip
            replace h52 := (nI_leI (a := m) (b := i) (by omega) (by omega)).mp h52
            refine tz_iload_n C_ 3 rfl rfl td_M_pass_76 ?_
            refine tz_riret C_ hr_ hk_ hQ_ rfl td_M_pass_77 ?_
            have e8 : m = i := by omega
            subst e8
            have e9 : sp_pass σ (nI k) (nI m) = (nw k, tz_act σ (tz_sr (tz_cur σ) k (m, fun _ => 0))) := by simp only [sp_pass, hpk4]; rw [if_pos ⟨nI_pos' (by omega), nI_le (a := m) (b := 120) (by omega) (by omega)⟩, nI_clamp (by omega), hE.1 k hk]
            rw [e9]
            exact ⟨rfl, tz_AM_act hW ⟨hM1.1, hM1.2.1, hM1.2.2.1, hM1.2.2.2.1, hM1.2.2.2.2.1, hM1.2.2.2.2.2.1, hM1.2.2.2.2.2.2.1, hM1.2.2.2.2.2.2.2.1, hM1.2.2.2.2.2.2.2.2⟩ (tz_en_row hE hWT hk (g := fun _ => 0) (fun j _ => show (0 : Int32) = tz_mo 0 by decide) hm) hHK hQ, (fun q hh => by rw [hfr q (by omega)])⟩
          · skip
            replace h52 := mt (nI_leI (a := m) (b := i) (by omega) (by omega)).mpr h52
            refine tz_aload_n C_ 0 rfl rfl td_M_pass_55 ?_
            refine tz_get C_ tci_M 0 (by decide) tw_753 hM1.1 rfl td_M_pass_56 ?_
            refine tz_iconst C_ (v := 4) (by decide) td_M_pass_59 ?_
            refine tz_bipush C_ (v := 120) (by decide) td_M_pass_60 ?_
            refine tz_iload_n C_ 1 rfl rfl td_M_pass_62 ?_
            refine tz_imul C_ td_M_pass_63 ?_
            rw [show (120 * (nI k) : Int32) = nI (120 * k) from pk_mul (120) (k)]
            refine tz_iadd C_ td_M_pass_64 ?_
            rw [show (4 + (nI (120 * k)) : Int32) = nI (4 + (120 * k)) from nI_add (4) (120 * k)]
            refine tz_iload C_ 4 rfl td_M_pass_65 ?_
            refine tz_iadd C_ td_M_pass_67 ?_
            rw [show ((nI (4 + (120 * k))) + (nI i) : Int32) = nI (4 + (120 * k) + i) from nI_add (4 + (120 * k)) (i)]
            refine tz_iconst C_ (v := 0) (by decide) td_M_pass_68 ?_
            refine tz_wiastN C_ hM1.2.1 (by omega) (by decide) (g' := upd ((tz_cpf (fun _ => 0) (upd nw k (nI m)) (4 + 120 * k) i)) ((4 + (120 * k) + i)) 0) rfl td_M_pass_69 (fun f21 hs21 hq21 => ?_)
            refine tz_iinc C_ (k := 1) (v := nI (i + 1)) (lv' := [(0, .ref M), (1, .int (nI k)), (2, .int (nI m)), (3, .int (nw k)), (4, .int (nI (i + 1)))]) 4 rfl (nI_1 i) [1, 2, 3, 4, 0] (by decide) rfl td_M_pass_70 ?_
            refine tz_goto C_ td_M_pass_73 ?_
            have k22 : f21 M = some (tz_obj 11 [.ref (M + 1), .ref (M + 2), .int (nI (min (σ.2.1 + 1) 20)), .int σ.2.2.2, .ref (M + 3), .ref (M + 4), .ref (M + 5), .int ms, .ref (M + 6), .int ns, .ref (M + 7), .ref (M + 8), .int tg]) := ((hq21 _ (by omega)).trans hM1.1)
            have k23 : f21 (M + 2) = some (tz_ints cs 10640 paK) := ((hq21 _ (by omega)).trans hM1.2.2.1)
            have k24 : f21 (M + 3) = some (tz_ints cs 4 bi) := ((hq21 _ (by omega)).trans hM1.2.2.2.1)
            have k25 : f21 (M + 4) = some (tz_ints cs 4 nu) := ((hq21 _ (by omega)).trans hM1.2.2.2.2.1)
            have k26 : f21 (M + 5) = some (tz_ints cs 480 sh) := ((hq21 _ (by omega)).trans hM1.2.2.2.2.2.1)
            have k27 : f21 (M + 6) = some (tz_ints cs 120 ro) := ((hq21 _ (by omega)).trans hM1.2.2.2.2.2.2.1)
            have k28 : f21 (M + 7) = some (tz_ints cs 120 ma) := ((hq21 _ (by omega)).trans hM1.2.2.2.2.2.2.2.1)
            have k29 : f21 (M + 8) = some (tz_ints cs 120 ca) := ((hq21 _ (by omega)).trans hM1.2.2.2.2.2.2.2.2)
            exact ih49 (i + 1) f21 (⟨k22, tz_cpr hs21 rfl, k23, k24, k25, k26, k27, k28, k29⟩) (fun q hh => by rw [hq21 q (by omega), hfr q (by omega)]) (by omega) (by omega)
      exact loop49 _ 0 f12 (⟨k13, by rw [tz_cpf_0]; exact hs12, k14, k15, k16, k17, k18, k19, k20⟩) (fun q hh => by rw [hq12 q (by omega), hqK q (by omega)]) (Nat.zero_le _) (Nat.lt_succ_self _)
    · skip
      replace h14 := tz_p0.mp h14
      refine tz_aload_n C_ 0 rfl rfl td_M_pass_17 ?_
      refine tz_ldc C_ tw_812 td_M_pass_18 ?_
      refine tz_cV C_ tmi_M_finding tw_800 tw_14 tw_798 hM.1 rfl (As := [.int (-100001)]) (by exact (ct_M_finding (v := -100001) hM.1)) rfl (rest := []) rfl (by decide) (Nat.le_of_ble_eq_true rfl) td_M_pass_20 (st1 := [.int (-100001)]) rfl (fun f30 hF30 => ?_)
      obtain ⟨hs31, hq31⟩ := hF30
      refine tz_riret C_ hr_ hk_ hQ_ rfl td_M_pass_23 ?_
      have k32 : f30 (M + 1) = some (tz_ints cs 532 nw) := ((hq31 _ (by omega)).trans hM.2.1)
      have k33 : f30 (M + 2) = some (tz_ints cs 10640 pa) := ((hq31 _ (by omega)).trans hM.2.2.1)
      have k34 : f30 (M + 3) = some (tz_ints cs 4 bi) := ((hq31 _ (by omega)).trans hM.2.2.2.1)
      have k35 : f30 (M + 4) = some (tz_ints cs 4 nu) := ((hq31 _ (by omega)).trans hM.2.2.2.2.1)
      have k36 : f30 (M + 5) = some (tz_ints cs 480 sh) := ((hq31 _ (by omega)).trans hM.2.2.2.2.2.1)
      have k37 : f30 (M + 6) = some (tz_ints cs 120 ro) := ((hq31 _ (by omega)).trans hM.2.2.2.2.2.2.1)
      have k38 : f30 (M + 7) = some (tz_ints cs 120 ma) := ((hq31 _ (by omega)).trans hM.2.2.2.2.2.2.2.1)
      have k39 : f30 (M + 8) = some (tz_ints cs 120 ca) := ((hq31 _ (by omega)).trans hM.2.2.2.2.2.2.2.2)
      have e9 : sp_pass σ (nI k) n = (-100001, tz_fnd σ) := by simp only [sp_pass, hpk4]; rw [if_neg h14, tz_an_f (by decide)]
      rw [e9]
      exact ⟨rfl, ⟨_, _, _, _, _, _, _, _, _, _, _, ⟨hs31, k32, k33, k34, k35, k36, k37, k38, k39⟩, hE, hH, hQ⟩, (fun q hh => by rw [hq31 q (by omega)])⟩
