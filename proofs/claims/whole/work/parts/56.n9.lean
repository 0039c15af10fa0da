
theorem tz_lowA (v : Int32) : v <<< ((24 : Int32) &&& 31) >>> ((24 : Int32) &&& 31) = tz_lw 8 v := rfl
theorem tz_lowB (v : Int32) : v <<< ((16 : Int32) &&& 31) >>> ((16 : Int32) &&& 31) = tz_lw 16 v := rfl
theorem tz_lowC (v : Int32) : v = tz_lw 32 v := by
  unfold tz_lw
  rw [show ((32 : Int32) - 32) &&& 31 = 0 from by decide, Int32.shiftLeft_zero, Int32.shiftRight_zero]
theorem tz_enQ_set {bi nu sh bi' nu' sh' : Nat → Int32} {Sb : Nat → Int32 × Nat × (Nat → Int32)} {k : Nat} {x : Int32 × Nat × (Nat → Int32)} (hQ : tz_enQ bi nu sh Sb) (hW : ∀ s, s < 4 → (Sb s).2.1 ≤ 120) (hb : bi' k = x.1) (hb' : ∀ s, ¬ s = k → bi' s = bi s) (hn : nu' k = nI x.2.1) (hn' : ∀ s, ¬ s = k → nu' s = nu s) (hs : ∀ q, (q < 120 * k ∨ 120 * k + 120 ≤ q) → sh' q = sh q) (hi : ∀ j, j < x.2.1 → sh' (120 * k + j) = x.2.2 j) : tz_enQ bi' nu' sh' (va_up Sb k x) := by
  intro s h4
  by_cases e : s = k
  · subst e
    have e1 : va_up Sb s x s = x := by unfold va_up; rw [if_pos rfl]
    rw [e1]
    exact ⟨hb, hn, hi⟩
  · have e1 : va_up Sb k x s = Sb s := by unfold va_up; rw [if_neg e]
    rw [e1]
    have h120 := hW s h4
    obtain ⟨a, b, c⟩ := hQ s h4
    refine ⟨(hb' s e).trans a, (hn' s e).trans b, fun j hj => ?_⟩
    rw [hs _ (by omega)]
    exact c j hj
theorem tz_updk {g : Nat → Int32} {k : Nat} {v : Int32} : upd g k v k = v := by simp only [upd, if_true]
theorem tz_updo {g : Nat → Int32} {k q : Nat} {v : Int32} (h : ¬ q = k) : upd g k v q = g q := by simp only [upd, if_neg h]

abbrev rm_M_lose : Room := { frames := 2, cells := 0, slots := 0, locals := 42 }
set_option maxHeartbeats 4000000 in
set_option maxRecDepth 100000 in
theorem ct_M_lose {l : Launch} {A : Nat → Prop} {D : va_G} {cs : Nat → ClassId} {sz : Nat} {f : tz_PH} {M : Nat} {σ : tz_SG} (hX : tz_AM cs f M σ) (hW : tz_WF σ) {p x n : Int32} : tz_CN l tyM_lose prog_13_method_13_code 6 (some (.int)) rm_M_lose 0 0 A D cs sz [.ref M, .int p, .int x, .int n] f (some (.int (sp_lose σ p x n).1)) (fun f' => tz_AM cs f' M (sp_lose σ p x n).2 ∧ ∀ q, (q < M ∨ M + 9 ≤ q) → f' q = f q) := by
  refine tz_C.ofB (lv0 := [(0, .ref M), (1, .int p), (2, .int x), (3, .int n)]) (plainFor_of_name (by decide)) (Nat.le_of_ble_eq_true rfl) rfl ?_
  intro p_ e_ s_ m_ ar_ be_ me_ c_ Q_ C_ hr_ hk_ hnm_ hz_ hQ_
  obtain ⟨ms, ns, tg, nw, pa, bi, nu, sh, ro, ma, ca, hM, hE, hH, hQ⟩ := hX
  have hWT := hW.cur
  have hkp : σ.2.1 ≤ 20 := hW.1
  have hl8 := hWT.2.1
  refine tz_iload_n C_ 1 rfl rfl td_M_lose_0 ?_
  refine tz_rS C_ tmi_M_isPass tw_807 tw_806 (As := [.int p]) (by exact ct_M_isPass) rfl (rest := []) rfl (by decide) (Nat.le_of_ble_eq_true rfl) td_M_lose_1 (st1 := [.int (tz_p (0 ≤ p ∧ p < 4))]) rfl ?_
  refine tz_if_eq C_ td_M_lose_4 (fun h4 => ?_) (fun h4 => ?_)
  · skip
    replace h4 := tz_p0.mp h4
    have hpk4 := tz_pk_out h4
    refine tz_aload_n C_ 0 rfl rfl td_M_lose_33 ?_
    refine tz_ldc C_ tw_812 td_M_lose_34 ?_
    refine tz_cV C_ tmi_M_finding tw_800 tw_14 tw_798 hM.1 rfl (As := [.int (-100001)]) (by exact (ct_M_finding (v := -100001) hM.1)) rfl (rest := []) rfl (by decide) (Nat.le_of_ble_eq_true rfl) td_M_lose_36 (st1 := [.int (-100001)]) rfl (fun f1 hF1 => ?_)
    obtain ⟨hs2, hq2⟩ := hF1
    refine tz_riret C_ hr_ hk_ hQ_ rfl td_M_lose_39 ?_
    have k3 : f1 (M + 1) = some (tz_ints cs 532 nw) := ((hq2 _ (by omega)).trans hM.2.1)
    have k4 : f1 (M + 2) = some (tz_ints cs 10640 pa) := ((hq2 _ (by omega)).trans hM.2.2.1)
    have k5 : f1 (M + 3) = some (tz_ints cs 4 bi) := ((hq2 _ (by omega)).trans hM.2.2.2.1)
    have k6 : f1 (M + 4) = some (tz_ints cs 4 nu) := ((hq2 _ (by omega)).trans hM.2.2.2.2.1)
    have k7 : f1 (M + 5) = some (tz_ints cs 480 sh) := ((hq2 _ (by omega)).trans hM.2.2.2.2.2.1)
    have k8 : f1 (M + 6) = some (tz_ints cs 120 ro) := ((hq2 _ (by omega)).trans hM.2.2.2.2.2.2.1)
    have k9 : f1 (M + 7) = some (tz_ints cs 120 ma) := ((hq2 _ (by omega)).trans hM.2.2.2.2.2.2.2.1)
    have k10 : f1 (M + 8) = some (tz_ints cs 120 ca) := ((hq2 _ (by omega)).trans hM.2.2.2.2.2.2.2.2)
    have e9 : sp_lose σ p x n = (-100001, tz_fnd σ) := by simp only [sp_lose, hpk4]; rw [tz_an_f (by decide)]
    rw [e9]
    exact ⟨rfl, ⟨_, _, _, _, _, _, _, _, _, _, _, ⟨hs2, k3, k4, k5, k6, k7, k8, k9, k10⟩, hE, hH, hQ⟩, (fun q hh => by rw [hq2 q (by omega)])⟩
  · skip
    replace h4 := tz_p1.mp h4
    obtain ⟨k, hk, ek⟩ := tz_pk_in h4
    subst ek
    have hpk4 := tz_pk_N hk
    have hnk : tz_ln σ k ≤ 120 := (hWT.1 k hk).1
    have hNk : ((tz_cur σ).1 k).1 ≤ 120 := (hWT.1 k hk).1
    refine tz_iload_n C_ 3 rfl rfl td_M_lose_7 ?_
    refine tz_if_lt C_ td_M_lose_8 (fun h8 => ?_) (fun h8 => ?_)
    · skip
      refine tz_aload_n C_ 0 rfl rfl td_M_lose_33 ?_
      refine tz_ldc C_ tw_812 td_M_lose_34 ?_
      refine tz_cV C_ tmi_M_finding tw_800 tw_14 tw_798 hM.1 rfl (As := [.int (-100001)]) (by exact (ct_M_finding (v := -100001) hM.1)) rfl (rest := []) rfl (by decide) (Nat.le_of_ble_eq_true rfl) td_M_lose_36 (st1 := [.int (-100001)]) rfl (fun f11 hF11 => ?_)
      obtain ⟨hs12, hq12⟩ := hF11
      refine tz_riret C_ hr_ hk_ hQ_ rfl td_M_lose_39 ?_
      have k13 : f11 (M + 1) = some (tz_ints cs 532 nw) := ((hq12 _ (by omega)).trans hM.2.1)
      have k14 : f11 (M + 2) = some (tz_ints cs 10640 pa) := ((hq12 _ (by omega)).trans hM.2.2.1)
      have k15 : f11 (M + 3) = some (tz_ints cs 4 bi) := ((hq12 _ (by omega)).trans hM.2.2.2.1)
      have k16 : f11 (M + 4) = some (tz_ints cs 4 nu) := ((hq12 _ (by omega)).trans hM.2.2.2.2.1)
      have k17 : f11 (M + 5) = some (tz_ints cs 480 sh) := ((hq12 _ (by omega)).trans hM.2.2.2.2.2.1)
      have k18 : f11 (M + 6) = some (tz_ints cs 120 ro) := ((hq12 _ (by omega)).trans hM.2.2.2.2.2.2.1)
      have k19 : f11 (M + 7) = some (tz_ints cs 120 ma) := ((hq12 _ (by omega)).trans hM.2.2.2.2.2.2.2.1)
      have k20 : f11 (M + 8) = some (tz_ints cs 120 ca) := ((hq12 _ (by omega)).trans hM.2.2.2.2.2.2.2.2)
      have e9 : sp_lose σ (nI k) x n = (-100001, tz_fnd σ) := by simp only [sp_lose, hpk4]; rw [if_neg (fun z => tz_le_nlt z.2.1 h8), tz_an_f (by decide)]
      rw [e9]
      exact ⟨rfl, ⟨_, _, _, _, _, _, _, _, _, _, _, ⟨hs12, k13, k14, k15, k16, k17, k18, k19, k20⟩, hE, hH, hQ⟩, (fun q hh => by rw [hq12 q (by omega)])⟩
    · skip
      refine tz_iload_n C_ 2 rfl rfl td_M_lose_11 ?_
      refine tz_if_lt C_ td_M_lose_12 (fun h12 => ?_) (fun h12 => ?_)
      · skip
        refine tz_aload_n C_ 0 rfl rfl td_M_lose_33 ?_
        refine tz_ldc C_ tw_812 td_M_lose_34 ?_
        refine tz_cV C_ tmi_M_finding tw_800 tw_14 tw_798 hM.1 rfl (As := [.int (-100001)]) (by exact (ct_M_finding (v := -100001) hM.1)) rfl (rest := []) rfl (by decide) (Nat.le_of_ble_eq_true rfl) td_M_lose_36 (st1 := [.int (-100001)]) rfl (fun f21 hF21 => ?_)
        obtain ⟨hs22, hq22⟩ := hF21
        refine tz_riret C_ hr_ hk_ hQ_ rfl td_M_lose_39 ?_
        have k23 : f21 (M + 1) = some (tz_ints cs 532 nw) := ((hq22 _ (by omega)).trans hM.2.1)
        have k24 : f21 (M + 2) = some (tz_ints cs 10640 pa) := ((hq22 _ (by omega)).trans hM.2.2.1)
        have k25 : f21 (M + 3) = some (tz_ints cs 4 bi) := ((hq22 _ (by omega)).trans hM.2.2.2.1)
        have k26 : f21 (M + 4) = some (tz_ints cs 4 nu) := ((hq22 _ (by omega)).trans hM.2.2.2.2.1)
        have k27 : f21 (M + 5) = some (tz_ints cs 480 sh) := ((hq22 _ (by omega)).trans hM.2.2.2.2.2.1)
        have k28 : f21 (M + 6) = some (tz_ints cs 120 ro) := ((hq22 _ (by omega)).trans hM.2.2.2.2.2.2.1)
        have k29 : f21 (M + 7) = some (tz_ints cs 120 ma) := ((hq22 _ (by omega)).trans hM.2.2.2.2.2.2.2.1)
        have k30 : f21 (M + 8) = some (tz_ints cs 120 ca) := ((hq22 _ (by omega)).trans hM.2.2.2.2.2.2.2.2)
        have e9 : sp_lose σ (nI k) x n = (-100001, tz_fnd σ) := by simp only [sp_lose, hpk4]; rw [if_neg (fun z => tz_le_nlt z.1 h12), tz_an_f (by decide)]
        rw [e9]
        exact ⟨rfl, ⟨_, _, _, _, _, _, _, _, _, _, _, ⟨hs22, k23, k24, k25, k26, k27, k28, k29, k30⟩, hE, hH, hQ⟩, (fun q hh => by rw [hq22 q (by omega)])⟩
      · skip
        refine tz_iload_n C_ 2 rfl rfl td_M_lose_15 ?_
        refine tz_i2l C_ td_M_lose_16 ?_
        refine tz_iload_n C_ 3 rfl rfl td_M_lose_17 ?_
        refine tz_i2l C_ td_M_lose_18 ?_
        refine tz_ladd C_ td_M_lose_19 ?_
        refine tz_aload_n C_ 0 rfl rfl td_M_lose_20 ?_
        refine tz_get C_ tci_M 0 (by decide) tw_753 hM.1 rfl td_M_lose_21 ?_
        refine tz_iconst C_ (v := 0) (by decide) td_M_lose_24 ?_
        refine tz_iload_n C_ 1 rfl rfl td_M_lose_25 ?_
        refine tz_iadd C_ td_M_lose_26 ?_
        rw [show (0 + (nI k) : Int32) = nI k from Int32.zero_add _]
        refine tz_ialdN C_ hM.2.1 (by omega) (by decide) td_M_lose_27 ?_
        refine tz_i2l C_ td_M_lose_28 ?_
        refine tz_lcmp C_ td_M_lose_29 ?_
        refine tz_if_le C_ td_M_lose_30 (fun h30 => ?_) (fun h30 => ?_)
        · skip
          rw [hE.1 k hk] at h30
          have hh := (tz_hld_l hnk h12 h8).mp h30
          have hh9 := hh
          obtain ⟨m, mk, em, emk, hmk⟩ := tz_hld_N hnk hh9
          subst em
          subst emk
          refine tz_aload_n C_ 0 rfl rfl td_M_lose_40 ?_
          refine tz_cV C_ tmi_M_keep tw_815 tw_15 tw_813 hM.1 rfl (As := []) (by exact (ct_M_keep ⟨hM.1, hM.2.1, hM.2.2.1, hM.2.2.2.1, hM.2.2.2.2.1, hM.2.2.2.2.2.1, hM.2.2.2.2.2.2.1, hM.2.2.2.2.2.2.2.1, hM.2.2.2.2.2.2.2.2⟩ hH hE (fun j hj => hW.2.1 j hj) hkp)) rfl (rest := []) rfl (by decide) (Nat.le_of_ble_eq_true rfl) td_M_lose_41 (st1 := []) rfl (fun f31 hF31 => ?_)
          obtain ⟨⟨paK, hMK, hHK⟩, hqK⟩ := hF31
          refine tz_iconst C_ (v := 0) (by decide) td_M_lose_44 ?_
          refine tz_istore C_ (lv' := [(0, .ref M), (1, .int (nI k)), (2, .int (nI m)), (3, .int (nI mk)), (4, .int 0)]) [1, 2, 3, 4, 0] (by decide) rfl td_M_lose_45 ?_
          refine tz_iload_n C_ 2 rfl rfl td_M_lose_47 ?_
          refine tz_istore C_ (lv' := [(0, .ref M), (1, .int (nI k)), (2, .int (nI m)), (3, .int (nI mk)), (4, .int 0), (5, .int (nI m))]) [1, 2, 3, 4, 5, 0] (by decide) rfl td_M_lose_48 ?_
          have loop50 : ∀ (kk50 : Nat) (c : Nat) (d : Nat) (fL : tz_PH), (tz_MB cs fL M (min (σ.2.1 + 1) 20) σ.2.2.2 ms ns tg ((tz_cpf (fun _ => 1000000) nw (4 + 120 * k + m) d)) paK bi nu sh ro ma ca) → (∀ q, (q < M ∨ M + 9 ≤ q) → fL q = f q) → (d ≤ mk) → (c + tz_lost (tz_ln σ k) (tz_sg σ k) = tz_lost (tz_ln σ k) (tz_lsg (tz_sg σ k) m (m + d))) → (mk - d) < kk50 → tz_V p_ l e_ rm_M_lose s_ m_ ar_ be_ me_ c_ Q_ A D 6 fL sz 0 0 50 [(0, .ref M), (1, .int (nI k)), (2, .int (nI m)), (3, .int (nI mk)), (4, .int (nI c)), (5, .int (nI (m + d)))] [] := by
            intro kk50
            induction kk50 with
            | zero => intro c d fL hM1 hfr hd hc hm50; omega
            | succ kk50 ih50 =>
              intro c d fL hM1 hfr hd hc hm50
              have hEd := tz_en_lose hE hWT hk (m := m) (d := d) (show m + d ≤ tz_ln σ k by omega)
              refine tz_iload C_ 5 rfl td_M_lose_50 ?_
              refine tz_iload_n C_ 2 rfl rfl td_M_lose_52 ?_
              refine tz_iload_n C_ 3 rfl rfl td_M_lose_53 ?_
              refine tz_iadd C_ td_M_lose_54 ?_
              rw [show ((nI m) + (nI mk) : Int32) = nI (m + mk) from nI_add (m) (mk)]
              refine tz_icmp_ge C_ td_M_lose_55 (fun h55 => ?_) (fun h55 => ?_)
              · skip
                replace h55 := (nI_leI (a := m + mk) (b := m + d) (by omega) (by omega)).mp h55
                refine tz_iload C_ 4 rfl td_M_lose_102 ?_
                refine tz_riret C_ hr_ hk_ hQ_ rfl td_M_lose_104 ?_
                have e9 : sp_lose σ (nI k) (nI m) (nI mk) = (nI c, tz_act σ ((tz_sr (tz_cur σ) k (tz_ln σ k, tz_lsg (tz_sg σ k) m (m + d))))) := by 
                  have e8 : d = mk := by omega
                  subst e8
                  simp only [sp_lose, hpk4]
                  rw [if_pos hh, nI_clamp (by omega), nI_clamp (by omega), ← hc, pk_sub (by omega), Nat.add_sub_cancel]
                rw [e9]
                exact ⟨rfl, tz_AM_act hW ⟨hM1.1, hM1.2.1, hM1.2.2.1, hM1.2.2.2.1, hM1.2.2.2.2.1, hM1.2.2.2.2.2.1, hM1.2.2.2.2.2.2.1, hM1.2.2.2.2.2.2.2.1, hM1.2.2.2.2.2.2.2.2⟩ hEd.1 hHK hQ, (fun q hh => by rw [hfr q (by omega)])⟩
              · skip
                replace h55 := mt (nI_leI (a := m + mk) (b := m + d) (by omega) (by omega)).mpr h55
                refine tz_iload C_ 4 rfl td_M_lose_58 ?_
                refine tz_aload_n C_ 0 rfl rfl td_M_lose_60 ?_
                refine tz_iload_n C_ 1 rfl rfl td_M_lose_61 ?_
                refine tz_iload C_ 5 rfl td_M_lose_62 ?_
                refine tz_rV C_ tmi_M_at tw_827 tw_17 tw_825 hM1.1 rfl (As := [.int (nI k), .int (nI (m + d))]) (by exact (ct_M_at ⟨hM1.1, hM1.2.1, hM1.2.2.1, hM1.2.2.2.1, hM1.2.2.2.2.1, hM1.2.2.2.2.2.1, hM1.2.2.2.2.2.2.1, hM1.2.2.2.2.2.2.2.1, hM1.2.2.2.2.2.2.2.2⟩ hEd.1 hEd.2 (k := k) (j := (m + d)) (by omega) (by rw [tz_sr_k]; show m + d < tz_ln σ k; omega))) rfl (rest := [.int (nI c)]) rfl (by decide) (Nat.le_of_ble_eq_true rfl) td_M_lose_64 (st1 := [.int (tz_mo (((tz_sr (tz_cur σ) k (tz_ln σ k, tz_lsg (tz_sg σ k) m (m + d))).1 k).2 (m + d))), .int (nI c)]) rfl ?_
                refine tz_ldc C_ tw_829 td_M_lose_67 ?_
                refine tz_icmp_ne C_ td_M_lose_69 (fun h69 => ?_) (fun h69 => ?_)
                · skip
                  refine tz_iconst C_ (v := 1) (by decide) td_M_lose_76 ?_
                  refine tz_iadd C_ td_M_lose_77 ?_
                  rw [show ((nI c) + 1 : Int32) = nI (c + 1) from nI_add (c) (1)]
                  refine tz_istore C_ (lv' := [(0, .ref M), (1, .int (nI k)), (2, .int (nI m)), (3, .int (nI mk)), (4, .int (nI (c + 1))), (5, .int (nI (m + d)))]) [1, 2, 3, 4, 0, 5] (by decide) rfl td_M_lose_78 ?_
                  refine tz_aload_n C_ 0 rfl rfl td_M_lose_80 ?_
                  refine tz_get C_ tci_M 0 (by decide) tw_753 hM1.1 rfl td_M_lose_81 ?_
                  refine tz_iconst C_ (v := 4) (by decide) td_M_lose_84 ?_
                  refine tz_bipush C_ (v := 120) (by decide) td_M_lose_85 ?_
                  refine tz_iload_n C_ 1 rfl rfl td_M_lose_87 ?_
                  refine tz_imul C_ td_M_lose_88 ?_
                  rw [show (120 * (nI k) : Int32) = nI (120 * k) from pk_mul (120) (k)]
                  refine tz_iadd C_ td_M_lose_89 ?_
                  rw [show (4 + (nI (120 * k)) : Int32) = nI (4 + (120 * k)) from nI_add (4) (120 * k)]
                  refine tz_iload C_ 5 rfl td_M_lose_90 ?_
                  refine tz_iadd C_ td_M_lose_92 ?_
                  rw [show ((nI (4 + (120 * k))) + (nI (m + d)) : Int32) = nI (4 + 120 * k + m + d) from (nI_add _ _).trans (congrArg nI (by omega))]
                  refine tz_ldc C_ tw_829 td_M_lose_93 ?_
                  refine tz_wiastN C_ hM1.2.1 (by omega) (by decide) (g' := upd ((tz_cpf (fun _ => 1000000) nw (4 + 120 * k + m) d)) ((4 + 120 * k + m + d)) 1000000) rfl td_M_lose_95 (fun f32 hs32 hq32 => ?_)
                  refine tz_iinc C_ (k := 1) (v := nI (m + d + 1)) (lv' := [(0, .ref M), (1, .int (nI k)), (2, .int (nI m)), (3, .int (nI mk)), (4, .int (nI (c + 1))), (5, .int (nI (m + d + 1)))]) 5 rfl (nI_1 (m + d)) [1, 2, 3, 4, 5, 0] (by decide) rfl td_M_lose_96 ?_
                  refine tz_goto C_ td_M_lose_99 ?_
                  have k33 : f32 M = some (tz_obj 11 [.ref (M + 1), .ref (M + 2), .int (nI (min (σ.2.1 + 1) 20)), .int σ.2.2.2, .ref (M + 3), .ref (M + 4), .ref (M + 5), .int ms, .ref (M + 6), .int ns, .ref (M + 7), .ref (M + 8), .int tg]) := ((hq32 _ (by omega)).trans hM1.1)
                  have k34 : f32 (M + 2) = some (tz_ints cs 10640 paK) := ((hq32 _ (by omega)).trans hM1.2.2.1)
                  have k35 : f32 (M + 3) = some (tz_ints cs 4 bi) := ((hq32 _ (by omega)).trans hM1.2.2.2.1)
                  have k36 : f32 (M + 4) = some (tz_ints cs 4 nu) := ((hq32 _ (by omega)).trans hM1.2.2.2.2.1)
                  have k37 : f32 (M + 5) = some (tz_ints cs 480 sh) := ((hq32 _ (by omega)).trans hM1.2.2.2.2.2.1)
                  have k38 : f32 (M + 6) = some (tz_ints cs 120 ro) := ((hq32 _ (by omega)).trans hM1.2.2.2.2.2.2.1)
                  have k39 : f32 (M + 7) = some (tz_ints cs 120 ma) := ((hq32 _ (by omega)).trans hM1.2.2.2.2.2.2.2.1)
                  have k40 : f32 (M + 8) = some (tz_ints cs 120 ca) := ((hq32 _ (by omega)).trans hM1.2.2.2.2.2.2.2.2)
                  rw [tz_sr_k] at h69
                  have e7 : tz_lsg (tz_sg σ k) m (m + d) (m + d) = tz_sg σ k (m + d) := by unfold tz_lsg; rw [if_neg (by omega)]
                  simp only [e7] at h69
                  have e6 := tz_lost_s (g := tz_sg σ k) (n := tz_ln σ k) (m := m) (i := m + d) (by omega) (by omega)
                  rw [← hc] at e6
                  have hok9 : tz_okv (tz_sg σ k (m + d)) := (hWT.1 k hk).2 (m + d) (show m + d < tz_ln σ k by omega)
                  have e5 := tz_mo_lo hok9
                  exact ih50 (c + 1) (d + 1) f32 (⟨k33, tz_cpr hs32 rfl, k34, k35, k36, k37, k38, k39, k40⟩) (fun q hh => by rw [hq32 q (by omega), hfr q (by omega)]) (by omega) (by rw [show m + (d + 1) = m + d + 1 from rfl, e6]; rw [if_neg (mt e5.mpr h69)]; omega) (by omega)
                · skip
                  refine tz_iconst C_ (v := 0) (by decide) td_M_lose_72 ?_
                  refine tz_goto C_ td_M_lose_73 ?_
                  refine tz_iadd C_ td_M_lose_77 ?_
                  rw [show ((nI c) + 0 : Int32) = nI (c + 0) from nI_add (c) (0)]
                  refine tz_istore C_ (lv' := [(0, .ref M), (1, .int (nI k)), (2, .int (nI m)), (3, .int (nI mk)), (4, .int (nI (c + 0))), (5, .int (nI (m + d)))]) [1, 2, 3, 4, 0, 5] (by decide) rfl td_M_lose_78 ?_
                  refine tz_aload_n C_ 0 rfl rfl td_M_lose_80 ?_
                  refine tz_get C_ tci_M 0 (by decide) tw_753 hM1.1 rfl td_M_lose_81 ?_
                  refine tz_iconst C_ (v := 4) (by decide) td_M_lose_84 ?_
                  refine tz_bipush C_ (v := 120) (by decide) td_M_lose_85 ?_
                  refine tz_iload_n C_ 1 rfl rfl td_M_lose_87 ?_
                  refine tz_imul C_ td_M_lose_88 ?_
                  rw [show (120 * (nI k) : Int32) = nI (120 * k) from pk_mul (120) (k)]
                  refine tz_iadd C_ td_M_lose_89 ?_
                  rw [show (4 + (nI (120 * k)) : Int32) = nI (4 + (120 * k)) from nI_add (4) (120 * k)]
                  refine tz_iload C_ 5 rfl td_M_lose_90 ?_
                  refine tz_iadd C_ td_M_lose_92 ?_
                  rw [show ((nI (4 + (120 * k))) + (nI (m + d)) : Int32) = nI (4 + 120 * k + m + d) from (nI_add _ _).trans (congrArg nI (by omega))]
                  refine tz_ldc C_ tw_829 td_M_lose_93 ?_
                  refine tz_wiastN C_ hM1.2.1 (by omega) (by decide) (g' := upd ((tz_cpf (fun _ => 1000000) nw (4 + 120 * k + m) d)) ((4 + 120 * k + m + d)) 1000000) rfl td_M_lose_95 (fun f41 hs41 hq41 => ?_)
                  refine tz_iinc C_ (k := 1) (v := nI (m + d + 1)) (lv' := [(0, .ref M), (1, .int (nI k)), (2, .int (nI m)), (3, .int (nI mk)), (4, .int (nI (c + 0))), (5, .int (nI (m + d + 1)))]) 5 rfl (nI_1 (m + d)) [1, 2, 3, 4, 5, 0] (by decide) rfl td_M_lose_96 ?_
                  refine tz_goto C_ td_M_lose_99 ?_
                  have k42 : f41 M = some (tz_obj 11 [.ref (M + 1), .ref (M + 2), .int (nI (min (σ.2.1 + 1) 20)), .int σ.2.2.2, .ref (M + 3), .ref (M + 4), .ref (M + 5), .int ms, .ref (M + 6), .int ns, .ref (M + 7), .ref (M + 8), .int tg]) := ((hq41 _ (by omega)).trans hM1.1)
                  have k43 : f41 (M + 2) = some (tz_ints cs 10640 paK) := ((hq41 _ (by omega)).trans hM1.2.2.1)
                  have k44 : f41 (M + 3) = some (tz_ints cs 4 bi) := ((hq41 _ (by omega)).trans hM1.2.2.2.1)
                  have k45 : f41 (M + 4) = some (tz_ints cs 4 nu) := ((hq41 _ (by omega)).trans hM1.2.2.2.2.1)
                  have k46 : f41 (M + 5) = some (tz_ints cs 480 sh) := ((hq41 _ (by omega)).trans hM1.2.2.2.2.2.1)
                  have k47 : f41 (M + 6) = some (tz_ints cs 120 ro) := ((hq41 _ (by omega)).trans hM1.2.2.2.2.2.2.1)
                  have k48 : f41 (M + 7) = some (tz_ints cs 120 ma) := ((hq41 _ (by omega)).trans hM1.2.2.2.2.2.2.2.1)
                  have k49 : f41 (M + 8) = some (tz_ints cs 120 ca) := ((hq41 _ (by omega)).trans hM1.2.2.2.2.2.2.2.2)
                  rw [tz_sr_k] at h69
                  have e7 : tz_lsg (tz_sg σ k) m (m + d) (m + d) = tz_sg σ k (m + d) := by unfold tz_lsg; rw [if_neg (by omega)]
                  simp only [e7] at h69
                  have e6 := tz_lost_s (g := tz_sg σ k) (n := tz_ln σ k) (m := m) (i := m + d) (by omega) (by omega)
                  rw [← hc] at e6
                  have hok9 : tz_okv (tz_sg σ k (m + d)) := (hWT.1 k hk).2 (m + d) (show m + d < tz_ln σ k by omega)
                  have e5 := tz_mo_lo hok9
                  exact ih50 (c + 0) (d + 1) f41 (⟨k42, tz_cpr hs41 rfl, k43, k44, k45, k46, k47, k48, k49⟩) (fun q hh => by rw [hq41 q (by omega), hfr q (by omega)]) (by omega) (by rw [show m + (d + 1) = m + d + 1 from rfl, e6]; rw [if_pos (e5.mp h69)]; omega) (by omega)
          exact loop50 _ 0 0 f31 (⟨hMK.1, by rw [tz_cpf_0]; exact hMK.2.1, hMK.2.2.1, hMK.2.2.2.1, hMK.2.2.2.2.1, hMK.2.2.2.2.2.1, hMK.2.2.2.2.2.2.1, hMK.2.2.2.2.2.2.2.1, hMK.2.2.2.2.2.2.2.2⟩) (fun q hh => by rw [hqK q (by omega)]) (Nat.zero_le _) (by rw [Nat.add_zero, tz_lsg_0, Nat.zero_add]) (Nat.lt_succ_self _)
        · skip
          rw [hE.1 k hk] at h30
          refine tz_aload_n C_ 0 rfl rfl td_M_lose_33 ?_
          refine tz_ldc C_ tw_812 td_M_lose_34 ?_
          refine tz_cV C_ tmi_M_finding tw_800 tw_14 tw_798 hM.1 rfl (As := [.int (-100001)]) (by exact (ct_M_finding (v := -100001) hM.1)) rfl (rest := []) rfl (by decide) (Nat.le_of_ble_eq_true rfl) td_M_lose_36 (st1 := [.int (-100001)]) rfl (fun f50 hF50 => ?_)
          obtain ⟨hs51, hq51⟩ := hF50
          refine tz_riret C_ hr_ hk_ hQ_ rfl td_M_lose_39 ?_
          have k52 : f50 (M + 1) = some (tz_ints cs 532 nw) := ((hq51 _ (by omega)).trans hM.2.1)
          have k53 : f50 (M + 2) = some (tz_ints cs 10640 pa) := ((hq51 _ (by omega)).trans hM.2.2.1)
          have k54 : f50 (M + 3) = some (tz_ints cs 4 bi) := ((hq51 _ (by omega)).trans hM.2.2.2.1)
          have k55 : f50 (M + 4) = some (tz_ints cs 4 nu) := ((hq51 _ (by omega)).trans hM.2.2.2.2.1)
          have k56 : f50 (M + 5) = some (tz_ints cs 480 sh) := ((hq51 _ (by omega)).trans hM.2.2.2.2.2.1)
          have k57 : f50 (M + 6) = some (tz_ints cs 120 ro) := ((hq51 _ (by omega)).trans hM.2.2.2.2.2.2.1)
          have k58 : f50 (M + 7) = some (tz_ints cs 120 ma) := ((hq51 _ (by omega)).trans hM.2.2.2.2.2.2.2.1)
          have k59 : f50 (M + 8) = some (tz_ints cs 120 ca) := ((hq51 _ (by omega)).trans hM.2.2.2.2.2.2.2.2)
          have e9 : sp_lose σ (nI k) x n = (-100001, tz_fnd σ) := by simp only [sp_lose, hpk4]; rw [if_neg (fun z => h30 ((tz_hld_l hnk h12 h8).mpr z)), tz_an_f (by decide)]
          rw [e9]
          exact ⟨rfl, ⟨_, _, _, _, _, _, _, _, _, _, _, ⟨hs51, k52, k53, k54, k55, k56, k57, k58, k59⟩, hE, hH, hQ⟩, (fun q hh => by rw [hq51 q (by omega)])⟩

abbrev rm_M_lowest : Room := { frames := 0, cells := 0, slots := 0, locals := 0 }
set_option maxHeartbeats 4000000 in
set_option maxRecDepth 100000 in
theorem ct_M_lowest {l : Launch} {A : Nat → Prop} {D : va_G} {cs : Nat → ClassId} {sz : Nat} {f : tz_PH} {b v : Int32} (hb : b = 8 ∨ b = 16 ∨ b = 32) : tz_CN l tyM_lowest prog_13_method_24_code 2 (some (.int)) rm_M_lowest 0 0 A D cs sz [.int b, .int v] f (some (.int (tz_lw b v))) (fun f' => f' = f) := by
  refine tz_C.ofB (lv0 := [(0, .int b), (1, .int v)]) (plainFor_of_name (by decide)) (Nat.le_of_ble_eq_true rfl) rfl ?_
  intro p_ e_ s_ m_ ar_ be_ me_ c_ Q_ C_ hr_ hk_ hnm_ hz_ hQ_
  refine tz_iload_n C_ 0 rfl rfl td_M_lowest_0 ?_
  refine tz_bipush C_ (v := 8) (by decide) td_M_lowest_1 ?_
  refine tz_icmp_ne C_ td_M_lowest_3 (fun h3 => ?_) (fun h3 => ?_)
  · skip
    refine tz_iload_n C_ 0 rfl rfl td_M_lowest_16 ?_
    refine tz_bipush C_ (v := 16) (by decide) td_M_lowest_17 ?_
    refine tz_icmp_ne C_ td_M_lowest_19 (fun h19 => ?_) (fun h19 => ?_)
    · skip
      refine tz_iload_n C_ 1 rfl rfl td_M_lowest_32 ?_
      refine tz_riret C_ hr_ hk_ hQ_ rfl td_M_lowest_33 ?_
      have e9 : b = 32 := by grind
      subst e9
      exact ⟨tz_ri (tz_lowC v), rfl⟩
    · skip
      refine tz_iload_n C_ 1 rfl rfl td_M_lowest_22 ?_
      refine tz_bipush C_ (v := 16) (by decide) td_M_lowest_23 ?_
      refine tz_ishl C_ td_M_lowest_25 ?_
      refine tz_bipush C_ (v := 16) (by decide) td_M_lowest_26 ?_
      refine tz_ishr C_ td_M_lowest_28 ?_
      refine tz_goto C_ td_M_lowest_29 ?_
      refine tz_riret C_ hr_ hk_ hQ_ rfl td_M_lowest_33 ?_
      exact ⟨tz_ri (by subst h19; exact tz_lowB v), rfl⟩
  · skip
    refine tz_iload_n C_ 1 rfl rfl td_M_lowest_6 ?_
    refine tz_bipush C_ (v := 24) (by decide) td_M_lowest_7 ?_
    refine tz_ishl C_ td_M_lowest_9 ?_
    refine tz_bipush C_ (v := 24) (by decide) td_M_lowest_10 ?_
    refine tz_ishr C_ td_M_lowest_12 ?_
    refine tz_goto C_ td_M_lowest_13 ?_
    refine tz_riret C_ hr_ hk_ hQ_ rfl td_M_lowest_33 ?_
    exact ⟨tz_ri (by subst h3; exact tz_lowA v), rfl⟩

abbrev rm_M_sheet : Room := { frames := 2, cells := 0, slots := 0, locals := 42 }
set_option maxHeartbeats 4000000 in
set_option maxRecDepth 100000 in
theorem ct_M_sheet {l : Launch} {A : Nat → Prop} {D : va_G} {cs : Nat → ClassId} {sz : Nat} {f : tz_PH} {M : Nat} {σ : tz_SG} (hX : tz_AM cs f M σ) (hW : tz_WF σ) {x b n : Int32} : tz_CN l tyM_sheet prog_13_method_23_code 5 (some (.int)) rm_M_sheet 0 0 A D cs sz [.ref M, .int x, .int b, .int n] f (some (.int (sp_sheet σ x b n).1)) (fun f' => tz_AM cs f' M (sp_sheet σ x b n).2 ∧ ∀ q, (q < M ∨ M + 9 ≤ q) → f' q = f q) := by
  refine tz_C.ofB (lv0 := [(0, .ref M), (1, .int x), (2, .int b), (3, .int n)]) (plainFor_of_name (by decide)) (Nat.le_of_ble_eq_true rfl) rfl ?_
  intro p_ e_ s_ m_ ar_ be_ me_ c_ Q_ C_ hr_ hk_ hnm_ hz_ hQ_
  obtain ⟨ms, ns, tg, nw, pa, bi, nu, sh, ro, ma, ca, hM, hE, hH, hQ⟩ := hX
  have hWT := hW.cur
  have hkp : σ.2.1 ≤ 20 := hW.1
  have hl8 := hWT.2.1
  refine tz_iload_n C_ 1 rfl rfl td_M_sheet_0 ?_
  refine tz_rS C_ tmi_M_isSheet tw_876 tw_875 (As := [.int x]) (by exact ct_M_isSheet) rfl (rest := []) rfl (by decide) (Nat.le_of_ble_eq_true rfl) td_M_sheet_1 (st1 := [.int (tz_p (0 ≤ x ∧ x < 4))]) rfl ?_
  refine tz_if_eq C_ td_M_sheet_4 (fun h4 => ?_) (fun h4 => ?_)
  · skip
    replace h4 := tz_p0.mp h4
    have hpk4 := tz_pk_out h4
    refine tz_aload_n C_ 0 rfl rfl td_M_sheet_29 ?_
    refine tz_ldc C_ tw_812 td_M_sheet_30 ?_
    refine tz_cV C_ tmi_M_finding tw_800 tw_14 tw_798 hM.1 rfl (As := [.int (-100001)]) (by exact (ct_M_finding (v := -100001) hM.1)) rfl (rest := []) rfl (by decide) (Nat.le_of_ble_eq_true rfl) td_M_sheet_32 (st1 := [.int (-100001)]) rfl (fun f1 hF1 => ?_)
    obtain ⟨hs2, hq2⟩ := hF1
    refine tz_riret C_ hr_ hk_ hQ_ rfl td_M_sheet_35 ?_
    have k3 : f1 (M + 1) = some (tz_ints cs 532 nw) := ((hq2 _ (by omega)).trans hM.2.1)
    have k4 : f1 (M + 2) = some (tz_ints cs 10640 pa) := ((hq2 _ (by omega)).trans hM.2.2.1)
    have k5 : f1 (M + 3) = some (tz_ints cs 4 bi) := ((hq2 _ (by omega)).trans hM.2.2.2.1)
    have k6 : f1 (M + 4) = some (tz_ints cs 4 nu) := ((hq2 _ (by omega)).trans hM.2.2.2.2.1)
    have k7 : f1 (M + 5) = some (tz_ints cs 480 sh) := ((hq2 _ (by omega)).trans hM.2.2.2.2.2.1)
    have k8 : f1 (M + 6) = some (tz_ints cs 120 ro) := ((hq2 _ (by omega)).trans hM.2.2.2.2.2.2.1)
    have k9 : f1 (M + 7) = some (tz_ints cs 120 ma) := ((hq2 _ (by omega)).trans hM.2.2.2.2.2.2.2.1)
    have k10 : f1 (M + 8) = some (tz_ints cs 120 ca) := ((hq2 _ (by omega)).trans hM.2.2.2.2.2.2.2.2)
    have e9 : sp_sheet σ x b n = (-100001, tz_fnd σ) := by simp only [sp_sheet, hpk4]; rw [tz_an_f (by decide)]
    rw [e9]
    exact ⟨rfl, ⟨_, _, _, _, _, _, _, _, _, _, _, ⟨hs2, k3, k4, k5, k6, k7, k8, k9, k10⟩, hE, hH, hQ⟩, (fun q hh => by rw [hq2 q (by omega)])⟩
  · skip
    replace h4 := tz_p1.mp h4
    obtain ⟨k, hk, ek⟩ := tz_pk_in h4
    subst ek
    have hpk4 := tz_pk_N hk
    have hnk : tz_ln σ k ≤ 120 := (hWT.1 k hk).1
    have hNk : ((tz_cur σ).1 k).1 ≤ 120 := (hWT.1 k hk).1
    refine tz_iload_n C_ 2 rfl rfl td_M_sheet_7 ?_
    refine tz_if_eq C_ td_M_sheet_8 (fun h8 => ?_) (fun h8 => ?_)
    · skip
      refine tz_iload_n C_ 3 rfl rfl td_M_sheet_36 ?_
      refine tz_if_ge C_ td_M_sheet_37 (fun h37 => ?_) (fun h37 => ?_)
      · skip
        refine tz_iload_n C_ 3 rfl rfl td_M_sheet_47 ?_
        refine tz_bipush C_ (v := 120) (by decide) td_M_sheet_48 ?_
        refine tz_icmp_le C_ td_M_sheet_50 (fun h50 => ?_) (fun h50 => ?_)
        · skip
          have hb9 : b = 0 ∨ b = 8 ∨ b = 16 ∨ b = 32 := by grind
          obtain ⟨m, hm, em⟩ := tz_toN (tz_le_nlt h37) (show n ≤ nI 120 from h50) (by decide)
          subst em
          refine tz_aload_n C_ 0 rfl rfl td_M_sheet_60 ?_
          refine tz_get C_ tci_M 4 (by decide) tw_757 hM.1 rfl td_M_sheet_61 ?_
          refine tz_iload_n C_ 1 rfl rfl td_M_sheet_64 ?_
          refine tz_iload_n C_ 2 rfl rfl td_M_sheet_65 ?_
          refine tz_wiastN C_ hM.2.2.2.1 (by omega) (by decide) (g' := upd bi k b) rfl td_M_sheet_66 (fun f11 hs11 hq11 => ?_)
          refine tz_aload_n C_ 0 rfl rfl td_M_sheet_67 ?_
          have k12 : f11 M = some (tz_obj 11 [.ref (M + 1), .ref (M + 2), .int (nI σ.2.1), .int σ.2.2.2, .ref (M + 3), .ref (M + 4), .ref (M + 5), .int ms, .ref (M + 6), .int ns, .ref (M + 7), .ref (M + 8), .int tg]) := ((hq11 _ (by omega)).trans hM.1)
          refine tz_get C_ tci_M 5 (by decide) tw_758 k12 rfl td_M_sheet_68 ?_
          refine tz_iload_n C_ 1 rfl rfl td_M_sheet_71 ?_
          refine tz_iload_n C_ 2 rfl rfl td_M_sheet_72 ?_
          refine tz_if_ne C_ td_M_sheet_73 (fun h73 => ?_) (fun h73 => ?_)
          · skip
            refine tz_iload_n C_ 3 rfl rfl td_M_sheet_80 ?_
            have k13 : f11 (M + 4) = some (tz_ints cs 4 nu) := ((hq11 _ (by omega)).trans hM.2.2.2.2.1)
            refine tz_wiastN C_ k13 (by omega) (by decide) (g' := upd nu k (nI m)) rfl td_M_sheet_81 (fun f14 hs14 hq14 => ?_)
            refine tz_iconst C_ (v := 0) (by decide) td_M_sheet_82 ?_
            refine tz_istore C_ (lv' := [(0, .ref M), (1, .int (nI k)), (2, .int b), (3, .int (nI m)), (4, .int 0)]) [1, 2, 3, 4, 0] (by decide) rfl td_M_sheet_83 ?_
            have k15 : f14 M = some (tz_obj 11 [.ref (M + 1), .ref (M + 2), .int (nI σ.2.1), .int σ.2.2.2, .ref (M + 3), .ref (M + 4), .ref (M + 5), .int ms, .ref (M + 6), .int ns, .ref (M + 7), .ref (M + 8), .int tg]) := ((hq14 _ (by omega)).trans k12)
            have k16 : f14 (M + 1) = some (tz_ints cs 532 nw) := ((hq14 _ (by omega)).trans ((hq11 _ (by omega)).trans hM.2.1))
            have k17 : f14 (M + 2) = some (tz_ints cs 10640 pa) := ((hq14 _ (by omega)).trans ((hq11 _ (by omega)).trans hM.2.2.1))
            have k18 : f14 (M + 3) = some (tz_ints cs 4 (upd bi k b)) := ((hq14 _ (by omega)).trans hs11)
            have k19 : f14 (M + 5) = some (tz_ints cs 480 sh) := ((hq14 _ (by omega)).trans ((hq11 _ (by omega)).trans hM.2.2.2.2.2.1))
            have k20 : f14 (M + 6) = some (tz_ints cs 120 ro) := ((hq14 _ (by omega)).trans ((hq11 _ (by omega)).trans hM.2.2.2.2.2.2.1))
            have k21 : f14 (M + 7) = some (tz_ints cs 120 ma) := ((hq14 _ (by omega)).trans ((hq11 _ (by omega)).trans hM.2.2.2.2.2.2.2.1))
            have k22 : f14 (M + 8) = some (tz_ints cs 120 ca) := ((hq14 _ (by omega)).trans ((hq11 _ (by omega)).trans hM.2.2.2.2.2.2.2.2))
            have loop85 : ∀ (kk85 : Nat) (i : Nat) (fL : tz_PH), (tz_MB cs fL M σ.2.1 σ.2.2.2 ms ns tg nw pa ((upd bi k b)) ((upd nu k (nI m))) ((tz_cpf (fun _ => 0) sh (120 * k) i)) ro ma ca) → (∀ q, (q < M ∨ M + 9 ≤ q) → fL q = f q) → (i ≤ 120) → (120 - i) < kk85 → tz_V p_ l e_ rm_M_sheet s_ m_ ar_ be_ me_ c_ Q_ A D 5 fL sz 0 0 85 [(0, .ref M), (1, .int (nI k)), (2, .int b), (3, .int (nI m)), (4, .int (nI i))] [] := by
              intro kk85
              induction kk85 with
              | zero => intro i fL hM1 hfr hi hm85; omega
              | succ kk85 ih85 =>
                intro i fL hM1 hfr hi hm85
                refine tz_iload C_ 4 rfl td_M_sheet_85 ?_
                refine tz_bipush C_ (v := 120) (by decide) td_M_sheet_87 ?_
                refine tz_icmp_ge C_ td_M_sheet_89 (fun h89 => ?_) (fun h89 => ?_)
                · skip
                  replace h89 := (nI_leI (a := 120) (b := i) (by omega) (by omega)).mp h89
                  refine tz_aload_n C_ 0 rfl rfl td_M_sheet_111 ?_
                  refine tz_get C_ tci_M 5 (by decide) tw_758 hM1.1 rfl td_M_sheet_112 ?_
                  refine tz_iload_n C_ 1 rfl rfl td_M_sheet_115 ?_
                  refine tz_ialdN C_ hM1.2.2.2.2.1 (by omega) (by decide) td_M_sheet_116 ?_
                  rw [show ((upd nu k (nI m))) k = nI m from tz_updk]
                  refine tz_riret C_ hr_ hk_ hQ_ rfl td_M_sheet_117 ?_
                  have e9 : sp_sheet σ (nI k) b (nI m) = (nI m, tz_ss σ k (b, m, fun _ => 0)) := by simp only [sp_sheet, hpk4]; rw [if_pos hb9, if_neg (tz_le_nlt h37), if_pos h50]; rw [if_neg h73, if_neg h73, nI_clamp (by omega)]
                  rw [e9]
                  exact ⟨rfl, ⟨_, _, _, _, _, _, _, _, _, _, _, ⟨hM1.1, hM1.2.1, hM1.2.2.1, hM1.2.2.2.1, hM1.2.2.2.2.1, hM1.2.2.2.2.2.1, hM1.2.2.2.2.2.2.1, hM1.2.2.2.2.2.2.2.1, hM1.2.2.2.2.2.2.2.2⟩, hE, hH, (tz_enQ_set hQ (fun s h => (hW.2.2 s h).1) tz_updk (fun s h => tz_updo h) tz_updk (fun s h => tz_updo h) (fun q hq => tz_cpf_out (by omega)) (fun j hj => tz_cpf_in (show j < i from by have hj2 : j < m := hj; omega)))⟩, (fun q hh => by rw [hfr q (by omega)])⟩
                · skip
                  replace h89 := mt (nI_leI (a := 120) (b := i) (by omega) (by omega)).mpr h89
                  refine tz_aload_n C_ 0 rfl rfl td_M_sheet_92 ?_
                  refine tz_get C_ tci_M 6 (by decide) tw_759 hM1.1 rfl td_M_sheet_93 ?_
                  refine tz_bipush C_ (v := 120) (by decide) td_M_sheet_96 ?_
                  refine tz_iload_n C_ 1 rfl rfl td_M_sheet_98 ?_
                  refine tz_imul C_ td_M_sheet_99 ?_
                  rw [show (120 * (nI k) : Int32) = nI (120 * k) from pk_mul (120) (k)]
                  refine tz_iload C_ 4 rfl td_M_sheet_100 ?_
                  refine tz_iadd C_ td_M_sheet_102 ?_
                  rw [show ((nI (120 * k)) + (nI i) : Int32) = nI (120 * k + i) from nI_add (120 * k) (i)]
                  refine tz_iconst C_ (v := 0) (by decide) td_M_sheet_103 ?_
                  refine tz_wiastN C_ hM1.2.2.2.2.2.1 (by omega) (by decide) (g' := upd ((tz_cpf (fun _ => 0) sh (120 * k) i)) ((120 * k + i)) 0) rfl td_M_sheet_104 (fun f23 hs23 hq23 => ?_)
                  refine tz_iinc C_ (k := 1) (v := nI (i + 1)) (lv' := [(0, .ref M), (1, .int (nI k)), (2, .int b), (3, .int (nI m)), (4, .int (nI (i + 1)))]) 4 rfl (nI_1 i) [1, 2, 3, 4, 0] (by decide) rfl td_M_sheet_105 ?_
                  refine tz_goto C_ td_M_sheet_108 ?_
                  have k24 : f23 M = some (tz_obj 11 [.ref (M + 1), .ref (M + 2), .int (nI σ.2.1), .int σ.2.2.2, .ref (M + 3), .ref (M + 4), .ref (M + 5), .int ms, .ref (M + 6), .int ns, .ref (M + 7), .ref (M + 8), .int tg]) := ((hq23 _ (by omega)).trans hM1.1)
                  have k25 : f23 (M + 1) = some (tz_ints cs 532 nw) := ((hq23 _ (by omega)).trans hM1.2.1)
                  have k26 : f23 (M + 2) = some (tz_ints cs 10640 pa) := ((hq23 _ (by omega)).trans hM1.2.2.1)
                  have k27 : f23 (M + 3) = some (tz_ints cs 4 ((upd bi k b))) := ((hq23 _ (by omega)).trans hM1.2.2.2.1)
                  have k28 : f23 (M + 4) = some (tz_ints cs 4 ((upd nu k (nI m)))) := ((hq23 _ (by omega)).trans hM1.2.2.2.2.1)
                  have k29 : f23 (M + 6) = some (tz_ints cs 120 ro) := ((hq23 _ (by omega)).trans hM1.2.2.2.2.2.2.1)
                  have k30 : f23 (M + 7) = some (tz_ints cs 120 ma) := ((hq23 _ (by omega)).trans hM1.2.2.2.2.2.2.2.1)
                  have k31 : f23 (M + 8) = some (tz_ints cs 120 ca) := ((hq23 _ (by omega)).trans hM1.2.2.2.2.2.2.2.2)
                  exact ih85 (i + 1) f23 (⟨k24, k25, k26, k27, k28, tz_cpr hs23 rfl, k29, k30, k31⟩) (fun q hh => by rw [hq23 q (by omega), hfr q (by omega)]) (by omega) (by omega)
            exact loop85 _ 0 f14 (⟨k15, k16, k17, k18, hs14, by rw [tz_cpf_0]; exact k19, k20, k21, k22⟩) (fun q hh => by rw [hq14 q (by omega), hq11 q (by omega)]) (Nat.zero_le _) (Nat.lt_succ_self _)
          · skip
            refine tz_iconst C_ (v := 0) (by decide) td_M_sheet_76 ?_
            refine tz_goto C_ td_M_sheet_77 ?_
            have k32 : f11 (M + 4) = some (tz_ints cs 4 nu) := ((hq11 _ (by omega)).trans hM.2.2.2.2.1)
            refine tz_wiastN C_ k32 (by omega) (by decide) (g' := upd nu k 0) rfl td_M_sheet_81 (fun f33 hs33 hq33 => ?_)
            refine tz_iconst C_ (v := 0) (by decide) td_M_sheet_82 ?_
            refine tz_istore C_ (lv' := [(0, .ref M), (1, .int (nI k)), (2, .int b), (3, .int (nI m)), (4, .int 0)]) [1, 2, 3, 4, 0] (by decide) rfl td_M_sheet_83 ?_
            have k34 : f33 M = some (tz_obj 11 [.ref (M + 1), .ref (M + 2), .int (nI σ.2.1), .int σ.2.2.2, .ref (M + 3), .ref (M + 4), .ref (M + 5), .int ms, .ref (M + 6), .int ns, .ref (M + 7), .ref (M + 8), .int tg]) := ((hq33 _ (by omega)).trans k12)
            have k35 : f33 (M + 1) = some (tz_ints cs 532 nw) := ((hq33 _ (by omega)).trans ((hq11 _ (by omega)).trans hM.2.1))
            have k36 : f33 (M + 2) = some (tz_ints cs 10640 pa) := ((hq33 _ (by omega)).trans ((hq11 _ (by omega)).trans hM.2.2.1))
            have k37 : f33 (M + 3) = some (tz_ints cs 4 (upd bi k b)) := ((hq33 _ (by omega)).trans hs11)
            have k38 : f33 (M + 5) = some (tz_ints cs 480 sh) := ((hq33 _ (by omega)).trans ((hq11 _ (by omega)).trans hM.2.2.2.2.2.1))
            have k39 : f33 (M + 6) = some (tz_ints cs 120 ro) := ((hq33 _ (by omega)).trans ((hq11 _ (by omega)).trans hM.2.2.2.2.2.2.1))
            have k40 : f33 (M + 7) = some (tz_ints cs 120 ma) := ((hq33 _ (by omega)).trans ((hq11 _ (by omega)).trans hM.2.2.2.2.2.2.2.1))
            have k41 : f33 (M + 8) = some (tz_ints cs 120 ca) := ((hq33 _ (by omega)).trans ((hq11 _ (by omega)).trans hM.2.2.2.2.2.2.2.2))
            have loop85 : ∀ (kk85 : Nat) (i : Nat) (fL : tz_PH), (tz_MB cs fL M σ.2.1 σ.2.2.2 ms ns tg nw pa ((upd bi k b)) ((upd nu k 0)) ((tz_cpf (fun _ => 0) sh (120 * k) i)) ro ma ca) → (∀ q, (q < M ∨ M + 9 ≤ q) → fL q = f q) → (i ≤ 120) → (120 - i) < kk85 → tz_V p_ l e_ rm_M_sheet s_ m_ ar_ be_ me_ c_ Q_ A D 5 fL sz 0 0 85 [(0, .ref M), (1, .int (nI k)), (2, .int b), (3, .int (nI m)), (4, .int (nI i))] [] := by
              intro kk85
              induction kk85 with
              | zero => intro i fL hM1 hfr hi hm85; omega
              | succ kk85 ih85 =>
                intro i fL hM1 hfr hi hm85
                refine tz_iload C_ 4 rfl td_M_sheet_85 ?_
                refine tz_bipush C_ (v := 120) (by decide) td_M_sheet_87 ?_
                refine tz_icmp_ge C_ td_M_sheet_89 (fun h89 => ?_) (fun h89 => ?_)
                · skip
                  replace h89 := (nI_leI (a := 120) (b := i) (by omega) (by omega)).mp h89
                  refine tz_aload_n C_ 0 rfl rfl td_M_sheet_111 ?_
                  refine tz_get C_ tci_M 5 (by decide) tw_758 hM1.1 rfl td_M_sheet_112 ?_
                  refine tz_iload_n C_ 1 rfl rfl td_M_sheet_115 ?_
                  refine tz_ialdN C_ hM1.2.2.2.2.1 (by omega) (by decide) td_M_sheet_116 ?_
                  rw [show ((upd nu k 0)) k = 0 from tz_updk]
                  refine tz_riret C_ hr_ hk_ hQ_ rfl td_M_sheet_117 ?_
                  have e9 : sp_sheet σ (nI k) b (nI m) = (0, tz_ss σ k (b, 0, fun _ => 0)) := by simp only [sp_sheet, hpk4]; rw [if_pos hb9, if_neg (tz_le_nlt h37), if_pos h50]; rw [if_pos h73, if_pos h73]
                  rw [e9]
                  exact ⟨rfl, ⟨_, _, _, _, _, _, _, _, _, _, _, ⟨hM1.1, hM1.2.1, hM1.2.2.1, hM1.2.2.2.1, hM1.2.2.2.2.1, hM1.2.2.2.2.2.1, hM1.2.2.2.2.2.2.1, hM1.2.2.2.2.2.2.2.1, hM1.2.2.2.2.2.2.2.2⟩, hE, hH, (tz_enQ_set hQ (fun s h => (hW.2.2 s h).1) tz_updk (fun s h => tz_updo h) tz_updk (fun s h => tz_updo h) (fun q hq => tz_cpf_out (by omega)) (fun j hj => tz_cpf_in (show j < i from by have hj2 : j < 0 := hj; omega)))⟩, (fun q hh => by rw [hfr q (by omega)])⟩
                · skip
                  replace h89 := mt (nI_leI (a := 120) (b := i) (by omega) (by omega)).mpr h89
                  refine tz_aload_n C_ 0 rfl rfl td_M_sheet_92 ?_
                  refine tz_get C_ tci_M 6 (by decide) tw_759 hM1.1 rfl td_M_sheet_93 ?_
                  refine tz_bipush C_ (v := 120) (by decide) td_M_sheet_96 ?_
                  refine tz_iload_n C_ 1 rfl rfl td_M_sheet_98 ?_
                  refine tz_imul C_ td_M_sheet_99 ?_
                  rw [show (120 * (nI k) : Int32) = nI (120 * k) from pk_mul (120) (k)]
                  refine tz_iload C_ 4 rfl td_M_sheet_100 ?_
                  refine tz_iadd C_ td_M_sheet_102 ?_
                  rw [show ((nI (120 * k)) + (nI i) : Int32) = nI (120 * k + i) from nI_add (120 * k) (i)]
                  refine tz_iconst C_ (v := 0) (by decide) td_M_sheet_103 ?_
                  refine tz_wiastN C_ hM1.2.2.2.2.2.1 (by omega) (by decide) (g' := upd ((tz_cpf (fun _ => 0) sh (120 * k) i)) ((120 * k + i)) 0) rfl td_M_sheet_104 (fun f42 hs42 hq42 => ?_)
                  refine tz_iinc C_ (k := 1) (v := nI (i + 1)) (lv' := [(0, .ref M), (1, .int (nI k)), (2, .int b), (3, .int (nI m)), (4, .int (nI (i + 1)))]) 4 rfl (nI_1 i) [1, 2, 3, 4, 0] (by decide) rfl td_M_sheet_105 ?_
                  refine tz_goto C_ td_M_sheet_108 ?_
                  have k43 : f42 M = some (tz_obj 11 [.ref (M + 1), .ref (M + 2), .int (nI σ.2.1), .int σ.2.2.2, .ref (M + 3), .ref (M + 4), .ref (M + 5), .int ms, .ref (M + 6), .int ns, .ref (M + 7), .ref (M + 8), .int tg]) := ((hq42 _ (by omega)).trans hM1.1)
                  have k44 : f42 (M + 1) = some (tz_ints cs 532 nw) := ((hq42 _ (by omega)).trans hM1.2.1)
                  have k45 : f42 (M + 2) = some (tz_ints cs 10640 pa) := ((hq42 _ (by omega)).trans hM1.2.2.1)
                  have k46 : f42 (M + 3) = some (tz_ints cs 4 ((upd bi k b))) := ((hq42 _ (by omega)).trans hM1.2.2.2.1)
                  have k47 : f42 (M + 4) = some (tz_ints cs 4 ((upd nu k 0))) := ((hq42 _ (by omega)).trans hM1.2.2.2.2.1)
                  have k48 : f42 (M + 6) = some (tz_ints cs 120 ro) := ((hq42 _ (by omega)).trans hM1.2.2.2.2.2.2.1)
                  have k49 : f42 (M + 7) = some (tz_ints cs 120 ma) := ((hq42 _ (by omega)).trans hM1.2.2.2.2.2.2.2.1)
                  have k50 : f42 (M + 8) = some (tz_ints cs 120 ca) := ((hq42 _ (by omega)).trans hM1.2.2.2.2.2.2.2.2)
                  exact ih85 (i + 1) f42 (⟨k43, k44, k45, k46, k47, tz_cpr hs42 rfl, k48, k49, k50⟩) (fun q hh => by rw [hq42 q (by omega), hfr q (by omega)]) (by omega) (by omega)
            exact loop85 _ 0 f33 (⟨k34, k35, k36, k37, hs33, by rw [tz_cpf_0]; exact k38, k39, k40, k41⟩) (fun q hh => by rw [hq33 q (by omega), hq11 q (by omega)]) (Nat.zero_le _) (Nat.lt_succ_self _)
        · skip
          refine tz_aload_n C_ 0 rfl rfl td_M_sheet_53 ?_
          refine tz_ldc C_ tw_812 td_M_sheet_54 ?_
          refine tz_cV C_ tmi_M_finding tw_800 tw_14 tw_798 hM.1 rfl (As := [.int (-100001)]) (by exact (ct_M_finding (v := -100001) hM.1)) rfl (rest := []) rfl (by decide) (Nat.le_of_ble_eq_true rfl) td_M_sheet_56 (st1 := [.int (-100001)]) rfl (fun f51 hF51 => ?_)
          obtain ⟨hs52, hq52⟩ := hF51
          refine tz_riret C_ hr_ hk_ hQ_ rfl td_M_sheet_59 ?_
          have k53 : f51 (M + 1) = some (tz_ints cs 532 nw) := ((hq52 _ (by omega)).trans hM.2.1)
          have k54 : f51 (M + 2) = some (tz_ints cs 10640 pa) := ((hq52 _ (by omega)).trans hM.2.2.1)
          have k55 : f51 (M + 3) = some (tz_ints cs 4 bi) := ((hq52 _ (by omega)).trans hM.2.2.2.1)
          have k56 : f51 (M + 4) = some (tz_ints cs 4 nu) := ((hq52 _ (by omega)).trans hM.2.2.2.2.1)
          have k57 : f51 (M + 5) = some (tz_ints cs 480 sh) := ((hq52 _ (by omega)).trans hM.2.2.2.2.2.1)
          have k58 : f51 (M + 6) = some (tz_ints cs 120 ro) := ((hq52 _ (by omega)).trans hM.2.2.2.2.2.2.1)
          have k59 : f51 (M + 7) = some (tz_ints cs 120 ma) := ((hq52 _ (by omega)).trans hM.2.2.2.2.2.2.2.1)
          have k60 : f51 (M + 8) = some (tz_ints cs 120 ca) := ((hq52 _ (by omega)).trans hM.2.2.2.2.2.2.2.2)
          have e9 : sp_sheet σ (nI k) b n = (-100001, tz_fnd σ) := by 
            have hb9 : b = 0 ∨ b = 8 ∨ b = 16 ∨ b = 32 := by grind
            simp only [sp_sheet, hpk4]; rw [if_pos hb9, if_neg (tz_le_nlt h37), if_neg h50, tz_an_f (by decide)]
          rw [e9]
          exact ⟨rfl, ⟨_, _, _, _, _, _, _, _, _, _, _, ⟨hs52, k53, k54, k55, k56, k57, k58, k59, k60⟩, hE, hH, hQ⟩, (fun q hh => by rw [hq52 q (by omega)])⟩
      · skip
        refine tz_aload_n C_ 0 rfl rfl td_M_sheet_40 ?_
        refine tz_ldc C_ tw_878 td_M_sheet_41 ?_
        refine tz_cV C_ tmi_M_finding tw_800 tw_14 tw_798 hM.1 rfl (As := [.int (-100003)]) (by exact (ct_M_finding (v := -100003) hM.1)) rfl (rest := []) rfl (by decide) (Nat.le_of_ble_eq_true rfl) td_M_sheet_43 (st1 := [.int (-100003)]) rfl (fun f61 hF61 => ?_)
        obtain ⟨hs62, hq62⟩ := hF61
        refine tz_riret C_ hr_ hk_ hQ_ rfl td_M_sheet_46 ?_
        have k63 : f61 (M + 1) = some (tz_ints cs 532 nw) := ((hq62 _ (by omega)).trans hM.2.1)
        have k64 : f61 (M + 2) = some (tz_ints cs 10640 pa) := ((hq62 _ (by omega)).trans hM.2.2.1)
        have k65 : f61 (M + 3) = some (tz_ints cs 4 bi) := ((hq62 _ (by omega)).trans hM.2.2.2.1)
        have k66 : f61 (M + 4) = some (tz_ints cs 4 nu) := ((hq62 _ (by omega)).trans hM.2.2.2.2.1)
        have k67 : f61 (M + 5) = some (tz_ints cs 480 sh) := ((hq62 _ (by omega)).trans hM.2.2.2.2.2.1)
        have k68 : f61 (M + 6) = some (tz_ints cs 120 ro) := ((hq62 _ (by omega)).trans hM.2.2.2.2.2.2.1)
        have k69 : f61 (M + 7) = some (tz_ints cs 120 ma) := ((hq62 _ (by omega)).trans hM.2.2.2.2.2.2.2.1)
        have k70 : f61 (M + 8) = some (tz_ints cs 120 ca) := ((hq62 _ (by omega)).trans hM.2.2.2.2.2.2.2.2)
        have e9 : sp_sheet σ (nI k) b n = (-100003, tz_fnd σ) := by 
          have hb9 : b = 0 ∨ b = 8 ∨ b = 16 ∨ b = 32 := by grind
          simp only [sp_sheet, hpk4]; rw [if_pos hb9, if_pos (Int32.not_le.mp h37), tz_an_f (by decide)]
        rw [e9]
        exact ⟨rfl, ⟨_, _, _, _, _, _, _, _, _, _, _, ⟨hs62, k63, k64, k65, k66, k67, k68, k69, k70⟩, hE, hH, hQ⟩, (fun q hh => by rw [hq62 q (by omega)])⟩
    · skip
      refine tz_iload_n C_ 2 rfl rfl td_M_sheet_11 ?_
      refine tz_bipush C_ (v := 8) (by decide) td_M_sheet_12 ?_
      refine tz_icmp_eq C_ td_M_sheet_14 (fun h14 => ?_) (fun h14 => ?_)
      · skip
        refine tz_iload_n C_ 3 rfl rfl td_M_sheet_36 ?_
        refine tz_if_ge C_ td_M_sheet_37 (fun h37 => ?_) (fun h37 => ?_)
        · skip
          refine tz_iload_n C_ 3 rfl rfl td_M_sheet_47 ?_
          refine tz_bipush C_ (v := 120) (by decide) td_M_sheet_48 ?_
          refine tz_icmp_le C_ td_M_sheet_50 (fun h50 => ?_) (fun h50 => ?_)
          · skip
            have hb9 : b = 0 ∨ b = 8 ∨ b = 16 ∨ b = 32 := by grind
            obtain ⟨m, hm, em⟩ := tz_toN (tz_le_nlt h37) (show n ≤ nI 120 from h50) (by decide)
            subst em
            refine tz_aload_n C_ 0 rfl rfl td_M_sheet_60 ?_
            refine tz_get C_ tci_M 4 (by decide) tw_757 hM.1 rfl td_M_sheet_61 ?_
            refine tz_iload_n C_ 1 rfl rfl td_M_sheet_64 ?_
            refine tz_iload_n C_ 2 rfl rfl td_M_sheet_65 ?_
            refine tz_wiastN C_ hM.2.2.2.1 (by omega) (by decide) (g' := upd bi k b) rfl td_M_sheet_66 (fun f71 hs71 hq71 => ?_)
            refine tz_aload_n C_ 0 rfl rfl td_M_sheet_67 ?_
            have k72 : f71 M = some (tz_obj 11 [.ref (M + 1), .ref (M + 2), .int (nI σ.2.1), .int σ.2.2.2, .ref (M + 3), .ref (M + 4), .ref (M + 5), .int ms, .ref (M + 6), .int ns, .ref (M + 7), .ref (M + 8), .int tg]) := ((hq71 _ (by omega)).trans hM.1)
            refine tz_get C_ tci_M 5 (by decide) tw_758 k72 rfl td_M_sheet_68 ?_
            refine tz_iload_n C_ 1 rfl rfl td_M_sheet_71 ?_
            refine tz_iload_n C_ 2 rfl rfl td_M_sheet_72 ?_
            refine tz_if_ne C_ td_M_sheet_73 (fun h73 => ?_) (fun h73 => ?_)
            · skip
              refine tz_iload_n C_ 3 rfl rfl td_M_sheet_80 ?_
              have k73 : f71 (M + 4) = some (tz_ints cs 4 nu) := ((hq71 _ (by omega)).trans hM.2.2.2.2.1)
              refine tz_wiastN C_ k73 (by omega) (by decide) (g' := upd nu k (nI m)) rfl td_M_sheet_81 (fun f74 hs74 hq74 => ?_)
              refine tz_iconst C_ (v := 0) (by decide) td_M_sheet_82 ?_
              refine tz_istore C_ (lv' := [(0, .ref M), (1, .int (nI k)), (2, .int b), (3, .int (nI m)), (4, .int 0)]) [1, 2, 3, 4, 0] (by decide) rfl td_M_sheet_83 ?_
              have k75 : f74 M = some (tz_obj 11 [.ref (M + 1), .ref (M + 2), .int (nI σ.2.1), .int σ.2.2.2, .ref (M + 3), .ref (M + 4), .ref (M + 5), .int ms, .ref (M + 6), .int ns, .ref (M + 7), .ref (M + 8), .int tg]) := ((hq74 _ (by omega)).trans k72)
              have k76 : f74 (M + 1) = some (tz_ints cs 532 nw) := ((hq74 _ (by omega)).trans ((hq71 _ (by omega)).trans hM.2.1))
              have k77 : f74 (M + 2) = some (tz_ints cs 10640 pa) := ((hq74 _ (by omega)).trans ((hq71 _ (by omega)).trans hM.2.2.1))
              have k78 : f74 (M + 3) = some (tz_ints cs 4 (upd bi k b)) := ((hq74 _ (by omega)).trans hs71)
              have k79 : f74 (M + 5) = some (tz_ints cs 480 sh) := ((hq74 _ (by omega)).trans ((hq71 _ (by omega)).trans hM.2.2.2.2.2.1))
              have k80 : f74 (M + 6) = some (tz_ints cs 120 ro) := ((hq74 _ (by omega)).trans ((hq71 _ (by omega)).trans hM.2.2.2.2.2.2.1))
              have k81 : f74 (M + 7) = some (tz_ints cs 120 ma) := ((hq74 _ (by omega)).trans ((hq71 _ (by omega)).trans hM.2.2.2.2.2.2.2.1))
              have k82 : f74 (M + 8) = some (tz_ints cs 120 ca) := ((hq74 _ (by omega)).trans ((hq71 _ (by omega)).trans hM.2.2.2.2.2.2.2.2))
              have loop85 : ∀ (kk85 : Nat) (i : Nat) (fL : tz_PH), (tz_MB cs fL M σ.2.1 σ.2.2.2 ms ns tg nw pa ((upd bi k b)) ((upd nu k (nI m))) ((tz_cpf (fun _ => 0) sh (120 * k) i)) ro ma ca) → (∀ q, (q < M ∨ M + 9 ≤ q) → fL q = f q) → (i ≤ 120) → (120 - i) < kk85 → tz_V p_ l e_ rm_M_sheet s_ m_ ar_ be_ me_ c_ Q_ A D 5 fL sz 0 0 85 [(0, .ref M), (1, .int (nI k)), (2, .int b), (3, .int (nI m)), (4, .int (nI i))] [] := by
                intro kk85
                induction kk85 with
                | zero => intro i fL hM1 hfr hi hm85; omega
                | succ kk85 ih85 =>
                  intro i fL hM1 hfr hi hm85
                  refine tz_iload C_ 4 rfl td_M_sheet_85 ?_
                  refine tz_bipush C_ (v := 120) (by decide) td_M_sheet_87 ?_
                  refine tz_icmp_ge C_ td_M_sheet_89 (fun h89 => ?_) (fun h89 => ?_)
                  · skip
                    replace h89 := (nI_leI (a := 120) (b := i) (by omega) (by omega)).mp h89
                    refine tz_aload_n C_ 0 rfl rfl td_M_sheet_111 ?_
                    refine tz_get C_ tci_M 5 (by decide) tw_758 hM1.1 rfl td_M_sheet_112 ?_
                    refine tz_iload_n C_ 1 rfl rfl td_M_sheet_115 ?_
                    refine tz_ialdN C_ hM1.2.2.2.2.1 (by omega) (by decide) td_M_sheet_116 ?_
                    rw [show ((upd nu k (nI m))) k = nI m from tz_updk]
                    refine tz_riret C_ hr_ hk_ hQ_ rfl td_M_sheet_117 ?_
                    have e9 : sp_sheet σ (nI k) b (nI m) = (nI m, tz_ss σ k (b, m, fun _ => 0)) := by simp only [sp_sheet, hpk4]; rw [if_pos hb9, if_neg (tz_le_nlt h37), if_pos h50]; rw [if_neg h73, if_neg h73, nI_clamp (by omega)]
                    rw [e9]
                    exact ⟨rfl, ⟨_, _, _, _, _, _, _, _, _, _, _, ⟨hM1.1, hM1.2.1, hM1.2.2.1, hM1.2.2.2.1, hM1.2.2.2.2.1, hM1.2.2.2.2.2.1, hM1.2.2.2.2.2.2.1, hM1.2.2.2.2.2.2.2.1, hM1.2.2.2.2.2.2.2.2⟩, hE, hH, (tz_enQ_set hQ (fun s h => (hW.2.2 s h).1) tz_updk (fun s h => tz_updo h) tz_updk (fun s h => tz_updo h) (fun q hq => tz_cpf_out (by omega)) (fun j hj => tz_cpf_in (show j < i from by have hj2 : j < m := hj; omega)))⟩, (fun q hh => by rw [hfr q (by omega)])⟩
                  · skip
                    replace h89 := mt (nI_leI (a := 120) (b := i) (by omega) (by omega)).mpr h89
                    refine tz_aload_n C_ 0 rfl rfl td_M_sheet_92 ?_
                    refine tz_get C_ tci_M 6 (by decide) tw_759 hM1.1 rfl td_M_sheet_93 ?_
                    refine tz_bipush C_ (v := 120) (by decide) td_M_sheet_96 ?_
                    refine tz_iload_n C_ 1 rfl rfl td_M_sheet_98 ?_
                    refine tz_imul C_ td_M_sheet_99 ?_
                    rw [show (120 * (nI k) : Int32) = nI (120 * k) from pk_mul (120) (k)]
                    refine tz_iload C_ 4 rfl td_M_sheet_100 ?_
                    refine tz_iadd C_ td_M_sheet_102 ?_
                    rw [show ((nI (120 * k)) + (nI i) : Int32) = nI (120 * k + i) from nI_add (120 * k) (i)]
                    refine tz_iconst C_ (v := 0) (by decide) td_M_sheet_103 ?_
                    refine tz_wiastN C_ hM1.2.2.2.2.2.1 (by omega) (by decide) (g' := upd ((tz_cpf (fun _ => 0) sh (120 * k) i)) ((120 * k + i)) 0) rfl td_M_sheet_104 (fun f83 hs83 hq83 => ?_)
                    refine tz_iinc C_ (k := 1) (v := nI (i + 1)) (lv' := [(0, .ref M), (1, .int (nI k)), (2, .int b), (3, .int (nI m)), (4, .int (nI (i + 1)))]) 4 rfl (nI_1 i) [1, 2, 3, 4, 0] (by decide) rfl td_M_sheet_105 ?_
                    refine tz_goto C_ td_M_sheet_108 ?_
                    have k84 : f83 M = some (tz_obj 11 [.ref (M + 1), .ref (M + 2), .int (nI σ.2.1), .int σ.2.2.2, .ref (M + 3), .ref (M + 4), .ref (M + 5), .int ms, .ref (M + 6), .int ns, .ref (M + 7), .ref (M + 8), .int tg]) := ((hq83 _ (by omega)).trans hM1.1)
                    have k85 : f83 (M + 1) = some (tz_ints cs 532 nw) := ((hq83 _ (by omega)).trans hM1.2.1)
                    have k86 : f83 (M + 2) = some (tz_ints cs 10640 pa) := ((hq83 _ (by omega)).trans hM1.2.2.1)
                    have k87 : f83 (M + 3) = some (tz_ints cs 4 ((upd bi k b))) := ((hq83 _ (by omega)).trans hM1.2.2.2.1)
                    have k88 : f83 (M + 4) = some (tz_ints cs 4 ((upd nu k (nI m)))) := ((hq83 _ (by omega)).trans hM1.2.2.2.2.1)
                    have k89 : f83 (M + 6) = some (tz_ints cs 120 ro) := ((hq83 _ (by omega)).trans hM1.2.2.2.2.2.2.1)
                    have k90 : f83 (M + 7) = some (tz_ints cs 120 ma) := ((hq83 _ (by omega)).trans hM1.2.2.2.2.2.2.2.1)
                    have k91 : f83 (M + 8) = some (tz_ints cs 120 ca) := ((hq83 _ (by omega)).trans hM1.2.2.2.2.2.2.2.2)
                    exact ih85 (i + 1) f83 (⟨k84, k85, k86, k87, k88, tz_cpr hs83 rfl, k89, k90, k91⟩) (fun q hh => by rw [hq83 q (by omega), hfr q (by omega)]) (by omega) (by omega)
              exact loop85 _ 0 f74 (⟨k75, k76, k77, k78, hs74, by rw [tz_cpf_0]; exact k79, k80, k81, k82⟩) (fun q hh => by rw [hq74 q (by omega), hq71 q (by omega)]) (Nat.zero_le _) (Nat.lt_succ_self _)
            · skip
              refine tz_iconst C_ (v := 0) (by decide) td_M_sheet_76 ?_
              refine tz_goto C_ td_M_sheet_77 ?_
              have k92 : f71 (M + 4) = some (tz_ints cs 4 nu) := ((hq71 _ (by omega)).trans hM.2.2.2.2.1)
              refine tz_wiastN C_ k92 (by omega) (by decide) (g' := upd nu k 0) rfl td_M_sheet_81 (fun f93 hs93 hq93 => ?_)
              refine tz_iconst C_ (v := 0) (by decide) td_M_sheet_82 ?_
              refine tz_istore C_ (lv' := [(0, .ref M), (1, .int (nI k)), (2, .int b), (3, .int (nI m)), (4, .int 0)]) [1, 2, 3, 4, 0] (by decide) rfl td_M_sheet_83 ?_
              have k94 : f93 M = some (tz_obj 11 [.ref (M + 1), .ref (M + 2), .int (nI σ.2.1), .int σ.2.2.2, .ref (M + 3), .ref (M + 4), .ref (M + 5), .int ms, .ref (M + 6), .int ns, .ref (M + 7), .ref (M + 8), .int tg]) := ((hq93 _ (by omega)).trans k72)
              have k95 : f93 (M + 1) = some (tz_ints cs 532 nw) := ((hq93 _ (by omega)).trans ((hq71 _ (by omega)).trans hM.2.1))
              have k96 : f93 (M + 2) = some (tz_ints cs 10640 pa) := ((hq93 _ (by omega)).trans ((hq71 _ (by omega)).trans hM.2.2.1))
              have k97 : f93 (M + 3) = some (tz_ints cs 4 (upd bi k b)) := ((hq93 _ (by omega)).trans hs71)
              have k98 : f93 (M + 5) = some (tz_ints cs 480 sh) := ((hq93 _ (by omega)).trans ((hq71 _ (by omega)).trans hM.2.2.2.2.2.1))
              have k99 : f93 (M + 6) = some (tz_ints cs 120 ro) := ((hq93 _ (by omega)).trans ((hq71 _ (by omega)).trans hM.2.2.2.2.2.2.1))
              have k100 : f93 (M + 7) = some (tz_ints cs 120 ma) := ((hq93 _ (by omega)).trans ((hq71 _ (by omega)).trans hM.2.2.2.2.2.2.2.1))
              have k101 : f93 (M + 8) = some (tz_ints cs 120 ca) := ((hq93 _ (by omega)).trans ((hq71 _ (by omega)).trans hM.2.2.2.2.2.2.2.2))
              have loop85 : ∀ (kk85 : Nat) (i : Nat) (fL : tz_PH), (tz_MB cs fL M σ.2.1 σ.2.2.2 ms ns tg nw pa ((upd bi k b)) ((upd nu k 0)) ((tz_cpf (fun _ => 0) sh (120 * k) i)) ro ma ca) → (∀ q, (q < M ∨ M + 9 ≤ q) → fL q = f q) → (i ≤ 120) → (120 - i) < kk85 → tz_V p_ l e_ rm_M_sheet s_ m_ ar_ be_ me_ c_ Q_ A D 5 fL sz 0 0 85 [(0, .ref M), (1, .int (nI k)), (2, .int b), (3, .int (nI m)), (4, .int (nI i))] [] := by
                intro kk85
                induction kk85 with
                | zero => intro i fL hM1 hfr hi hm85; omega
                | succ kk85 ih85 =>
                  intro i fL hM1 hfr hi hm85
                  refine tz_iload C_ 4 rfl td_M_sheet_85 ?_
                  refine tz_bipush C_ (v := 120) (by decide) td_M_sheet_87 ?_
                  refine tz_icmp_ge C_ td_M_sheet_89 (fun h89 => ?_) (fun h89 => ?_)
                  · skip
                    replace h89 := (nI_leI (a := 120) (b := i) (by omega) (by omega)).mp h89
                    refine tz_aload_n C_ 0 rfl rfl td_M_sheet_111 ?_
                    refine tz_get C_ tci_M 5 (by decide) tw_758 hM1.1 rfl td_M_sheet_112 ?_
                    refine tz_iload_n C_ 1 rfl rfl td_M_sheet_115 ?_
                    refine tz_ialdN C_ hM1.2.2.2.2.1 (by omega) (by decide) td_M_sheet_116 ?_
                    rw [show ((upd nu k 0)) k = 0 from tz_updk]
                    refine tz_riret C_ hr_ hk_ hQ_ rfl td_M_sheet_117 ?_
                    have e9 : sp_sheet σ (nI k) b (nI m) = (0, tz_ss σ k (b, 0, fun _ => 0)) := by simp only [sp_sheet, hpk4]; rw [if_pos hb9, if_neg (tz_le_nlt h37), if_pos h50]; rw [if_pos h73, if_pos h73]
                    rw [e9]
                    exact ⟨rfl, ⟨_, _, _, _, _, _, _, _, _, _, _, ⟨hM1.1, hM1.2.1, hM1.2.2.1, hM1.2.2.2.1, hM1.2.2.2.2.1, hM1.2.2.2.2.2.1, hM1.2.2.2.2.2.2.1, hM1.2.2.2.2.2.2.2.1, hM1.2.2.2.2.2.2.2.2⟩, hE, hH, (tz_enQ_set hQ (fun s h => (hW.2.2 s h).1) tz_updk (fun s h => tz_updo h) tz_updk (fun s h => tz_updo h) (fun q hq => tz_cpf_out (by omega)) (fun j hj => tz_cpf_in (show j < i from by have hj2 : j < 0 := hj; omega)))⟩, (fun q hh => by rw [hfr q (by omega)])⟩
                  · skip
                    replace h89 := mt (nI_leI (a := 120) (b := i) (by omega) (by omega)).mpr h89
                    refine tz_aload_n C_ 0 rfl rfl td_M_sheet_92 ?_
                    refine tz_get C_ tci_M 6 (by decide) tw_759 hM1.1 rfl td_M_sheet_93 ?_
                    refine tz_bipush C_ (v := 120) (by decide) td_M_sheet_96 ?_
                    refine tz_iload_n C_ 1 rfl rfl td_M_sheet_98 ?_
                    refine tz_imul C_ td_M_sheet_99 ?_
                    rw [show (120 * (nI k) : Int32) = nI (120 * k) from pk_mul (120) (k)]
                    refine tz_iload C_ 4 rfl td_M_sheet_100 ?_
                    refine tz_iadd C_ td_M_sheet_102 ?_
                    rw [show ((nI (120 * k)) + (nI i) : Int32) = nI (120 * k + i) from nI_add (120 * k) (i)]
                    refine tz_iconst C_ (v := 0) (by decide) td_M_sheet_103 ?_
                    refine tz_wiastN C_ hM1.2.2.2.2.2.1 (by omega) (by decide) (g' := upd ((tz_cpf (fun _ => 0) sh (120 * k) i)) ((120 * k + i)) 0) rfl td_M_sheet_104 (fun f102 hs102 hq102 => ?_)
                    refine tz_iinc C_ (k := 1) (v := nI (i + 1)) (lv' := [(0, .ref M), (1, .int (nI k)), (2, .int b), (3, .int (nI m)), (4, .int (nI (i + 1)))]) 4 rfl (nI_1 i) [1, 2, 3, 4, 0] (by decide) rfl td_M_sheet_105 ?_
                    refine tz_goto C_ td_M_sheet_108 ?_
                    have k103 : f102 M = some (tz_obj 11 [.ref (M + 1), .ref (M + 2), .int (nI σ.2.1), .int σ.2.2.2, .ref (M + 3), .ref (M + 4), .ref (M + 5), .int ms, .ref (M + 6), .int ns, .ref (M + 7), .ref (M + 8), .int tg]) := ((hq102 _ (by omega)).trans hM1.1)
                    have k104 : f102 (M + 1) = some (tz_ints cs 532 nw) := ((hq102 _ (by omega)).trans hM1.2.1)
                    have k105 : f102 (M + 2) = some (tz_ints cs 10640 pa) := ((hq102 _ (by omega)).trans hM1.2.2.1)
                    have k106 : f102 (M + 3) = some (tz_ints cs 4 ((upd bi k b))) := ((hq102 _ (by omega)).trans hM1.2.2.2.1)
                    have k107 : f102 (M + 4) = some (tz_ints cs 4 ((upd nu k 0))) := ((hq102 _ (by omega)).trans hM1.2.2.2.2.1)
                    have k108 : f102 (M + 6) = some (tz_ints cs 120 ro) := ((hq102 _ (by omega)).trans hM1.2.2.2.2.2.2.1)
                    have k109 : f102 (M + 7) = some (tz_ints cs 120 ma) := ((hq102 _ (by omega)).trans hM1.2.2.2.2.2.2.2.1)
                    have k110 : f102 (M + 8) = some (tz_ints cs 120 ca) := ((hq102 _ (by omega)).trans hM1.2.2.2.2.2.2.2.2)
                    exact ih85 (i + 1) f102 (⟨k103, k104, k105, k106, k107, tz_cpr hs102 rfl, k108, k109, k110⟩) (fun q hh => by rw [hq102 q (by omega), hfr q (by omega)]) (by omega) (by omega)
              exact loop85 _ 0 f93 (⟨k94, k95, k96, k97, hs93, by rw [tz_cpf_0]; exact k98, k99, k100, k101⟩) (fun q hh => by rw [hq93 q (by omega), hq71 q (by omega)]) (Nat.zero_le _) (Nat.lt_succ_self _)
          · skip
            refine tz_aload_n C_ 0 rfl rfl td_M_sheet_53 ?_
            refine tz_ldc C_ tw_812 td_M_sheet_54 ?_
            refine tz_cV C_ tmi_M_finding tw_800 tw_14 tw_798 hM.1 rfl (As := [.int (-100001)]) (by exact (ct_M_finding (v := -100001) hM.1)) rfl (rest := []) rfl (by decide) (Nat.le_of_ble_eq_true rfl) td_M_sheet_56 (st1 := [.int (-100001)]) rfl (fun f111 hF111 => ?_)
            obtain ⟨hs112, hq112⟩ := hF111
            refine tz_riret C_ hr_ hk_ hQ_ rfl td_M_sheet_59 ?_
            have k113 : f111 (M + 1) = some (tz_ints cs 532 nw) := ((hq112 _ (by omega)).trans hM.2.1)
            have k114 : f111 (M + 2) = some (tz_ints cs 10640 pa) := ((hq112 _ (by omega)).trans hM.2.2.1)
            have k115 : f111 (M + 3) = some (tz_ints cs 4 bi) := ((hq112 _ (by omega)).trans hM.2.2.2.1)
            have k116 : f111 (M + 4) = some (tz_ints cs 4 nu) := ((hq112 _ (by omega)).trans hM.2.2.2.2.1)
            have k117 : f111 (M + 5) = some (tz_ints cs 480 sh) := ((hq112 _ (by omega)).trans hM.2.2.2.2.2.1)
            have k118 : f111 (M + 6) = some (tz_ints cs 120 ro) := ((hq112 _ (by omega)).trans hM.2.2.2.2.2.2.1)
            have k119 : f111 (M + 7) = some (tz_ints cs 120 ma) := ((hq112 _ (by omega)).trans hM.2.2.2.2.2.2.2.1)
            have k120 : f111 (M + 8) = some (tz_ints cs 120 ca) := ((hq112 _ (by omega)).trans hM.2.2.2.2.2.2.2.2)
            have e9 : sp_sheet σ (nI k) b n = (-100001, tz_fnd σ) := by 
              have hb9 : b = 0 ∨ b = 8 ∨ b = 16 ∨ b = 32 := by grind
              simp only [sp_sheet, hpk4]; rw [if_pos hb9, if_neg (tz_le_nlt h37), if_neg h50, tz_an_f (by decide)]
            rw [e9]
            exact ⟨rfl, ⟨_, _, _, _, _, _, _, _, _, _, _, ⟨hs112, k113, k114, k115, k116, k117, k118, k119, k120⟩, hE, hH, hQ⟩, (fun q hh => by rw [hq112 q (by omega)])⟩
        · skip
          refine tz_aload_n C_ 0 rfl rfl td_M_sheet_40 ?_
          refine tz_ldc C_ tw_878 td_M_sheet_41 ?_
          refine tz_cV C_ tmi_M_finding tw_800 tw_14 tw_798 hM.1 rfl (As := [.int (-100003)]) (by exact (ct_M_finding (v := -100003) hM.1)) rfl (rest := []) rfl (by decide) (Nat.le_of_ble_eq_true rfl) td_M_sheet_43 (st1 := [.int (-100003)]) rfl (fun f121 hF121 => ?_)
          obtain ⟨hs122, hq122⟩ := hF121
          refine tz_riret C_ hr_ hk_ hQ_ rfl td_M_sheet_46 ?_
          have k123 : f121 (M + 1) = some (tz_ints cs 532 nw) := ((hq122 _ (by omega)).trans hM.2.1)
          have k124 : f121 (M + 2) = some (tz_ints cs 10640 pa) := ((hq122 _ (by omega)).trans hM.2.2.1)
          have k125 : f121 (M + 3) = some (tz_ints cs 4 bi) := ((hq122 _ (by omega)).trans hM.2.2.2.1)
          have k126 : f121 (M + 4) = some (tz_ints cs 4 nu) := ((hq122 _ (by omega)).trans hM.2.2.2.2.1)
          have k127 : f121 (M + 5) = some (tz_ints cs 480 sh) := ((hq122 _ (by omega)).trans hM.2.2.2.2.2.1)
          have k128 : f121 (M + 6) = some (tz_ints cs 120 ro) := ((hq122 _ (by omega)).trans hM.2.2.2.2.2.2.1)
          have k129 : f121 (M + 7) = some (tz_ints cs 120 ma) := ((hq122 _ (by omega)).trans hM.2.2.2.2.2.2.2.1)
          have k130 : f121 (M + 8) = some (tz_ints cs 120 ca) := ((hq122 _ (by omega)).trans hM.2.2.2.2.2.2.2.2)
          have e9 : sp_sheet σ (nI k) b n = (-100003, tz_fnd σ) := by 
            have hb9 : b = 0 ∨ b = 8 ∨ b = 16 ∨ b = 32 := by grind
            simp only [sp_sheet, hpk4]; rw [if_pos hb9, if_pos (Int32.not_le.mp h37), tz_an_f (by decide)]
          rw [e9]
          exact ⟨rfl, ⟨_, _, _, _, _, _, _, _, _, _, _, ⟨hs122, k123, k124, k125, k126, k127, k128, k129, k130⟩, hE, hH, hQ⟩, (fun q hh => by rw [hq122 q (by omega)])⟩
      · skip
        refine tz_iload_n C_ 2 rfl rfl td_M_sheet_17 ?_
        refine tz_bipush C_ (v := 16) (by decide) td_M_sheet_18 ?_
        refine tz_icmp_eq C_ td_M_sheet_20 (fun h20 => ?_) (fun h20 => ?_)
        · skip
          refine tz_iload_n C_ 3 rfl rfl td_M_sheet_36 ?_
          refine tz_if_ge C_ td_M_sheet_37 (fun h37 => ?_) (fun h37 => ?_)
          · skip
            refine tz_iload_n C_ 3 rfl rfl td_M_sheet_47 ?_
            refine tz_bipush C_ (v := 120) (by decide) td_M_sheet_48 ?_
            refine tz_icmp_le C_ td_M_sheet_50 (fun h50 => ?_) (fun h50 => ?_)
            · skip
              have hb9 : b = 0 ∨ b = 8 ∨ b = 16 ∨ b = 32 := by grind
              obtain ⟨m, hm, em⟩ := tz_toN (tz_le_nlt h37) (show n ≤ nI 120 from h50) (by decide)
              subst em
              refine tz_aload_n C_ 0 rfl rfl td_M_sheet_60 ?_
              refine tz_get C_ tci_M 4 (by decide) tw_757 hM.1 rfl td_M_sheet_61 ?_
              refine tz_iload_n C_ 1 rfl rfl td_M_sheet_64 ?_
              refine tz_iload_n C_ 2 rfl rfl td_M_sheet_65 ?_
              refine tz_wiastN C_ hM.2.2.2.1 (by omega) (by decide) (g' := upd bi k b) rfl td_M_sheet_66 (fun f131 hs131 hq131 => ?_)
              refine tz_aload_n C_ 0 rfl rfl td_M_sheet_67 ?_
              have k132 : f131 M = some (tz_obj 11 [.ref (M + 1), .ref (M + 2), .int (nI σ.2.1), .int σ.2.2.2, .ref (M + 3), .ref (M + 4), .ref (M + 5), .int ms, .ref (M + 6), .int ns, .ref (M + 7), .ref (M + 8), .int tg]) := ((hq131 _ (by omega)).trans hM.1)
              refine tz_get C_ tci_M 5 (by decide) tw_758 k132 rfl td_M_sheet_68 ?_
              refine tz_iload_n C_ 1 rfl rfl td_M_sheet_71 ?_
              refine tz_iload_n C_ 2 rfl rfl td_M_sheet_72 ?_
              refine tz_if_ne C_ td_M_sheet_73 (fun h73 => ?_) (fun h73 => ?_)
              · skip
                refine tz_iload_n C_ 3 rfl rfl td_M_sheet_80 ?_
                have k133 : f131 (M + 4) = some (tz_ints cs 4 nu) := ((hq131 _ (by omega)).trans hM.2.2.2.2.1)
                refine tz_wiastN C_ k133 (by omega) (by decide) (g' := upd nu k (nI m)) rfl td_M_sheet_81 (fun f134 hs134 hq134 => ?_)
                refine tz_iconst C_ (v := 0) (by decide) td_M_sheet_82 ?_
                refine tz_istore C_ (lv' := [(0, .ref M), (1, .int (nI k)), (2, .int b), (3, .int (nI m)), (4, .int 0)]) [1, 2, 3, 4, 0] (by decide) rfl td_M_sheet_83 ?_
                have k135 : f134 M = some (tz_obj 11 [.ref (M + 1), .ref (M + 2), .int (nI σ.2.1), .int σ.2.2.2, .ref (M + 3), .ref (M + 4), .ref (M + 5), .int ms, .ref (M + 6), .int ns, .ref (M + 7), .ref (M + 8), .int tg]) := ((hq134 _ (by omega)).trans k132)
                have k136 : f134 (M + 1) = some (tz_ints cs 532 nw) := ((hq134 _ (by omega)).trans ((hq131 _ (by omega)).trans hM.2.1))
                have k137 : f134 (M + 2) = some (tz_ints cs 10640 pa) := ((hq134 _ (by omega)).trans ((hq131 _ (by omega)).trans hM.2.2.1))
                have k138 : f134 (M + 3) = some (tz_ints cs 4 (upd bi k b)) := ((hq134 _ (by omega)).trans hs131)
                have k139 : f134 (M + 5) = some (tz_ints cs 480 sh) := ((hq134 _ (by omega)).trans ((hq131 _ (by omega)).trans hM.2.2.2.2.2.1))
                have k140 : f134 (M + 6) = some (tz_ints cs 120 ro) := ((hq134 _ (by omega)).trans ((hq131 _ (by omega)).trans hM.2.2.2.2.2.2.1))
                have k141 : f134 (M + 7) = some (tz_ints cs 120 ma) := ((hq134 _ (by omega)).trans ((hq131 _ (by omega)).trans hM.2.2.2.2.2.2.2.1))
                have k142 : f134 (M + 8) = some (tz_ints cs 120 ca) := ((hq134 _ (by omega)).trans ((hq131 _ (by omega)).trans hM.2.2.2.2.2.2.2.2))
                have loop85 : ∀ (kk85 : Nat) (i : Nat) (fL : tz_PH), (tz_MB cs fL M σ.2.1 σ.2.2.2 ms ns tg nw pa ((upd bi k b)) ((upd nu k (nI m))) ((tz_cpf (fun _ => 0) sh (120 * k) i)) ro ma ca) → (∀ q, (q < M ∨ M + 9 ≤ q) → fL q = f q) → (i ≤ 120) → (120 - i) < kk85 → tz_V p_ l e_ rm_M_sheet s_ m_ ar_ be_ me_ c_ Q_ A D 5 fL sz 0 0 85 [(0, .ref M), (1, .int (nI k)), (2, .int b), (3, .int (nI m)), (4, .int (nI i))] [] := by
                  intro kk85
                  induction kk85 with
                  | zero => intro i fL hM1 hfr hi hm85; omega
                  | succ kk85 ih85 =>
                    intro i fL hM1 hfr hi hm85
                    refine tz_iload C_ 4 rfl td_M_sheet_85 ?_
                    refine tz_bipush C_ (v := 120) (by decide) td_M_sheet_87 ?_
                    refine tz_icmp_ge C_ td_M_sheet_89 (fun h89 => ?_) (fun h89 => ?_)
                    · skip
                      replace h89 := (nI_leI (a := 120) (b := i) (by omega) (by omega)).mp h89
                      refine tz_aload_n C_ 0 rfl rfl td_M_sheet_111 ?_
                      refine tz_get C_ tci_M 5 (by decide) tw_758 hM1.1 rfl td_M_sheet_112 ?_
                      refine tz_iload_n C_ 1 rfl rfl td_M_sheet_115 ?_
                      refine tz_ialdN C_ hM1.2.2.2.2.1 (by omega) (by decide) td_M_sheet_116 ?_
                      rw [show ((upd nu k (nI m))) k = nI m from tz_updk]
                      refine tz_riret C_ hr_ hk_ hQ_ rfl td_M_sheet_117 ?_
                      have e9 : sp_sheet σ (nI k) b (nI m) = (nI m, tz_ss σ k (b, m, fun _ => 0)) := by simp only [sp_sheet, hpk4]; rw [if_pos hb9, if_neg (tz_le_nlt h37), if_pos h50]; rw [if_neg h73, if_neg h73, nI_clamp (by omega)]
                      rw [e9]
                      exact ⟨rfl, ⟨_, _, _, _, _, _, _, _, _, _, _, ⟨hM1.1, hM1.2.1, hM1.2.2.1, hM1.2.2.2.1, hM1.2.2.2.2.1, hM1.2.2.2.2.2.1, hM1.2.2.2.2.2.2.1, hM1.2.2.2.2.2.2.2.1, hM1.2.2.2.2.2.2.2.2⟩, hE, hH, (tz_enQ_set hQ (fun s h => (hW.2.2 s h).1) tz_updk (fun s h => tz_updo h) tz_updk (fun s h => tz_updo h) (fun q hq => tz_cpf_out (by omega)) (fun j hj => tz_cpf_in (show j < i from by have hj2 : j < m := hj; omega)))⟩, (fun q hh => by rw [hfr q (by omega)])⟩
                    · skip
                      replace h89 := mt (nI_leI (a := 120) (b := i) (by omega) (by omega)).mpr h89
                      refine tz_aload_n C_ 0 rfl rfl td_M_sheet_92 ?_
                      refine tz_get C_ tci_M 6 (by decide) tw_759 hM1.1 rfl td_M_sheet_93 ?_
                      refine tz_bipush C_ (v := 120) (by decide) td_M_sheet_96 ?_
                      refine tz_iload_n C_ 1 rfl rfl td_M_sheet_98 ?_
                      refine tz_imul C_ td_M_sheet_99 ?_
                      rw [show (120 * (nI k) : Int32) = nI (120 * k) from pk_mul (120) (k)]
                      refine tz_iload C_ 4 rfl td_M_sheet_100 ?_
                      refine tz_iadd C_ td_M_sheet_102 ?_
                      rw [show ((nI (120 * k)) + (nI i) : Int32) = nI (120 * k + i) from nI_add (120 * k) (i)]
                      refine tz_iconst C_ (v := 0) (by decide) td_M_sheet_103 ?_
                      refine tz_wiastN C_ hM1.2.2.2.2.2.1 (by omega) (by decide) (g' := upd ((tz_cpf (fun _ => 0) sh (120 * k) i)) ((120 * k + i)) 0) rfl td_M_sheet_104 (fun f143 hs143 hq143 => ?_)
                      refine tz_iinc C_ (k := 1) (v := nI (i + 1)) (lv' := [(0, .ref M), (1, .int (nI k)), (2, .int b), (3, .int (nI m)), (4, .int (nI (i + 1)))]) 4 rfl (nI_1 i) [1, 2, 3, 4, 0] (by decide) rfl td_M_sheet_105 ?_
                      refine tz_goto C_ td_M_sheet_108 ?_
                      have k144 : f143 M = some (tz_obj 11 [.ref (M + 1), .ref (M + 2), .int (nI σ.2.1), .int σ.2.2.2, .ref (M + 3), .ref (M + 4), .ref (M + 5), .int ms, .ref (M + 6), .int ns, .ref (M + 7), .ref (M + 8), .int tg]) := ((hq143 _ (by omega)).trans hM1.1)
                      have k145 : f143 (M + 1) = some (tz_ints cs 532 nw) := ((hq143 _ (by omega)).trans hM1.2.1)
                      have k146 : f143 (M + 2) = some (tz_ints cs 10640 pa) := ((hq143 _ (by omega)).trans hM1.2.2.1)
                      have k147 : f143 (M + 3) = some (tz_ints cs 4 ((upd bi k b))) := ((hq143 _ (by omega)).trans hM1.2.2.2.1)
                      have k148 : f143 (M + 4) = some (tz_ints cs 4 ((upd nu k (nI m)))) := ((hq143 _ (by omega)).trans hM1.2.2.2.2.1)
                      have k149 : f143 (M + 6) = some (tz_ints cs 120 ro) := ((hq143 _ (by omega)).trans hM1.2.2.2.2.2.2.1)
                      have k150 : f143 (M + 7) = some (tz_ints cs 120 ma) := ((hq143 _ (by omega)).trans hM1.2.2.2.2.2.2.2.1)
                      have k151 : f143 (M + 8) = some (tz_ints cs 120 ca) := ((hq143 _ (by omega)).trans hM1.2.2.2.2.2.2.2.2)
                      exact ih85 (i + 1) f143 (⟨k144, k145, k146, k147, k148, tz_cpr hs143 rfl, k149, k150, k151⟩) (fun q hh => by rw [hq143 q (by omega), hfr q (by omega)]) (by omega) (by omega)
                exact loop85 _ 0 f134 (⟨k135, k136, k137, k138, hs134, by rw [tz_cpf_0]; exact k139, k140, k141, k142⟩) (fun q hh => by rw [hq134 q (by omega), hq131 q (by omega)]) (Nat.zero_le _) (Nat.lt_succ_self _)
              · skip
                refine tz_iconst C_ (v := 0) (by decide) td_M_sheet_76 ?_
                refine tz_goto C_ td_M_sheet_77 ?_
                have k152 : f131 (M + 4) = some (tz_ints cs 4 nu) := ((hq131 _ (by omega)).trans hM.2.2.2.2.1)
                refine tz_wiastN C_ k152 (by omega) (by decide) (g' := upd nu k 0) rfl td_M_sheet_81 (fun f153 hs153 hq153 => ?_)
                refine tz_iconst C_ (v := 0) (by decide) td_M_sheet_82 ?_
                refine tz_istore C_ (lv' := [(0, .ref M), (1, .int (nI k)), (2, .int b), (3, .int (nI m)), (4, .int 0)]) [1, 2, 3, 4, 0] (by decide) rfl td_M_sheet_83 ?_
                have k154 : f153 M = some (tz_obj 11 [.ref (M + 1), .ref (M + 2), .int (nI σ.2.1), .int σ.2.2.2, .ref (M + 3), .ref (M + 4), .ref (M + 5), .int ms, .ref (M + 6), .int ns, .ref (M + 7), .ref (M + 8), .int tg]) := ((hq153 _ (by omega)).trans k132)
                have k155 : f153 (M + 1) = some (tz_ints cs 532 nw) := ((hq153 _ (by omega)).trans ((hq131 _ (by omega)).trans hM.2.1))
                have k156 : f153 (M + 2) = some (tz_ints cs 10640 pa) := ((hq153 _ (by omega)).trans ((hq131 _ (by omega)).trans hM.2.2.1))
                have k157 : f153 (M + 3) = some (tz_ints cs 4 (upd bi k b)) := ((hq153 _ (by omega)).trans hs131)
                have k158 : f153 (M + 5) = some (tz_ints cs 480 sh) := ((hq153 _ (by omega)).trans ((hq131 _ (by omega)).trans hM.2.2.2.2.2.1))
                have k159 : f153 (M + 6) = some (tz_ints cs 120 ro) := ((hq153 _ (by omega)).trans ((hq131 _ (by omega)).trans hM.2.2.2.2.2.2.1))
                have k160 : f153 (M + 7) = some (tz_ints cs 120 ma) := ((hq153 _ (by omega)).trans ((hq131 _ (by omega)).trans hM.2.2.2.2.2.2.2.1))
                have k161 : f153 (M + 8) = some (tz_ints cs 120 ca) := ((hq153 _ (by omega)).trans ((hq131 _ (by omega)).trans hM.2.2.2.2.2.2.2.2))
                have loop85 : ∀ (kk85 : Nat) (i : Nat) (fL : tz_PH), (tz_MB cs fL M σ.2.1 σ.2.2.2 ms ns tg nw pa ((upd bi k b)) ((upd nu k 0)) ((tz_cpf (fun _ => 0) sh (120 * k) i)) ro ma ca) → (∀ q, (q < M ∨ M + 9 ≤ q) → fL q = f q) → (i ≤ 120) → (120 - i) < kk85 → tz_V p_ l e_ rm_M_sheet s_ m_ ar_ be_ me_ c_ Q_ A D 5 fL sz 0 0 85 [(0, .ref M), (1, .int (nI k)), (2, .int b), (3, .int (nI m)), (4, .int (nI i))] [] := by
                  intro kk85
                  induction kk85 with
                  | zero => intro i fL hM1 hfr hi hm85; omega
                  | succ kk85 ih85 =>
                    intro i fL hM1 hfr hi hm85
                    refine tz_iload C_ 4 rfl td_M_sheet_85 ?_
                    refine tz_bipush C_ (v := 120) (by decide) td_M_sheet_87 ?_
                    refine tz_icmp_ge C_ td_M_sheet_89 (fun h89 => ?_) (fun h89 => ?_)
                    · skip
                      replace h89 := (nI_leI (a := 120) (b := i) (by omega) (by omega)).mp h89
                      refine tz_aload_n C_ 0 rfl rfl td_M_sheet_111 ?_
                      refine tz_get C_ tci_M 5 (by decide) tw_758 hM1.1 rfl td_M_sheet_112 ?_
                      refine tz_iload_n C_ 1 rfl rfl td_M_sheet_115 ?_
                      refine tz_ialdN C_ hM1.2.2.2.2.1 (by omega) (by decide) td_M_sheet_116 ?_
                      rw [show ((upd nu k 0)) k = 0 from tz_updk]
                      refine tz_riret C_ hr_ hk_ hQ_ rfl td_M_sheet_117 ?_
                      have e9 : sp_sheet σ (nI k) b (nI m) = (0, tz_ss σ k (b, 0, fun _ => 0)) := by simp only [sp_sheet, hpk4]; rw [if_pos hb9, if_neg (tz_le_nlt h37), if_pos h50]; rw [if_pos h73, if_pos h73]
                      rw [e9]
                      exact ⟨rfl, ⟨_, _, _, _, _, _, _, _, _, _, _, ⟨hM1.1, hM1.2.1, hM1.2.2.1, hM1.2.2.2.1, hM1.2.2.2.2.1, hM1.2.2.2.2.2.1, hM1.2.2.2.2.2.2.1, hM1.2.2.2.2.2.2.2.1, hM1.2.2.2.2.2.2.2.2⟩, hE, hH, (tz_enQ_set hQ (fun s h => (hW.2.2 s h).1) tz_updk (fun s h => tz_updo h) tz_updk (fun s h => tz_updo h) (fun q hq => tz_cpf_out (by omega)) (fun j hj => tz_cpf_in (show j < i from by have hj2 : j < 0 := hj; omega)))⟩, (fun q hh => by rw [hfr q (by omega)])⟩
                    · skip
                      replace h89 := mt (nI_leI (a := 120) (b := i) (by omega) (by omega)).mpr h89
                      refine tz_aload_n C_ 0 rfl rfl td_M_sheet_92 ?_
                      refine tz_get C_ tci_M 6 (by decide) tw_759 hM1.1 rfl td_M_sheet_93 ?_
                      refine tz_bipush C_ (v := 120) (by decide) td_M_sheet_96 ?_
                      refine tz_iload_n C_ 1 rfl rfl td_M_sheet_98 ?_
                      refine tz_imul C_ td_M_sheet_99 ?_
                      rw [show (120 * (nI k) : Int32) = nI (120 * k) from pk_mul (120) (k)]
                      refine tz_iload C_ 4 rfl td_M_sheet_100 ?_
                      refine tz_iadd C_ td_M_sheet_102 ?_
                      rw [show ((nI (120 * k)) + (nI i) : Int32) = nI (120 * k + i) from nI_add (120 * k) (i)]
                      refine tz_iconst C_ (v := 0) (by decide) td_M_sheet_103 ?_
                      refine tz_wiastN C_ hM1.2.2.2.2.2.1 (by omega) (by decide) (g' := upd ((tz_cpf (fun _ => 0) sh (120 * k) i)) ((120 * k + i)) 0) rfl td_M_sheet_104 (fun f162 hs162 hq162 => ?_)
                      refine tz_iinc C_ (k := 1) (v := nI (i + 1)) (lv' := [(0, .ref M), (1, .int (nI k)), (2, .int b), (3, .int (nI m)), (4, .int (nI (i + 1)))]) 4 rfl (nI_1 i) [1, 2, 3, 4, 0] (by decide) rfl td_M_sheet_105 ?_
                      refine tz_goto C_ td_M_sheet_108 ?_
                      have k163 : f162 M = some (tz_obj 11 [.ref (M + 1), .ref (M + 2), .int (nI σ.2.1), .int σ.2.2.2, .ref (M + 3), .ref (M + 4), .ref (M + 5), .int ms, .ref (M + 6), .int ns, .ref (M + 7), .ref (M + 8), .int tg]) := ((hq162 _ (by omega)).trans hM1.1)
                      have k164 : f162 (M + 1) = some (tz_ints cs 532 nw) := ((hq162 _ (by omega)).trans hM1.2.1)
                      have k165 : f162 (M + 2) = some (tz_ints cs 10640 pa) := ((hq162 _ (by omega)).trans hM1.2.2.1)
                      have k166 : f162 (M + 3) = some (tz_ints cs 4 ((upd bi k b))) := ((hq162 _ (by omega)).trans hM1.2.2.2.1)
                      have k167 : f162 (M + 4) = some (tz_ints cs 4 ((upd nu k 0))) := ((hq162 _ (by omega)).trans hM1.2.2.2.2.1)
                      have k168 : f162 (M + 6) = some (tz_ints cs 120 ro) := ((hq162 _ (by omega)).trans hM1.2.2.2.2.2.2.1)
                      have k169 : f162 (M + 7) = some (tz_ints cs 120 ma) := ((hq162 _ (by omega)).trans hM1.2.2.2.2.2.2.2.1)
                      have k170 : f162 (M + 8) = some (tz_ints cs 120 ca) := ((hq162 _ (by omega)).trans hM1.2.2.2.2.2.2.2.2)
                      exact ih85 (i + 1) f162 (⟨k163, k164, k165, k166, k167, tz_cpr hs162 rfl, k168, k169, k170⟩) (fun q hh => by rw [hq162 q (by omega), hfr q (by omega)]) (by omega) (by omega)
                exact loop85 _ 0 f153 (⟨k154, k155, k156, k157, hs153, by rw [tz_cpf_0]; exact k158, k159, k160, k161⟩) (fun q hh => by rw [hq153 q (by omega), hq131 q (by omega)]) (Nat.zero_le _) (Nat.lt_succ_self _)
            · skip
              refine tz_aload_n C_ 0 rfl rfl td_M_sheet_53 ?_
              refine tz_ldc C_ tw_812 td_M_sheet_54 ?_
              refine tz_cV C_ tmi_M_finding tw_800 tw_14 tw_798 hM.1 rfl (As := [.int (-100001)]) (by exact (ct_M_finding (v := -100001) hM.1)) rfl (rest := []) rfl (by decide) (Nat.le_of_ble_eq_true rfl) td_M_sheet_56 (st1 := [.int (-100001)]) rfl (fun f171 hF171 => ?_)
              obtain ⟨hs172, hq172⟩ := hF171
              refine tz_riret C_ hr_ hk_ hQ_ rfl td_M_sheet_59 ?_
              have k173 : f171 (M + 1) = some (tz_ints cs 532 nw) := ((hq172 _ (by omega)).trans hM.2.1)
              have k174 : f171 (M + 2) = some (tz_ints cs 10640 pa) := ((hq172 _ (by omega)).trans hM.2.2.1)
              have k175 : f171 (M + 3) = some (tz_ints cs 4 bi) := ((hq172 _ (by omega)).trans hM.2.2.2.1)
              have k176 : f171 (M + 4) = some (tz_ints cs 4 nu) := ((hq172 _ (by omega)).trans hM.2.2.2.2.1)
              have k177 : f171 (M + 5) = some (tz_ints cs 480 sh) := ((hq172 _ (by omega)).trans hM.2.2.2.2.2.1)
              have k178 : f171 (M + 6) = some (tz_ints cs 120 ro) := ((hq172 _ (by omega)).trans hM.2.2.2.2.2.2.1)
              have k179 : f171 (M + 7) = some (tz_ints cs 120 ma) := ((hq172 _ (by omega)).trans hM.2.2.2.2.2.2.2.1)
              have k180 : f171 (M + 8) = some (tz_ints cs 120 ca) := ((hq172 _ (by omega)).trans hM.2.2.2.2.2.2.2.2)
              have e9 : sp_sheet σ (nI k) b n = (-100001, tz_fnd σ) := by 
                have hb9 : b = 0 ∨ b = 8 ∨ b = 16 ∨ b = 32 := by grind
                simp only [sp_sheet, hpk4]; rw [if_pos hb9, if_neg (tz_le_nlt h37), if_neg h50, tz_an_f (by decide)]
              rw [e9]
              exact ⟨rfl, ⟨_, _, _, _, _, _, _, _, _, _, _, ⟨hs172, k173, k174, k175, k176, k177, k178, k179, k180⟩, hE, hH, hQ⟩, (fun q hh => by rw [hq172 q (by omega)])⟩
          · skip
            refine tz_aload_n C_ 0 rfl rfl td_M_sheet_40 ?_
            refine tz_ldc C_ tw_878 td_M_sheet_41 ?_
            refine tz_cV C_ tmi_M_finding tw_800 tw_14 tw_798 hM.1 rfl (As := [.int (-100003)]) (by exact (ct_M_finding (v := -100003) hM.1)) rfl (rest := []) rfl (by decide) (Nat.le_of_ble_eq_true rfl) td_M_sheet_43 (st1 := [.int (-100003)]) rfl (fun f181 hF181 => ?_)
            obtain ⟨hs182, hq182⟩ := hF181
            refine tz_riret C_ hr_ hk_ hQ_ rfl td_M_sheet_46 ?_
            have k183 : f181 (M + 1) = some (tz_ints cs 532 nw) := ((hq182 _ (by omega)).trans hM.2.1)
            have k184 : f181 (M + 2) = some (tz_ints cs 10640 pa) := ((hq182 _ (by omega)).trans hM.2.2.1)
            have k185 : f181 (M + 3) = some (tz_ints cs 4 bi) := ((hq182 _ (by omega)).trans hM.2.2.2.1)
            have k186 : f181 (M + 4) = some (tz_ints cs 4 nu) := ((hq182 _ (by omega)).trans hM.2.2.2.2.1)
            have k187 : f181 (M + 5) = some (tz_ints cs 480 sh) := ((hq182 _ (by omega)).trans hM.2.2.2.2.2.1)
            have k188 : f181 (M + 6) = some (tz_ints cs 120 ro) := ((hq182 _ (by omega)).trans hM.2.2.2.2.2.2.1)
            have k189 : f181 (M + 7) = some (tz_ints cs 120 ma) := ((hq182 _ (by omega)).trans hM.2.2.2.2.2.2.2.1)
            have k190 : f181 (M + 8) = some (tz_ints cs 120 ca) := ((hq182 _ (by omega)).trans hM.2.2.2.2.2.2.2.2)
            have e9 : sp_sheet σ (nI k) b n = (-100003, tz_fnd σ) := by 
              have hb9 : b = 0 ∨ b = 8 ∨ b = 16 ∨ b = 32 := by grind
              simp only [sp_sheet, hpk4]; rw [if_pos hb9, if_pos (Int32.not_le.mp h37), tz_an_f (by decide)]
            rw [e9]
            exact ⟨rfl, ⟨_, _, _, _, _, _, _, _, _, _, _, ⟨hs182, k183, k184, k185, k186, k187, k188, k189, k190⟩, hE, hH, hQ⟩, (fun q hh => by rw [hq182 q (by omega)])⟩
        · skip
          refine tz_iload_n C_ 2 rfl rfl td_M_sheet_23 ?_
          refine tz_bipush C_ (v := 32) (by decide) td_M_sheet_24 ?_
          refine tz_icmp_eq C_ td_M_sheet_26 (fun h26 => ?_) (fun h26 => ?_)
          · skip
            refine tz_iload_n C_ 3 rfl rfl td_M_sheet_36 ?_
            refine tz_if_ge C_ td_M_sheet_37 (fun h37 => ?_) (fun h37 => ?_)
            · skip
              refine tz_iload_n C_ 3 rfl rfl td_M_sheet_47 ?_
              refine tz_bipush C_ (v := 120) (by decide) td_M_sheet_48 ?_
              refine tz_icmp_le C_ td_M_sheet_50 (fun h50 => ?_) (fun h50 => ?_)
              · skip
                have hb9 : b = 0 ∨ b = 8 ∨ b = 16 ∨ b = 32 := by grind
                obtain ⟨m, hm, em⟩ := tz_toN (tz_le_nlt h37) (show n ≤ nI 120 from h50) (by decide)
                subst em
                refine tz_aload_n C_ 0 rfl rfl td_M_sheet_60 ?_
                refine tz_get C_ tci_M 4 (by decide) tw_757 hM.1 rfl td_M_sheet_61 ?_
                refine tz_iload_n C_ 1 rfl rfl td_M_sheet_64 ?_
                refine tz_iload_n C_ 2 rfl rfl td_M_sheet_65 ?_
                refine tz_wiastN C_ hM.2.2.2.1 (by omega) (by decide) (g' := upd bi k b) rfl td_M_sheet_66 (fun f191 hs191 hq191 => ?_)
                refine tz_aload_n C_ 0 rfl rfl td_M_sheet_67 ?_
                have k192 : f191 M = some (tz_obj 11 [.ref (M + 1), .ref (M + 2), .int (nI σ.2.1), .int σ.2.2.2, .ref (M + 3), .ref (M + 4), .ref (M + 5), .int ms, .ref (M + 6), .int ns, .ref (M + 7), .ref (M + 8), .int tg]) := ((hq191 _ (by omega)).trans hM.1)
                refine tz_get C_ tci_M 5 (by decide) tw_758 k192 rfl td_M_sheet_68 ?_
                refine tz_iload_n C_ 1 rfl rfl td_M_sheet_71 ?_
                refine tz_iload_n C_ 2 rfl rfl td_M_sheet_72 ?_
                refine tz_if_ne C_ td_M_sheet_73 (fun h73 => ?_) (fun h73 => ?_)
                · skip
                  refine tz_iload_n C_ 3 rfl rfl td_M_sheet_80 ?_
                  have k193 : f191 (M + 4) = some (tz_ints cs 4 nu) := ((hq191 _ (by omega)).trans hM.2.2.2.2.1)
                  refine tz_wiastN C_ k193 (by omega) (by decide) (g' := upd nu k (nI m)) rfl td_M_sheet_81 (fun f194 hs194 hq194 => ?_)
                  refine tz_iconst C_ (v := 0) (by decide) td_M_sheet_82 ?_
                  refine tz_istore C_ (lv' := [(0, .ref M), (1, .int (nI k)), (2, .int b), (3, .int (nI m)), (4, .int 0)]) [1, 2, 3, 4, 0] (by decide) rfl td_M_sheet_83 ?_
                  have k195 : f194 M = some (tz_obj 11 [.ref (M + 1), .ref (M + 2), .int (nI σ.2.1), .int σ.2.2.2, .ref (M + 3), .ref (M + 4), .ref (M + 5), .int ms, .ref (M + 6), .int ns, .ref (M + 7), .ref (M + 8), .int tg]) := ((hq194 _ (by omega)).trans k192)
                  have k196 : f194 (M + 1) = some (tz_ints cs 532 nw) := ((hq194 _ (by omega)).trans ((hq191 _ (by omega)).trans hM.2.1))
                  have k197 : f194 (M + 2) = some (tz_ints cs 10640 pa) := ((hq194 _ (by omega)).trans ((hq191 _ (by omega)).trans hM.2.2.1))
                  have k198 : f194 (M + 3) = some (tz_ints cs 4 (upd bi k b)) := ((hq194 _ (by omega)).trans hs191)
                  have k199 : f194 (M + 5) = some (tz_ints cs 480 sh) := ((hq194 _ (by omega)).trans ((hq191 _ (by omega)).trans hM.2.2.2.2.2.1))
                  have k200 : f194 (M + 6) = some (tz_ints cs 120 ro) := ((hq194 _ (by omega)).trans ((hq191 _ (by omega)).trans hM.2.2.2.2.2.2.1))
                  have k201 : f194 (M + 7) = some (tz_ints cs 120 ma) := ((hq194 _ (by omega)).trans ((hq191 _ (by omega)).trans hM.2.2.2.2.2.2.2.1))
                  have k202 : f194 (M + 8) = some (tz_ints cs 120 ca) := ((hq194 _ (by omega)).trans ((hq191 _ (by omega)).trans hM.2.2.2.2.2.2.2.2))
                  have loop85 : ∀ (kk85 : Nat) (i : Nat) (fL : tz_PH), (tz_MB cs fL M σ.2.1 σ.2.2.2 ms ns tg nw pa ((upd bi k b)) ((upd nu k (nI m))) ((tz_cpf (fun _ => 0) sh (120 * k) i)) ro ma ca) → (∀ q, (q < M ∨ M + 9 ≤ q) → fL q = f q) → (i ≤ 120) → (120 - i) < kk85 → tz_V p_ l e_ rm_M_sheet s_ m_ ar_ be_ me_ c_ Q_ A D 5 fL sz 0 0 85 [(0, .ref M), (1, .int (nI k)), (2, .int b), (3, .int (nI m)), (4, .int (nI i))] [] := by
                    intro kk85
                    induction kk85 with
                    | zero => intro i fL hM1 hfr hi hm85; omega
                    | succ kk85 ih85 =>
                      intro i fL hM1 hfr hi hm85
                      refine tz_iload C_ 4 rfl td_M_sheet_85 ?_
                      refine tz_bipush C_ (v := 120) (by decide) td_M_sheet_87 ?_
                      refine tz_icmp_ge C_ td_M_sheet_89 (fun h89 => ?_) (fun h89 => ?_)
                      · skip
                        replace h89 := (nI_leI (a := 120) (b := i) (by omega) (by omega)).mp h89
                        refine tz_aload_n C_ 0 rfl rfl td_M_sheet_111 ?_
                        refine tz_get C_ tci_M 5 (by decide) tw_758 hM1.1 rfl td_M_sheet_112 ?_
                        refine tz_iload_n C_ 1 rfl rfl td_M_sheet_115 ?_
                        refine tz_ialdN C_ hM1.2.2.2.2.1 (by omega) (by decide) td_M_sheet_116 ?_
                        rw [show ((upd nu k (nI m))) k = nI m from tz_updk]
                        refine tz_riret C_ hr_ hk_ hQ_ rfl td_M_sheet_117 ?_
                        have e9 : sp_sheet σ (nI k) b (nI m) = (nI m, tz_ss σ k (b, m, fun _ => 0)) := by simp only [sp_sheet, hpk4]; rw [if_pos hb9, if_neg (tz_le_nlt h37), if_pos h50]; rw [if_neg h73, if_neg h73, nI_clamp (by omega)]
                        rw [e9]
                        exact ⟨rfl, ⟨_, _, _, _, _, _, _, _, _, _, _, ⟨hM1.1, hM1.2.1, hM1.2.2.1, hM1.2.2.2.1, hM1.2.2.2.2.1, hM1.2.2.2.2.2.1, hM1.2.2.2.2.2.2.1, hM1.2.2.2.2.2.2.2.1, hM1.2.2.2.2.2.2.2.2⟩, hE, hH, (tz_enQ_set hQ (fun s h => (hW.2.2 s h).1) tz_updk (fun s h => tz_updo h) tz_updk (fun s h => tz_updo h) (fun q hq => tz_cpf_out (by omega)) (fun j hj => tz_cpf_in (show j < i from by have hj2 : j < m := hj; omega)))⟩, (fun q hh => by rw [hfr q (by omega)])⟩
                      · skip
                        replace h89 := mt (nI_leI (a := 120) (b := i) (by omega) (by omega)).mpr h89
                        refine tz_aload_n C_ 0 rfl rfl td_M_sheet_92 ?_
                        refine tz_get C_ tci_M 6 (by decide) tw_759 hM1.1 rfl td_M_sheet_93 ?_
                        refine tz_bipush C_ (v := 120) (by decide) td_M_sheet_96 ?_
                        refine tz_iload_n C_ 1 rfl rfl td_M_sheet_98 ?_
                        refine tz_imul C_ td_M_sheet_99 ?_
                        rw [show (120 * (nI k) : Int32) = nI (120 * k) from pk_mul (120) (k)]
                        refine tz_iload C_ 4 rfl td_M_sheet_100 ?_
                        refine tz_iadd C_ td_M_sheet_102 ?_
                        rw [show ((nI (120 * k)) + (nI i) : Int32) = nI (120 * k + i) from nI_add (120 * k) (i)]
                        refine tz_iconst C_ (v := 0) (by decide) td_M_sheet_103 ?_
                        refine tz_wiastN C_ hM1.2.2.2.2.2.1 (by omega) (by decide) (g' := upd ((tz_cpf (fun _ => 0) sh (120 * k) i)) ((120 * k + i)) 0) rfl td_M_sheet_104 (fun f203 hs203 hq203 => ?_)
                        refine tz_iinc C_ (k := 1) (v := nI (i + 1)) (lv' := [(0, .ref M), (1, .int (nI k)), (2, .int b), (3, .int (nI m)), (4, .int (nI (i + 1)))]) 4 rfl (nI_1 i) [1, 2, 3, 4, 0] (by decide) rfl td_M_sheet_105 ?_
                        refine tz_goto C_ td_M_sheet_108 ?_
                        have k204 : f203 M = some (tz_obj 11 [.ref (M + 1), .ref (M + 2), .int (nI σ.2.1), .int σ.2.2.2, .ref (M + 3), .ref (M + 4), .ref (M + 5), .int ms, .ref (M + 6), .int ns, .ref (M + 7), .ref (M + 8), .int tg]) := ((hq203 _ (by omega)).trans hM1.1)
                        have k205 : f203 (M + 1) = some (tz_ints cs 532 nw) := ((hq203 _ (by omega)).trans hM1.2.1)
                        have k206 : f203 (M + 2) = some (tz_ints cs 10640 pa) := ((hq203 _ (by omega)).trans hM1.2.2.1)
                        have k207 : f203 (M + 3) = some (tz_ints cs 4 ((upd bi k b))) := ((hq203 _ (by omega)).trans hM1.2.2.2.1)
                        have k208 : f203 (M + 4) = some (tz_ints cs 4 ((upd nu k (nI m)))) := ((hq203 _ (by omega)).trans hM1.2.2.2.2.1)
                        have k209 : f203 (M + 6) = some (tz_ints cs 120 ro) := ((hq203 _ (by omega)).trans hM1.2.2.2.2.2.2.1)
                        have k210 : f203 (M + 7) = some (tz_ints cs 120 ma) := ((hq203 _ (by omega)).trans hM1.2.2.2.2.2.2.2.1)
                        have k211 : f203 (M + 8) = some (tz_ints cs 120 ca) := ((hq203 _ (by omega)).trans hM1.2.2.2.2.2.2.2.2)
                        exact ih85 (i + 1) f203 (⟨k204, k205, k206, k207, k208, tz_cpr hs203 rfl, k209, k210, k211⟩) (fun q hh => by rw [hq203 q (by omega), hfr q (by omega)]) (by omega) (by omega)
                  exact loop85 _ 0 f194 (⟨k195, k196, k197, k198, hs194, by rw [tz_cpf_0]; exact k199, k200, k201, k202⟩) (fun q hh => by rw [hq194 q (by omega), hq191 q (by omega)]) (Nat.zero_le _) (Nat.lt_succ_self _)
                · skip
                  refine tz_iconst C_ (v := 0) (by decide) td_M_sheet_76 ?_
                  refine tz_goto C_ td_M_sheet_77 ?_
                  have k212 : f191 (M + 4) = some (tz_ints cs 4 nu) := ((hq191 _ (by omega)).trans hM.2.2.2.2.1)
                  refine tz_wiastN C_ k212 (by omega) (by decide) (g' := upd nu k 0) rfl td_M_sheet_81 (fun f213 hs213 hq213 => ?_)
                  refine tz_iconst C_ (v := 0) (by decide) td_M_sheet_82 ?_
                  refine tz_istore C_ (lv' := [(0, .ref M), (1, .int (nI k)), (2, .int b), (3, .int (nI m)), (4, .int 0)]) [1, 2, 3, 4, 0] (by decide) rfl td_M_sheet_83 ?_
                  have k214 : f213 M = some (tz_obj 11 [.ref (M + 1), .ref (M + 2), .int (nI σ.2.1), .int σ.2.2.2, .ref (M + 3), .ref (M + 4), .ref (M + 5), .int ms, .ref (M + 6), .int ns, .ref (M + 7), .ref (M + 8), .int tg]) := ((hq213 _ (by omega)).trans k192)
                  have k215 : f213 (M + 1) = some (tz_ints cs 532 nw) := ((hq213 _ (by omega)).trans ((hq191 _ (by omega)).trans hM.2.1))
                  have k216 : f213 (M + 2) = some (tz_ints cs 10640 pa) := ((hq213 _ (by omega)).trans ((hq191 _ (by omega)).trans hM.2.2.1))
                  have k217 : f213 (M + 3) = some (tz_ints cs 4 (upd bi k b)) := ((hq213 _ (by omega)).trans hs191)
                  have k218 : f213 (M + 5) = some (tz_ints cs 480 sh) := ((hq213 _ (by omega)).trans ((hq191 _ (by omega)).trans hM.2.2.2.2.2.1))
                  have k219 : f213 (M + 6) = some (tz_ints cs 120 ro) := ((hq213 _ (by omega)).trans ((hq191 _ (by omega)).trans hM.2.2.2.2.2.2.1))
                  have k220 : f213 (M + 7) = some (tz_ints cs 120 ma) := ((hq213 _ (by omega)).trans ((hq191 _ (by omega)).trans hM.2.2.2.2.2.2.2.1))
                  have k221 : f213 (M + 8) = some (tz_ints cs 120 ca) := ((hq213 _ (by omega)).trans ((hq191 _ (by omega)).trans hM.2.2.2.2.2.2.2.2))
                  have loop85 : ∀ (kk85 : Nat) (i : Nat) (fL : tz_PH), (tz_MB cs fL M σ.2.1 σ.2.2.2 ms ns tg nw pa ((upd bi k b)) ((upd nu k 0)) ((tz_cpf (fun _ => 0) sh (120 * k) i)) ro ma ca) → (∀ q, (q < M ∨ M + 9 ≤ q) → fL q = f q) → (i ≤ 120) → (120 - i) < kk85 → tz_V p_ l e_ rm_M_sheet s_ m_ ar_ be_ me_ c_ Q_ A D 5 fL sz 0 0 85 [(0, .ref M), (1, .int (nI k)), (2, .int b), (3, .int (nI m)), (4, .int (nI i))] [] := by
                    intro kk85
                    induction kk85 with
                    | zero => intro i fL hM1 hfr hi hm85; omega
                    | succ kk85 ih85 =>
                      intro i fL hM1 hfr hi hm85
                      refine tz_iload C_ 4 rfl td_M_sheet_85 ?_
                      refine tz_bipush C_ (v := 120) (by decide) td_M_sheet_87 ?_
                      refine tz_icmp_ge C_ td_M_sheet_89 (fun h89 => ?_) (fun h89 => ?_)
                      · skip
                        replace h89 := (nI_leI (a := 120) (b := i) (by omega) (by omega)).mp h89
                        refine tz_aload_n C_ 0 rfl rfl td_M_sheet_111 ?_
                        refine tz_get C_ tci_M 5 (by decide) tw_758 hM1.1 rfl td_M_sheet_112 ?_
                        refine tz_iload_n C_ 1 rfl rfl td_M_sheet_115 ?_
                        refine tz_ialdN C_ hM1.2.2.2.2.1 (by omega) (by decide) td_M_sheet_116 ?_
                        rw [show ((upd nu k 0)) k = 0 from tz_updk]
                        refine tz_riret C_ hr_ hk_ hQ_ rfl td_M_sheet_117 ?_
                        have e9 : sp_sheet σ (nI k) b (nI m) = (0, tz_ss σ k (b, 0, fun _ => 0)) := by simp only [sp_sheet, hpk4]; rw [if_pos hb9, if_neg (tz_le_nlt h37), if_pos h50]; rw [if_pos h73, if_pos h73]
                        rw [e9]
                        exact ⟨rfl, ⟨_, _, _, _, _, _, _, _, _, _, _, ⟨hM1.1, hM1.2.1, hM1.2.2.1, hM1.2.2.2.1, hM1.2.2.2.2.1, hM1.2.2.2.2.2.1, hM1.2.2.2.2.2.2.1, hM1.2.2.2.2.2.2.2.1, hM1.2.2.2.2.2.2.2.2⟩, hE, hH, (tz_enQ_set hQ (fun s h => (hW.2.2 s h).1) tz_updk (fun s h => tz_updo h) tz_updk (fun s h => tz_updo h) (fun q hq => tz_cpf_out (by omega)) (fun j hj => tz_cpf_in (show j < i from by have hj2 : j < 0 := hj; omega)))⟩, (fun q hh => by rw [hfr q (by omega)])⟩
                      · skip
                        replace h89 := mt (nI_leI (a := 120) (b := i) (by omega) (by omega)).mpr h89
                        refine tz_aload_n C_ 0 rfl rfl td_M_sheet_92 ?_
                        refine tz_get C_ tci_M 6 (by decide) tw_759 hM1.1 rfl td_M_sheet_93 ?_
                        refine tz_bipush C_ (v := 120) (by decide) td_M_sheet_96 ?_
                        refine tz_iload_n C_ 1 rfl rfl td_M_sheet_98 ?_
                        refine tz_imul C_ td_M_sheet_99 ?_
                        rw [show (120 * (nI k) : Int32) = nI (120 * k) from pk_mul (120) (k)]
                        refine tz_iload C_ 4 rfl td_M_sheet_100 ?_
                        refine tz_iadd C_ td_M_sheet_102 ?_
                        rw [show ((nI (120 * k)) + (nI i) : Int32) = nI (120 * k + i) from nI_add (120 * k) (i)]
                        refine tz_iconst C_ (v := 0) (by decide) td_M_sheet_103 ?_
                        refine tz_wiastN C_ hM1.2.2.2.2.2.1 (by omega) (by decide) (g' := upd ((tz_cpf (fun _ => 0) sh (120 * k) i)) ((120 * k + i)) 0) rfl td_M_sheet_104 (fun f222 hs222 hq222 => ?_)
                        refine tz_iinc C_ (k := 1) (v := nI (i + 1)) (lv' := [(0, .ref M), (1, .int (nI k)), (2, .int b), (3, .int (nI m)), (4, .int (nI (i + 1)))]) 4 rfl (nI_1 i) [1, 2, 3, 4, 0] (by decide) rfl td_M_sheet_105 ?_
                        refine tz_goto C_ td_M_sheet_108 ?_
                        have k223 : f222 M = some (tz_obj 11 [.ref (M + 1), .ref (M + 2), .int (nI σ.2.1), .int σ.2.2.2, .ref (M + 3), .ref (M + 4), .ref (M + 5), .int ms, .ref (M + 6), .int ns, .ref (M + 7), .ref (M + 8), .int tg]) := ((hq222 _ (by omega)).trans hM1.1)
                        have k224 : f222 (M + 1) = some (tz_ints cs 532 nw) := ((hq222 _ (by omega)).trans hM1.2.1)
                        have k225 : f222 (M + 2) = some (tz_ints cs 10640 pa) := ((hq222 _ (by omega)).trans hM1.2.2.1)
                        have k226 : f222 (M + 3) = some (tz_ints cs 4 ((upd bi k b))) := ((hq222 _ (by omega)).trans hM1.2.2.2.1)
                        have k227 : f222 (M + 4) = some (tz_ints cs 4 ((upd nu k 0))) := ((hq222 _ (by omega)).trans hM1.2.2.2.2.1)
                        have k228 : f222 (M + 6) = some (tz_ints cs 120 ro) := ((hq222 _ (by omega)).trans hM1.2.2.2.2.2.2.1)
                        have k229 : f222 (M + 7) = some (tz_ints cs 120 ma) := ((hq222 _ (by omega)).trans hM1.2.2.2.2.2.2.2.1)
                        have k230 : f222 (M + 8) = some (tz_ints cs 120 ca) := ((hq222 _ (by omega)).trans hM1.2.2.2.2.2.2.2.2)
                        exact ih85 (i + 1) f222 (⟨k223, k224, k225, k226, k227, tz_cpr hs222 rfl, k228, k229, k230⟩) (fun q hh => by rw [hq222 q (by omega), hfr q (by omega)]) (by omega) (by omega)
                  exact loop85 _ 0 f213 (⟨k214, k215, k216, k217, hs213, by rw [tz_cpf_0]; exact k218, k219, k220, k221⟩) (fun q hh => by rw [hq213 q (by omega), hq191 q (by omega)]) (Nat.zero_le _) (Nat.lt_succ_self _)
              · skip
                refine tz_aload_n C_ 0 rfl rfl td_M_sheet_53 ?_
                refine tz_ldc C_ tw_812 td_M_sheet_54 ?_
                refine tz_cV C_ tmi_M_finding tw_800 tw_14 tw_798 hM.1 rfl (As := [.int (-100001)]) (by exact (ct_M_finding (v := -100001) hM.1)) rfl (rest := []) rfl (by decide) (Nat.le_of_ble_eq_true rfl) td_M_sheet_56 (st1 := [.int (-100001)]) rfl (fun f231 hF231 => ?_)
                obtain ⟨hs232, hq232⟩ := hF231
                refine tz_riret C_ hr_ hk_ hQ_ rfl td_M_sheet_59 ?_
                have k233 : f231 (M + 1) = some (tz_ints cs 532 nw) := ((hq232 _ (by omega)).trans hM.2.1)
                have k234 : f231 (M + 2) = some (tz_ints cs 10640 pa) := ((hq232 _ (by omega)).trans hM.2.2.1)
                have k235 : f231 (M + 3) = some (tz_ints cs 4 bi) := ((hq232 _ (by omega)).trans hM.2.2.2.1)
                have k236 : f231 (M + 4) = some (tz_ints cs 4 nu) := ((hq232 _ (by omega)).trans hM.2.2.2.2.1)
                have k237 : f231 (M + 5) = some (tz_ints cs 480 sh) := ((hq232 _ (by omega)).trans hM.2.2.2.2.2.1)
                have k238 : f231 (M + 6) = some (tz_ints cs 120 ro) := ((hq232 _ (by omega)).trans hM.2.2.2.2.2.2.1)
                have k239 : f231 (M + 7) = some (tz_ints cs 120 ma) := ((hq232 _ (by omega)).trans hM.2.2.2.2.2.2.2.1)
                have k240 : f231 (M + 8) = some (tz_ints cs 120 ca) := ((hq232 _ (by omega)).trans hM.2.2.2.2.2.2.2.2)
                have e9 : sp_sheet σ (nI k) b n = (-100001, tz_fnd σ) := by 
                  have hb9 : b = 0 ∨ b = 8 ∨ b = 16 ∨ b = 32 := by grind
                  simp only [sp_sheet, hpk4]; rw [if_pos hb9, if_neg (tz_le_nlt h37), if_neg h50, tz_an_f (by decide)]
                rw [e9]
                exact ⟨rfl, ⟨_, _, _, _, _, _, _, _, _, _, _, ⟨hs232, k233, k234, k235, k236, k237, k238, k239, k240⟩, hE, hH, hQ⟩, (fun q hh => by rw [hq232 q (by omega)])⟩
            · skip
              refine tz_aload_n C_ 0 rfl rfl td_M_sheet_40 ?_
              refine tz_ldc C_ tw_878 td_M_sheet_41 ?_
              refine tz_cV C_ tmi_M_finding tw_800 tw_14 tw_798 hM.1 rfl (As := [.int (-100003)]) (by exact (ct_M_finding (v := -100003) hM.1)) rfl (rest := []) rfl (by decide) (Nat.le_of_ble_eq_true rfl) td_M_sheet_43 (st1 := [.int (-100003)]) rfl (fun f241 hF241 => ?_)
              obtain ⟨hs242, hq242⟩ := hF241
              refine tz_riret C_ hr_ hk_ hQ_ rfl td_M_sheet_46 ?_
              have k243 : f241 (M + 1) = some (tz_ints cs 532 nw) := ((hq242 _ (by omega)).trans hM.2.1)
              have k244 : f241 (M + 2) = some (tz_ints cs 10640 pa) := ((hq242 _ (by omega)).trans hM.2.2.1)
              have k245 : f241 (M + 3) = some (tz_ints cs 4 bi) := ((hq242 _ (by omega)).trans hM.2.2.2.1)
              have k246 : f241 (M + 4) = some (tz_ints cs 4 nu) := ((hq242 _ (by omega)).trans hM.2.2.2.2.1)
              have k247 : f241 (M + 5) = some (tz_ints cs 480 sh) := ((hq242 _ (by omega)).trans hM.2.2.2.2.2.1)
              have k248 : f241 (M + 6) = some (tz_ints cs 120 ro) := ((hq242 _ (by omega)).trans hM.2.2.2.2.2.2.1)
              have k249 : f241 (M + 7) = some (tz_ints cs 120 ma) := ((hq242 _ (by omega)).trans hM.2.2.2.2.2.2.2.1)
              have k250 : f241 (M + 8) = some (tz_ints cs 120 ca) := ((hq242 _ (by omega)).trans hM.2.2.2.2.2.2.2.2)
              have e9 : sp_sheet σ (nI k) b n = (-100003, tz_fnd σ) := by 
                have hb9 : b = 0 ∨ b = 8 ∨ b = 16 ∨ b = 32 := by grind
                simp only [sp_sheet, hpk4]; rw [if_pos hb9, if_pos (Int32.not_le.mp h37), tz_an_f (by decide)]
              rw [e9]
              exact ⟨rfl, ⟨_, _, _, _, _, _, _, _, _, _, _, ⟨hs242, k243, k244, k245, k246, k247, k248, k249, k250⟩, hE, hH, hQ⟩, (fun q hh => by rw [hq242 q (by omega)])⟩
          · skip
            refine tz_aload_n C_ 0 rfl rfl td_M_sheet_29 ?_
            refine tz_ldc C_ tw_812 td_M_sheet_30 ?_
            refine tz_cV C_ tmi_M_finding tw_800 tw_14 tw_798 hM.1 rfl (As := [.int (-100001)]) (by exact (ct_M_finding (v := -100001) hM.1)) rfl (rest := []) rfl (by decide) (Nat.le_of_ble_eq_true rfl) td_M_sheet_32 (st1 := [.int (-100001)]) rfl (fun f251 hF251 => ?_)
            obtain ⟨hs252, hq252⟩ := hF251
            refine tz_riret C_ hr_ hk_ hQ_ rfl td_M_sheet_35 ?_
            have k253 : f251 (M + 1) = some (tz_ints cs 532 nw) := ((hq252 _ (by omega)).trans hM.2.1)
            have k254 : f251 (M + 2) = some (tz_ints cs 10640 pa) := ((hq252 _ (by omega)).trans hM.2.2.1)
            have k255 : f251 (M + 3) = some (tz_ints cs 4 bi) := ((hq252 _ (by omega)).trans hM.2.2.2.1)
            have k256 : f251 (M + 4) = some (tz_ints cs 4 nu) := ((hq252 _ (by omega)).trans hM.2.2.2.2.1)
            have k257 : f251 (M + 5) = some (tz_ints cs 480 sh) := ((hq252 _ (by omega)).trans hM.2.2.2.2.2.1)
            have k258 : f251 (M + 6) = some (tz_ints cs 120 ro) := ((hq252 _ (by omega)).trans hM.2.2.2.2.2.2.1)
            have k259 : f251 (M + 7) = some (tz_ints cs 120 ma) := ((hq252 _ (by omega)).trans hM.2.2.2.2.2.2.2.1)
            have k260 : f251 (M + 8) = some (tz_ints cs 120 ca) := ((hq252 _ (by omega)).trans hM.2.2.2.2.2.2.2.2)
            have e9 : sp_sheet σ (nI k) b n = (-100001, tz_fnd σ) := by simp only [sp_sheet, hpk4]; rw [if_neg (by grind), tz_an_f (by decide)]
            rw [e9]
            exact ⟨rfl, ⟨_, _, _, _, _, _, _, _, _, _, _, ⟨hs252, k253, k254, k255, k256, k257, k258, k259, k260⟩, hE, hH, hQ⟩, (fun q hh => by rw [hq252 q (by omega)])⟩


theorem tz_enQ_wr {bi nu sh : Nat → Int32} {Sb : Nat → Int32 × Nat × (Nat → Int32)} {k j : Nat} {v : Int32} (hQ : tz_enQ bi nu sh Sb) (hW : ∀ s, s < 4 → (Sb s).2.1 ≤ 120) (hk : k < 4) (hj : j < (Sb k).2.1) : tz_enQ bi nu (upd sh (120 * k + j) (tz_lw (bi k) v)) (va_up Sb k ((Sb k).1, (Sb k).2.1, tz_qset (Sb k).1 (Sb k).2.1 (Sb k).2.2 (nI j) v)) := by
  have hn := hW k hk
  refine tz_enQ_set hQ hW (hQ k hk).1 (fun s _ => rfl) (hQ k hk).2.1 (fun s _ => rfl) (fun q hq => tz_updo (by omega)) (fun i hi => ?_)
  have hi2 : i < (Sb k).2.1 := hi
  have e : tz_qset (Sb k).1 (Sb k).2.1 (Sb k).2.2 (nI j) v = upd (Sb k).2.2 j (tz_lw (Sb k).1 v) := by
    unfold tz_qset
    rw [if_pos ((tz_has_iff (by omega) (by omega)).mpr hj), nI_clamp (by omega)]
  show upd sh (120 * k + j) (tz_lw (bi k) v) (120 * k + i) = tz_qset (Sb k).1 (Sb k).2.1 (Sb k).2.2 (nI j) v i
  rw [e, (hQ k hk).1]
  by_cases e2 : i = j
  · subst e2; rw [tz_updk, tz_updk]
  · rw [tz_updo e2, tz_updo (by omega)]; exact (hQ k hk).2.2 i hi2
theorem tz_enQ_cp {bi nu sh ca : Nat → Int32} {Sb : Nat → Int32 × Nat × (Nat → Int32)} {a b i j n : Nat} (hQ : tz_enQ bi nu sh Sb) (hW : ∀ s, s < 4 → (Sb s).2.1 ≤ 120) (ha : a < 4) (hb : b < 4) (hi : i + n ≤ (Sb a).2.1) (hj : j + n ≤ (Sb b).2.1) : tz_enQ bi nu (tz_cpf (tz_fl (fun q => sh (120 * a + i + q)) ca n) sh (120 * b + j) n) (va_up Sb b ((Sb b).1, (Sb b).2.1, va_cpy (Sb a).2.2 (Sb b).2.2 i j n)) := by
  have hna := hW a ha
  have hnb := hW b hb
  refine tz_enQ_set hQ hW (hQ b hb).1 (fun s _ => rfl) (hQ b hb).2.1 (fun s _ => rfl) (fun q hq => tz_cpf_out (by omega)) (fun q hq => ?_)
  have hq2 : q < (Sb b).2.1 := hq
  show _ = va_cpy (Sb a).2.2 (Sb b).2.2 i j n q
  unfold va_cpy
  by_cases e : j ≤ q ∧ q < j + n
  · rw [if_pos e, show 120 * b + q = 120 * b + j + (q - j) by omega, tz_cpf_in (by omega), tz_fl_in (by omega)]
    show sh (120 * a + i + (q - j)) = _
    rw [show 120 * a + i + (q - j) = 120 * a + (i + (q - j)) by omega]
    exact (hQ a ha).2.2 _ (by omega)
  · rw [if_neg e, tz_cpf_out (by omega)]; exact (hQ b hb).2.2 q hq2

abbrev rm_M_write : Room := { frames := 2, cells := 0, slots := 0, locals := 42 }
set_option maxHeartbeats 4000000 in
set_option maxRecDepth 100000 in
theorem ct_M_write {l : Launch} {A : Nat → Prop} {D : va_G} {cs : Nat → ClassId} {sz : Nat} {f : tz_PH} {M : Nat} {σ : tz_SG} (hX : tz_AM cs f M σ) (hW : tz_WF σ) {x i v : Int32} : tz_CN l tyM_write prog_13_method_25_code 4 (some (.int)) rm_M_write 0 0 A D cs sz [.ref M, .int x, .int i, .int v] f (some (.int (sp_write σ x i v).1)) (fun f' => tz_AM cs f' M (sp_write σ x i v).2 ∧ ∀ q, (q < M ∨ M + 9 ≤ q) → f' q = f q) := by
  refine tz_C.ofB (lv0 := [(0, .ref M), (1, .int x), (2, .int i), (3, .int v)]) (plainFor_of_name (by decide)) (Nat.le_of_ble_eq_true rfl) rfl ?_
  intro p_ e_ s_ m_ ar_ be_ me_ c_ Q_ C_ hr_ hk_ hnm_ hz_ hQ_
  obtain ⟨ms, ns, tg, nw, pa, bi, nu, sh, ro, ma, ca, hM, hE, hH, hQ⟩ := hX
  have hWT := hW.cur
  have hkp : σ.2.1 ≤ 20 := hW.1
  have hl8 := hWT.2.1
  refine tz_iload_n C_ 1 rfl rfl td_M_write_0 ?_
  refine tz_rS C_ tmi_M_isSheet tw_876 tw_875 (As := [.int x]) (by exact ct_M_isSheet) rfl (rest := []) rfl (by decide) (Nat.le_of_ble_eq_true rfl) td_M_write_1 (st1 := [.int (tz_p (0 ≤ x ∧ x < 4))]) rfl ?_
  refine tz_if_ne C_ td_M_write_4 (fun h4 => ?_) (fun h4 => ?_)
  · skip
    replace h4 := tz_p1.mp h4
    obtain ⟨k, hk, ek⟩ := tz_pk_in h4
    subst ek
    have hpk4 := tz_pk_N hk
    have hnk : tz_ln σ k ≤ 120 := (hWT.1 k hk).1
    have hNk : ((tz_cur σ).1 k).1 ≤ 120 := (hWT.1 k hk).1
    refine tz_aload_n C_ 0 rfl rfl td_M_write_14 ?_
    refine tz_get C_ tci_M 4 (by decide) tw_757 hM.1 rfl td_M_write_15 ?_
    refine tz_iload_n C_ 1 rfl rfl td_M_write_18 ?_
    refine tz_ialdN C_ hM.2.2.2.1 (by omega) (by decide) td_M_write_19 ?_
    refine tz_if_ne C_ td_M_write_20 (fun h20 => ?_) (fun h20 => ?_)
    · skip
      refine tz_iload_n C_ 2 rfl rfl td_M_write_30 ?_
      refine tz_iconst C_ (v := 0) (by decide) td_M_write_31 ?_
      refine tz_aload_n C_ 0 rfl rfl td_M_write_32 ?_
      refine tz_get C_ tci_M 5 (by decide) tw_758 hM.1 rfl td_M_write_33 ?_
      refine tz_iload_n C_ 1 rfl rfl td_M_write_36 ?_
      refine tz_ialdN C_ hM.2.2.2.2.1 (by omega) (by decide) td_M_write_37 ?_
      refine tz_iconst C_ (v := 1) (by decide) td_M_write_38 ?_
      refine tz_isub C_ td_M_write_39 ?_
      refine tz_rS C_ tmi_M_in tw_810 tw_809 (As := [.int i, .int 0, .int ((nu k) - 1)]) (by exact ct_M_in) rfl (rest := []) rfl (by decide) (Nat.le_of_ble_eq_true rfl) td_M_write_40 (st1 := [.int (tz_p (0 ≤ i ∧ i ≤ ((nu k) - 1)))]) rfl ?_
      refine tz_if_ne C_ td_M_write_43 (fun h43 => ?_) (fun h43 => ?_)
      · skip
        replace h43 := tz_p1.mp h43
        rw [(hQ k hk).2.1, tz_leN (by have := (hW.2.2 k hk).1; omega)] at h43
        have hs120 : tz_sn σ k ≤ 120 := (hW.2.2 k hk).1
        obtain ⟨j, hj, ej⟩ := vp_in_of (x := i) (n := tz_sn σ k) (tz_inI (tz_le_nlt h43.1) h43.2 (by omega)) (by omega)
        subst ej
        have hbi : bi k = 8 ∨ bi k = 16 ∨ bi k = 32 := by have hb0 := (hW.2.2 k hk).2; rw [← (hQ k hk).1] at hb0; grind
        refine tz_aload_n C_ 0 rfl rfl td_M_write_53 ?_
        refine tz_get C_ tci_M 6 (by decide) tw_759 hM.1 rfl td_M_write_54 ?_
        refine tz_bipush C_ (v := 120) (by decide) td_M_write_57 ?_
        refine tz_iload_n C_ 1 rfl rfl td_M_write_59 ?_
        refine tz_imul C_ td_M_write_60 ?_
        rw [show (120 * (nI k) : Int32) = nI (120 * k) from pk_mul (120) (k)]
        refine tz_iload_n C_ 2 rfl rfl td_M_write_61 ?_
        refine tz_iadd C_ td_M_write_62 ?_
        rw [show ((nI (120 * k)) + (nI j) : Int32) = nI (120 * k + j) from nI_add (120 * k) (j)]
        refine tz_aload_n C_ 0 rfl rfl td_M_write_63 ?_
        refine tz_get C_ tci_M 4 (by decide) tw_757 hM.1 rfl td_M_write_64 ?_
        refine tz_iload_n C_ 1 rfl rfl td_M_write_67 ?_
        refine tz_ialdN C_ hM.2.2.2.1 (by omega) (by decide) td_M_write_68 ?_
        refine tz_iload_n C_ 3 rfl rfl td_M_write_69 ?_
        refine tz_rS C_ tmi_M_lowest tw_885 tw_884 (As := [.int (bi k), .int v]) (by exact (ct_M_lowest (b := bi k) hbi)) rfl (rest := [.int (nI (120 * k + j)), .ref (M + 5)]) rfl (by decide) (Nat.le_of_ble_eq_true rfl) td_M_write_70 (st1 := [.int (tz_lw (bi k) v), .int (nI (120 * k + j)), .ref (M + 5)]) rfl ?_
        refine tz_wiastN C_ hM.2.2.2.2.2.1 (by omega) (by decide) (g' := upd sh ((120 * k + j)) (tz_lw (bi k) v)) rfl td_M_write_73 (fun f1 hs1 hq1 => ?_)
        refine tz_iconst C_ (v := 0) (by decide) td_M_write_74 ?_
        refine tz_riret C_ hr_ hk_ hQ_ rfl td_M_write_75 ?_
        have k2 : f1 M = some (tz_obj 11 [.ref (M + 1), .ref (M + 2), .int (nI σ.2.1), .int σ.2.2.2, .ref (M + 3), .ref (M + 4), .ref (M + 5), .int ms, .ref (M + 6), .int ns, .ref (M + 7), .ref (M + 8), .int tg]) := ((hq1 _ (by omega)).trans hM.1)
        have k3 : f1 (M + 1) = some (tz_ints cs 532 nw) := ((hq1 _ (by omega)).trans hM.2.1)
        have k4 : f1 (M + 2) = some (tz_ints cs 10640 pa) := ((hq1 _ (by omega)).trans hM.2.2.1)
        have k5 : f1 (M + 3) = some (tz_ints cs 4 bi) := ((hq1 _ (by omega)).trans hM.2.2.2.1)
        have k6 : f1 (M + 4) = some (tz_ints cs 4 nu) := ((hq1 _ (by omega)).trans hM.2.2.2.2.1)
        have k7 : f1 (M + 6) = some (tz_ints cs 120 ro) := ((hq1 _ (by omega)).trans hM.2.2.2.2.2.2.1)
        have k8 : f1 (M + 7) = some (tz_ints cs 120 ma) := ((hq1 _ (by omega)).trans hM.2.2.2.2.2.2.2.1)
        have k9 : f1 (M + 8) = some (tz_ints cs 120 ca) := ((hq1 _ (by omega)).trans hM.2.2.2.2.2.2.2.2)
        have e9 : sp_write σ (nI k) (nI j) v = (0, tz_ss σ k (tz_sb σ k, tz_sn σ k, tz_qset (tz_sb σ k) (tz_sn σ k) (tz_sv σ k) (nI j) v)) := by simp only [sp_write, hpk4]; rw [if_neg (fun e => h20 ((hQ k hk).1.trans e)), if_pos h43]
        rw [e9]
        exact ⟨rfl, ⟨_, _, _, _, _, _, _, _, _, _, _, ⟨k2, k3, k4, k5, k6, hs1, k7, k8, k9⟩, hE, hH, (tz_enQ_wr hQ (fun s h => (hW.2.2 s h).1) hk hj)⟩, (fun q hh => by rw [hq1 q (by omega)])⟩
      · skip
        replace h43 := tz_p0.mp h43
        rw [(hQ k hk).2.1, tz_leN (by have := (hW.2.2 k hk).1; omega)] at h43
        refine tz_aload_n C_ 0 rfl rfl td_M_write_46 ?_
        refine tz_ldc C_ tw_812 td_M_write_47 ?_
        refine tz_cV C_ tmi_M_finding tw_800 tw_14 tw_798 hM.1 rfl (As := [.int (-100001)]) (by exact (ct_M_finding (v := -100001) hM.1)) rfl (rest := []) rfl (by decide) (Nat.le_of_ble_eq_true rfl) td_M_write_49 (st1 := [.int (-100001)]) rfl (fun f10 hF10 => ?_)
        obtain ⟨hs11, hq11⟩ := hF10
        refine tz_riret C_ hr_ hk_ hQ_ rfl td_M_write_52 ?_
        have k12 : f10 (M + 1) = some (tz_ints cs 532 nw) := ((hq11 _ (by omega)).trans hM.2.1)
        have k13 : f10 (M + 2) = some (tz_ints cs 10640 pa) := ((hq11 _ (by omega)).trans hM.2.2.1)
        have k14 : f10 (M + 3) = some (tz_ints cs 4 bi) := ((hq11 _ (by omega)).trans hM.2.2.2.1)
        have k15 : f10 (M + 4) = some (tz_ints cs 4 nu) := ((hq11 _ (by omega)).trans hM.2.2.2.2.1)
        have k16 : f10 (M + 5) = some (tz_ints cs 480 sh) := ((hq11 _ (by omega)).trans hM.2.2.2.2.2.1)
        have k17 : f10 (M + 6) = some (tz_ints cs 120 ro) := ((hq11 _ (by omega)).trans hM.2.2.2.2.2.2.1)
        have k18 : f10 (M + 7) = some (tz_ints cs 120 ma) := ((hq11 _ (by omega)).trans hM.2.2.2.2.2.2.2.1)
        have k19 : f10 (M + 8) = some (tz_ints cs 120 ca) := ((hq11 _ (by omega)).trans hM.2.2.2.2.2.2.2.2)
        have e9 : sp_write σ (nI k) i v = (-100001, tz_fnd σ) := by simp only [sp_write, hpk4]; rw [if_neg (fun e => h20 ((hQ k hk).1.trans e)), if_neg h43, tz_an_f (by decide)]
        rw [e9]
        exact ⟨rfl, ⟨_, _, _, _, _, _, _, _, _, _, _, ⟨hs11, k12, k13, k14, k15, k16, k17, k18, k19⟩, hE, hH, hQ⟩, (fun q hh => by rw [hq11 q (by omega)])⟩
    · skip
      refine tz_aload_n C_ 0 rfl rfl td_M_write_23 ?_
      refine tz_ldc C_ tw_883 td_M_write_24 ?_
      refine tz_cV C_ tmi_M_finding tw_800 tw_14 tw_798 hM.1 rfl (As := [.int (-100002)]) (by exact (ct_M_finding (v := -100002) hM.1)) rfl (rest := []) rfl (by decide) (Nat.le_of_ble_eq_true rfl) td_M_write_26 (st1 := [.int (-100002)]) rfl (fun f20 hF20 => ?_)
      obtain ⟨hs21, hq21⟩ := hF20
      refine tz_riret C_ hr_ hk_ hQ_ rfl td_M_write_29 ?_
      have k22 : f20 (M + 1) = some (tz_ints cs 532 nw) := ((hq21 _ (by omega)).trans hM.2.1)
      have k23 : f20 (M + 2) = some (tz_ints cs 10640 pa) := ((hq21 _ (by omega)).trans hM.2.2.1)
      have k24 : f20 (M + 3) = some (tz_ints cs 4 bi) := ((hq21 _ (by omega)).trans hM.2.2.2.1)
      have k25 : f20 (M + 4) = some (tz_ints cs 4 nu) := ((hq21 _ (by omega)).trans hM.2.2.2.2.1)
      have k26 : f20 (M + 5) = some (tz_ints cs 480 sh) := ((hq21 _ (by omega)).trans hM.2.2.2.2.2.1)
      have k27 : f20 (M + 6) = some (tz_ints cs 120 ro) := ((hq21 _ (by omega)).trans hM.2.2.2.2.2.2.1)
      have k28 : f20 (M + 7) = some (tz_ints cs 120 ma) := ((hq21 _ (by omega)).trans hM.2.2.2.2.2.2.2.1)
      have k29 : f20 (M + 8) = some (tz_ints cs 120 ca) := ((hq21 _ (by omega)).trans hM.2.2.2.2.2.2.2.2)
      have e9 : sp_write σ (nI k) i v = (-100002, tz_fnd σ) := by simp only [sp_write, hpk4]; rw [if_pos ((hQ k hk).1.symm.trans h20), tz_an_f (by decide)]
      rw [e9]
      exact ⟨rfl, ⟨_, _, _, _, _, _, _, _, _, _, _, ⟨hs21, k22, k23, k24, k25, k26, k27, k28, k29⟩, hE, hH, hQ⟩, (fun q hh => by rw [hq21 q (by omega)])⟩
  · skip
    replace h4 := tz_p0.mp h4
    have hpk4 := tz_pk_out h4
    refine tz_aload_n C_ 0 rfl rfl td_M_write_7 ?_
    refine tz_ldc C_ tw_812 td_M_write_8 ?_
    refine tz_cV C_ tmi_M_finding tw_800 tw_14 tw_798 hM.1 rfl (As := [.int (-100001)]) (by exact (ct_M_finding (v := -100001) hM.1)) rfl (rest := []) rfl (by decide) (Nat.le_of_ble_eq_true rfl) td_M_write_10 (st1 := [.int (-100001)]) rfl (fun f30 hF30 => ?_)
    obtain ⟨hs31, hq31⟩ := hF30
    refine tz_riret C_ hr_ hk_ hQ_ rfl td_M_write_13 ?_
    have k32 : f30 (M + 1) = some (tz_ints cs 532 nw) := ((hq31 _ (by omega)).trans hM.2.1)
    have k33 : f30 (M + 2) = some (tz_ints cs 10640 pa) := ((hq31 _ (by omega)).trans hM.2.2.1)
    have k34 : f30 (M + 3) = some (tz_ints cs 4 bi) := ((hq31 _ (by omega)).trans hM.2.2.2.1)
    have k35 : f30 (M + 4) = some (tz_ints cs 4 nu) := ((hq31 _ (by omega)).trans hM.2.2.2.2.1)
    have k36 : f30 (M + 5) = some (tz_ints cs 480 sh) := ((hq31 _ (by omega)).trans hM.2.2.2.2.2.1)
    have k37 : f30 (M + 6) = some (tz_ints cs 120 ro) := ((hq31 _ (by omega)).trans hM.2.2.2.2.2.2.1)
    have k38 : f30 (M + 7) = some (tz_ints cs 120 ma) := ((hq31 _ (by omega)).trans hM.2.2.2.2.2.2.2.1)
    have k39 : f30 (M + 8) = some (tz_ints cs 120 ca) := ((hq31 _ (by omega)).trans hM.2.2.2.2.2.2.2.2)
    have e9 : sp_write σ x i v = (-100001, tz_fnd σ) := by simp only [sp_write, hpk4]; rw [tz_an_f (by decide)]
    rw [e9]
    exact ⟨rfl, ⟨_, _, _, _, _, _, _, _, _, _, _, ⟨hs31, k32, k33, k34, k35, k36, k37, k38, k39⟩, hE, hH, hQ⟩, (fun q hh => by rw [hq31 q (by omega)])⟩

abbrev rm_M_copy : Room := { frames := 2, cells := 0, slots := 0, locals := 42 }
set_option maxHeartbeats 4000000 in
set_option maxRecDepth 100000 in
theorem ct_M_copy {l : Launch} {A : Nat → Prop} {D : va_G} {cs : Nat → ClassId} {sz : Nat} {f : tz_PH} {M : Nat} {σ : tz_SG} (hX : tz_AM cs f M σ) (hW : tz_WF σ) {x i y j n : Int32} : tz_CN l tyM_copy prog_13_method_26_code 7 (some (.int)) rm_M_copy 0 0 A D cs sz [.ref M, .int x, .int i, .int y, .int j, .int n] f (some (.int (sp_copy σ x i y j n).1)) (fun f' => tz_AM cs f' M (sp_copy σ x i y j n).2 ∧ ∀ q, (q < M ∨ M + 9 ≤ q) → f' q = f q) := by
  refine tz_C.ofB (lv0 := [(0, .ref M), (1, .int x), (2, .int i), (3, .int y), (4, .int j), (5, .int n)]) (plainFor_of_name (by decide)) (Nat.le_of_ble_eq_true rfl) rfl ?_
  intro p_ e_ s_ m_ ar_ be_ me_ c_ Q_ C_ hr_ hk_ hnm_ hz_ hQ_
  obtain ⟨ms, ns, tg, nw, pa, bi, nu, sh, ro, ma, ca, hM, hE, hH, hQ⟩ := hX
  have hWT := hW.cur
  have hkp : σ.2.1 ≤ 20 := hW.1
  have hl8 := hWT.2.1
  refine tz_iload_n C_ 1 rfl rfl td_M_copy_0 ?_
  refine tz_rS C_ tmi_M_isSheet tw_876 tw_875 (As := [.int x]) (by exact ct_M_isSheet) rfl (rest := []) rfl (by decide) (Nat.le_of_ble_eq_true rfl) td_M_copy_1 (st1 := [.int (tz_p (0 ≤ x ∧ x < 4))]) rfl ?_
  refine tz_if_eq C_ td_M_copy_4 (fun h4 => ?_) (fun h4 => ?_)
  · skip
    replace h4 := tz_p0.mp h4
    have hpk4 := tz_pk_out h4
    refine tz_aload_n C_ 0 rfl rfl td_M_copy_14 ?_
    refine tz_ldc C_ tw_812 td_M_copy_15 ?_
    refine tz_cV C_ tmi_M_finding tw_800 tw_14 tw_798 hM.1 rfl (As := [.int (-100001)]) (by exact (ct_M_finding (v := -100001) hM.1)) rfl (rest := []) rfl (by decide) (Nat.le_of_ble_eq_true rfl) td_M_copy_17 (st1 := [.int (-100001)]) rfl (fun f1 hF1 => ?_)
    obtain ⟨hs2, hq2⟩ := hF1
    refine tz_riret C_ hr_ hk_ hQ_ rfl td_M_copy_20 ?_
    have k3 : f1 (M + 1) = some (tz_ints cs 532 nw) := ((hq2 _ (by omega)).trans hM.2.1)
    have k4 : f1 (M + 2) = some (tz_ints cs 10640 pa) := ((hq2 _ (by omega)).trans hM.2.2.1)
    have k5 : f1 (M + 3) = some (tz_ints cs 4 bi) := ((hq2 _ (by omega)).trans hM.2.2.2.1)
    have k6 : f1 (M + 4) = some (tz_ints cs 4 nu) := ((hq2 _ (by omega)).trans hM.2.2.2.2.1)
    have k7 : f1 (M + 5) = some (tz_ints cs 480 sh) := ((hq2 _ (by omega)).trans hM.2.2.2.2.2.1)
    have k8 : f1 (M + 6) = some (tz_ints cs 120 ro) := ((hq2 _ (by omega)).trans hM.2.2.2.2.2.2.1)
    have k9 : f1 (M + 7) = some (tz_ints cs 120 ma) := ((hq2 _ (by omega)).trans hM.2.2.2.2.2.2.2.1)
    have k10 : f1 (M + 8) = some (tz_ints cs 120 ca) := ((hq2 _ (by omega)).trans hM.2.2.2.2.2.2.2.2)
    have e9 : sp_copy σ x i y j n = (-100001, tz_fnd σ) := by simp only [sp_copy, hpk4]; rw [tz_an_f (by decide)]
    rw [e9]
    exact ⟨rfl, ⟨_, _, _, _, _, _, _, _, _, _, _, ⟨hs2, k3, k4, k5, k6, k7, k8, k9, k10⟩, hE, hH, hQ⟩, (fun q hh => by rw [hq2 q (by omega)])⟩
  · skip
    replace h4 := tz_p1.mp h4
    obtain ⟨a, ha, ea⟩ := tz_pk_in h4
    subst ea
    have hpk4 := tz_pk_N ha
    have hna : tz_ln σ a ≤ 120 := (hWT.1 a ha).1
    have hNa : ((tz_cur σ).1 a).1 ≤ 120 := (hWT.1 a ha).1
    refine tz_iload_n C_ 3 rfl rfl td_M_copy_7 ?_
    refine tz_rS C_ tmi_M_isSheet tw_876 tw_875 (As := [.int y]) (by exact ct_M_isSheet) rfl (rest := []) rfl (by decide) (Nat.le_of_ble_eq_true rfl) td_M_copy_8 (st1 := [.int (tz_p (0 ≤ y ∧ y < 4))]) rfl ?_
    refine tz_if_ne C_ td_M_copy_11 (fun h11 => ?_) (fun h11 => ?_)
    · skip
      replace h11 := tz_p1.mp h11
      obtain ⟨b, hb, eb⟩ := tz_pk_in h11
      subst eb
      have hpk11 := tz_pk_N hb
      have hnb : tz_ln σ b ≤ 120 := (hWT.1 b hb).1
      have hNb : ((tz_cur σ).1 b).1 ≤ 120 := (hWT.1 b hb).1
      refine tz_aload_n C_ 0 rfl rfl td_M_copy_21 ?_
      refine tz_get C_ tci_M 4 (by decide) tw_757 hM.1 rfl td_M_copy_22 ?_
      refine tz_iload_n C_ 1 rfl rfl td_M_copy_25 ?_
      refine tz_ialdN C_ hM.2.2.2.1 (by omega) (by decide) td_M_copy_26 ?_
      refine tz_if_eq C_ td_M_copy_27 (fun h27 => ?_) (fun h27 => ?_)
      · skip
        refine tz_aload_n C_ 0 rfl rfl td_M_copy_39 ?_
        refine tz_ldc C_ tw_883 td_M_copy_40 ?_
        refine tz_cV C_ tmi_M_finding tw_800 tw_14 tw_798 hM.1 rfl (As := [.int (-100002)]) (by exact (ct_M_finding (v := -100002) hM.1)) rfl (rest := []) rfl (by decide) (Nat.le_of_ble_eq_true rfl) td_M_copy_42 (st1 := [.int (-100002)]) rfl (fun f11 hF11 => ?_)
        obtain ⟨hs12, hq12⟩ := hF11
        refine tz_riret C_ hr_ hk_ hQ_ rfl td_M_copy_45 ?_
        have k13 : f11 (M + 1) = some (tz_ints cs 532 nw) := ((hq12 _ (by omega)).trans hM.2.1)
        have k14 : f11 (M + 2) = some (tz_ints cs 10640 pa) := ((hq12 _ (by omega)).trans hM.2.2.1)
        have k15 : f11 (M + 3) = some (tz_ints cs 4 bi) := ((hq12 _ (by omega)).trans hM.2.2.2.1)
        have k16 : f11 (M + 4) = some (tz_ints cs 4 nu) := ((hq12 _ (by omega)).trans hM.2.2.2.2.1)
        have k17 : f11 (M + 5) = some (tz_ints cs 480 sh) := ((hq12 _ (by omega)).trans hM.2.2.2.2.2.1)
        have k18 : f11 (M + 6) = some (tz_ints cs 120 ro) := ((hq12 _ (by omega)).trans hM.2.2.2.2.2.2.1)
        have k19 : f11 (M + 7) = some (tz_ints cs 120 ma) := ((hq12 _ (by omega)).trans hM.2.2.2.2.2.2.2.1)
        have k20 : f11 (M + 8) = some (tz_ints cs 120 ca) := ((hq12 _ (by omega)).trans hM.2.2.2.2.2.2.2.2)
        have e9 : sp_copy σ (nI a) i (nI b) j n = (-100002, tz_fnd σ) := by simp only [sp_copy, hpk4, hpk11]; rw [if_pos (Or.inl ((hQ a ha).1.symm.trans h27)), tz_an_f (by decide)]
        rw [e9]
        exact ⟨rfl, ⟨_, _, _, _, _, _, _, _, _, _, _, ⟨hs12, k13, k14, k15, k16, k17, k18, k19, k20⟩, hE, hH, hQ⟩, (fun q hh => by rw [hq12 q (by omega)])⟩
      · skip
        refine tz_aload_n C_ 0 rfl rfl td_M_copy_30 ?_
        refine tz_get C_ tci_M 4 (by decide) tw_757 hM.1 rfl td_M_copy_31 ?_
        refine tz_iload_n C_ 3 rfl rfl td_M_copy_34 ?_
        refine tz_ialdN C_ hM.2.2.2.1 (by omega) (by decide) td_M_copy_35 ?_
        refine tz_if_ne C_ td_M_copy_36 (fun h36 => ?_) (fun h36 => ?_)
        · skip
          refine tz_aload_n C_ 0 rfl rfl td_M_copy_46 ?_
          refine tz_get C_ tci_M 4 (by decide) tw_757 hM.1 rfl td_M_copy_47 ?_
          refine tz_iload_n C_ 1 rfl rfl td_M_copy_50 ?_
          refine tz_ialdN C_ hM.2.2.2.1 (by omega) (by decide) td_M_copy_51 ?_
          refine tz_aload_n C_ 0 rfl rfl td_M_copy_52 ?_
          refine tz_get C_ tci_M 4 (by decide) tw_757 hM.1 rfl td_M_copy_53 ?_
          refine tz_iload_n C_ 3 rfl rfl td_M_copy_56 ?_
          refine tz_ialdN C_ hM.2.2.2.1 (by omega) (by decide) td_M_copy_57 ?_
          refine tz_icmp_eq C_ td_M_copy_58 (fun h58 => ?_) (fun h58 => ?_)
          · skip
            have hsa := (hW.2.2 a ha).1
            have hsb := (hW.2.2 b hb).1
            refine tz_iload_n C_ 2 rfl rfl td_M_copy_68 ?_
            refine tz_if_lt C_ td_M_copy_69 (fun h69 => ?_) (fun h69 => ?_)
            · skip
              refine tz_aload_n C_ 0 rfl rfl td_M_copy_117 ?_
              refine tz_ldc C_ tw_812 td_M_copy_118 ?_
              refine tz_cV C_ tmi_M_finding tw_800 tw_14 tw_798 hM.1 rfl (As := [.int (-100001)]) (by exact (ct_M_finding (v := -100001) hM.1)) rfl (rest := []) rfl (by decide) (Nat.le_of_ble_eq_true rfl) td_M_copy_120 (st1 := [.int (-100001)]) rfl (fun f21 hF21 => ?_)
              obtain ⟨hs22, hq22⟩ := hF21
              refine tz_riret C_ hr_ hk_ hQ_ rfl td_M_copy_123 ?_
              have k23 : f21 (M + 1) = some (tz_ints cs 532 nw) := ((hq22 _ (by omega)).trans hM.2.1)
              have k24 : f21 (M + 2) = some (tz_ints cs 10640 pa) := ((hq22 _ (by omega)).trans hM.2.2.1)
              have k25 : f21 (M + 3) = some (tz_ints cs 4 bi) := ((hq22 _ (by omega)).trans hM.2.2.2.1)
              have k26 : f21 (M + 4) = some (tz_ints cs 4 nu) := ((hq22 _ (by omega)).trans hM.2.2.2.2.1)
              have k27 : f21 (M + 5) = some (tz_ints cs 480 sh) := ((hq22 _ (by omega)).trans hM.2.2.2.2.2.1)
              have k28 : f21 (M + 6) = some (tz_ints cs 120 ro) := ((hq22 _ (by omega)).trans hM.2.2.2.2.2.2.1)
              have k29 : f21 (M + 7) = some (tz_ints cs 120 ma) := ((hq22 _ (by omega)).trans hM.2.2.2.2.2.2.2.1)
              have k30 : f21 (M + 8) = some (tz_ints cs 120 ca) := ((hq22 _ (by omega)).trans hM.2.2.2.2.2.2.2.2)
              have e9 : sp_copy σ (nI a) i (nI b) j n = (-100001, tz_fnd σ) := by simp only [sp_copy, hpk4, hpk11]; rw [if_neg (fun e => e.elim (fun e => h27 ((hQ a ha).1.trans e)) (fun e => h36 ((hQ b hb).1.trans e))), if_neg (fun e => e ((hQ a ha).1.symm.trans (h58.trans (hQ b hb).1))), if_neg (fun z => tz_le_nlt z.1.1 h69), tz_an_f (by decide)]
              rw [e9]
              exact ⟨rfl, ⟨_, _, _, _, _, _, _, _, _, _, _, ⟨hs22, k23, k24, k25, k26, k27, k28, k29, k30⟩, hE, hH, hQ⟩, (fun q hh => by rw [hq22 q (by omega)])⟩
            · skip
              refine tz_iload C_ 4 rfl td_M_copy_72 ?_
              refine tz_if_lt C_ td_M_copy_74 (fun h74 => ?_) (fun h74 => ?_)
              · skip
                refine tz_aload_n C_ 0 rfl rfl td_M_copy_117 ?_
                refine tz_ldc C_ tw_812 td_M_copy_118 ?_
                refine tz_cV C_ tmi_M_finding tw_800 tw_14 tw_798 hM.1 rfl (As := [.int (-100001)]) (by exact (ct_M_finding (v := -100001) hM.1)) rfl (rest := []) rfl (by decide) (Nat.le_of_ble_eq_true rfl) td_M_copy_120 (st1 := [.int (-100001)]) rfl (fun f31 hF31 => ?_)
                obtain ⟨hs32, hq32⟩ := hF31
                refine tz_riret C_ hr_ hk_ hQ_ rfl td_M_copy_123 ?_
                have k33 : f31 (M + 1) = some (tz_ints cs 532 nw) := ((hq32 _ (by omega)).trans hM.2.1)
                have k34 : f31 (M + 2) = some (tz_ints cs 10640 pa) := ((hq32 _ (by omega)).trans hM.2.2.1)
                have k35 : f31 (M + 3) = some (tz_ints cs 4 bi) := ((hq32 _ (by omega)).trans hM.2.2.2.1)
                have k36 : f31 (M + 4) = some (tz_ints cs 4 nu) := ((hq32 _ (by omega)).trans hM.2.2.2.2.1)
                have k37 : f31 (M + 5) = some (tz_ints cs 480 sh) := ((hq32 _ (by omega)).trans hM.2.2.2.2.2.1)
                have k38 : f31 (M + 6) = some (tz_ints cs 120 ro) := ((hq32 _ (by omega)).trans hM.2.2.2.2.2.2.1)
                have k39 : f31 (M + 7) = some (tz_ints cs 120 ma) := ((hq32 _ (by omega)).trans hM.2.2.2.2.2.2.2.1)
                have k40 : f31 (M + 8) = some (tz_ints cs 120 ca) := ((hq32 _ (by omega)).trans hM.2.2.2.2.2.2.2.2)
                have e9 : sp_copy σ (nI a) i (nI b) j n = (-100001, tz_fnd σ) := by simp only [sp_copy, hpk4, hpk11]; rw [if_neg (fun e => e.elim (fun e => h27 ((hQ a ha).1.trans e)) (fun e => h36 ((hQ b hb).1.trans e))), if_neg (fun e => e ((hQ a ha).1.symm.trans (h58.trans (hQ b hb).1))), if_neg (fun z => tz_le_nlt z.2.1 h74), tz_an_f (by decide)]
                rw [e9]
                exact ⟨rfl, ⟨_, _, _, _, _, _, _, _, _, _, _, ⟨hs32, k33, k34, k35, k36, k37, k38, k39, k40⟩, hE, hH, hQ⟩, (fun q hh => by rw [hq32 q (by omega)])⟩
              · skip
                refine tz_iload C_ 5 rfl td_M_copy_77 ?_
                refine tz_if_lt C_ td_M_copy_79 (fun h79 => ?_) (fun h79 => ?_)
                · skip
                  refine tz_aload_n C_ 0 rfl rfl td_M_copy_117 ?_
                  refine tz_ldc C_ tw_812 td_M_copy_118 ?_
                  refine tz_cV C_ tmi_M_finding tw_800 tw_14 tw_798 hM.1 rfl (As := [.int (-100001)]) (by exact (ct_M_finding (v := -100001) hM.1)) rfl (rest := []) rfl (by decide) (Nat.le_of_ble_eq_true rfl) td_M_copy_120 (st1 := [.int (-100001)]) rfl (fun f41 hF41 => ?_)
                  obtain ⟨hs42, hq42⟩ := hF41
                  refine tz_riret C_ hr_ hk_ hQ_ rfl td_M_copy_123 ?_
                  have k43 : f41 (M + 1) = some (tz_ints cs 532 nw) := ((hq42 _ (by omega)).trans hM.2.1)
                  have k44 : f41 (M + 2) = some (tz_ints cs 10640 pa) := ((hq42 _ (by omega)).trans hM.2.2.1)
                  have k45 : f41 (M + 3) = some (tz_ints cs 4 bi) := ((hq42 _ (by omega)).trans hM.2.2.2.1)
                  have k46 : f41 (M + 4) = some (tz_ints cs 4 nu) := ((hq42 _ (by omega)).trans hM.2.2.2.2.1)
                  have k47 : f41 (M + 5) = some (tz_ints cs 480 sh) := ((hq42 _ (by omega)).trans hM.2.2.2.2.2.1)
                  have k48 : f41 (M + 6) = some (tz_ints cs 120 ro) := ((hq42 _ (by omega)).trans hM.2.2.2.2.2.2.1)
                  have k49 : f41 (M + 7) = some (tz_ints cs 120 ma) := ((hq42 _ (by omega)).trans hM.2.2.2.2.2.2.2.1)
                  have k50 : f41 (M + 8) = some (tz_ints cs 120 ca) := ((hq42 _ (by omega)).trans hM.2.2.2.2.2.2.2.2)
                  have e9 : sp_copy σ (nI a) i (nI b) j n = (-100001, tz_fnd σ) := by simp only [sp_copy, hpk4, hpk11]; rw [if_neg (fun e => e.elim (fun e => h27 ((hQ a ha).1.trans e)) (fun e => h36 ((hQ b hb).1.trans e))), if_neg (fun e => e ((hQ a ha).1.symm.trans (h58.trans (hQ b hb).1))), if_neg (fun z => tz_le_nlt z.1.2.1 h79), tz_an_f (by decide)]
                  rw [e9]
                  exact ⟨rfl, ⟨_, _, _, _, _, _, _, _, _, _, _, ⟨hs42, k43, k44, k45, k46, k47, k48, k49, k50⟩, hE, hH, hQ⟩, (fun q hh => by rw [hq42 q (by omega)])⟩
                · skip
                  refine tz_iload_n C_ 2 rfl rfl td_M_copy_82 ?_
                  refine tz_i2l C_ td_M_copy_83 ?_
                  refine tz_iload C_ 5 rfl td_M_copy_84 ?_
                  refine tz_i2l C_ td_M_copy_86 ?_
                  refine tz_ladd C_ td_M_copy_87 ?_
                  refine tz_aload_n C_ 0 rfl rfl td_M_copy_88 ?_
                  refine tz_get C_ tci_M 5 (by decide) tw_758 hM.1 rfl td_M_copy_89 ?_
                  refine tz_iload_n C_ 1 rfl rfl td_M_copy_92 ?_
                  refine tz_ialdN C_ hM.2.2.2.2.1 (by omega) (by decide) td_M_copy_93 ?_
                  refine tz_i2l C_ td_M_copy_94 ?_
                  refine tz_lcmp C_ td_M_copy_95 ?_
                  refine tz_if_gt C_ td_M_copy_96 (fun h96 => ?_) (fun h96 => ?_)
                  · skip
                    rw [(hQ a ha).2.1] at h96
                    refine tz_aload_n C_ 0 rfl rfl td_M_copy_117 ?_
                    refine tz_ldc C_ tw_812 td_M_copy_118 ?_
                    refine tz_cV C_ tmi_M_finding tw_800 tw_14 tw_798 hM.1 rfl (As := [.int (-100001)]) (by exact (ct_M_finding (v := -100001) hM.1)) rfl (rest := []) rfl (by decide) (Nat.le_of_ble_eq_true rfl) td_M_copy_120 (st1 := [.int (-100001)]) rfl (fun f51 hF51 => ?_)
                    obtain ⟨hs52, hq52⟩ := hF51
                    refine tz_riret C_ hr_ hk_ hQ_ rfl td_M_copy_123 ?_
                    have k53 : f51 (M + 1) = some (tz_ints cs 532 nw) := ((hq52 _ (by omega)).trans hM.2.1)
                    have k54 : f51 (M + 2) = some (tz_ints cs 10640 pa) := ((hq52 _ (by omega)).trans hM.2.2.1)
                    have k55 : f51 (M + 3) = some (tz_ints cs 4 bi) := ((hq52 _ (by omega)).trans hM.2.2.2.1)
                    have k56 : f51 (M + 4) = some (tz_ints cs 4 nu) := ((hq52 _ (by omega)).trans hM.2.2.2.2.1)
                    have k57 : f51 (M + 5) = some (tz_ints cs 480 sh) := ((hq52 _ (by omega)).trans hM.2.2.2.2.2.1)
                    have k58 : f51 (M + 6) = some (tz_ints cs 120 ro) := ((hq52 _ (by omega)).trans hM.2.2.2.2.2.2.1)
                    have k59 : f51 (M + 7) = some (tz_ints cs 120 ma) := ((hq52 _ (by omega)).trans hM.2.2.2.2.2.2.2.1)
                    have k60 : f51 (M + 8) = some (tz_ints cs 120 ca) := ((hq52 _ (by omega)).trans hM.2.2.2.2.2.2.2.2)
                    have e9 : sp_copy σ (nI a) i (nI b) j n = (-100001, tz_fnd σ) := by simp only [sp_copy, hpk4, hpk11]; rw [if_neg (fun e => e.elim (fun e => h27 ((hQ a ha).1.trans e)) (fun e => h36 ((hQ b hb).1.trans e))), if_neg (fun e => e ((hQ a ha).1.symm.trans (h58.trans (hQ b hb).1))), if_neg (fun z => Int32.not_lt.mpr ((tz_hld_l hsa h69 h79).mpr z.1) h96), tz_an_f (by decide)]
                    rw [e9]
                    exact ⟨rfl, ⟨_, _, _, _, _, _, _, _, _, _, _, ⟨hs52, k53, k54, k55, k56, k57, k58, k59, k60⟩, hE, hH, hQ⟩, (fun q hh => by rw [hq52 q (by omega)])⟩
                  · skip
                    rw [(hQ a ha).2.1] at h96
                    refine tz_iload C_ 4 rfl td_M_copy_99 ?_
                    refine tz_i2l C_ td_M_copy_101 ?_
                    refine tz_iload C_ 5 rfl td_M_copy_102 ?_
                    refine tz_i2l C_ td_M_copy_104 ?_
                    refine tz_ladd C_ td_M_copy_105 ?_
                    refine tz_aload_n C_ 0 rfl rfl td_M_copy_106 ?_
                    refine tz_get C_ tci_M 5 (by decide) tw_758 hM.1 rfl td_M_copy_107 ?_
                    refine tz_iload_n C_ 3 rfl rfl td_M_copy_110 ?_
                    refine tz_ialdN C_ hM.2.2.2.2.1 (by omega) (by decide) td_M_copy_111 ?_
                    refine tz_i2l C_ td_M_copy_112 ?_
                    refine tz_lcmp C_ td_M_copy_113 ?_
                    refine tz_if_le C_ td_M_copy_114 (fun h114 => ?_) (fun h114 => ?_)
                    · skip
                      rw [(hQ b hb).2.1] at h114
                      have hh1 := (tz_hld_l hsa h69 h79).mp (Int32.not_lt.mp h96)
                      have hh2 := (tz_hld_l hsb h74 h79).mp h114
                      have hh3 := hh1
                      have hh4 := hh2
                      obtain ⟨i9, k9, ei9, ek9, hi9⟩ := tz_hld_N hsa hh3
                      subst ei9
                      subst ek9
                      obtain ⟨j9, k8, ej9, ek8, hj9⟩ := tz_hld_N hsb hh4
                      subst ej9
                      have ek7 : k9 = k8 := (nI_eq (by omega) (by omega)).mp ek8
                      subst ek7
                      refine tz_iconst C_ (v := 0) (by decide) td_M_copy_124 ?_
                      refine tz_istore C_ (lv' := [(0, .ref M), (1, .int (nI a)), (2, .int (nI i9)), (3, .int (nI b)), (4, .int (nI j9)), (5, .int (nI k9)), (6, .int 0)]) [1, 2, 3, 4, 5, 6, 0] (by decide) rfl td_M_copy_125 ?_
                      have loop127 : ∀ (kk127 : Nat) (i1 : Nat) (fL : tz_PH), (tz_MB cs fL M σ.2.1 σ.2.2.2 ms ns tg nw pa bi nu sh ro ma ((tz_fl (fun q => sh (120 * a + i9 + q)) ca i1))) → (∀ q, (q < M ∨ M + 9 ≤ q) → fL q = f q) → (i1 ≤ k9) → (k9 - i1) < kk127 → tz_V p_ l e_ rm_M_copy s_ m_ ar_ be_ me_ c_ Q_ A D 7 fL sz 0 0 127 [(0, .ref M), (1, .int (nI a)), (2, .int (nI i9)), (3, .int (nI b)), (4, .int (nI j9)), (5, .int (nI k9)), (6, .int (nI i1))] [] := by
                        intro kk127
                        induction kk127 with
                        | zero => intro i1 fL hM1 hfr hi1 hm127; omega
                        | succ kk127 ih127 =>
                          intro i1 fL hM1 hfr hi1 hm127
                          refine tz_iload C_ 6 rfl td_M_copy_127 ?_
                          refine tz_iload C_ 5 rfl td_M_copy_129 ?_
                          refine tz_icmp_ge C_ td_M_copy_131 (fun h131 => ?_) (fun h131 => ?_)
                          · skip
                            replace h131 := (nI_leI (a := k9) (b := i1) (by omega) (by omega)).mp h131
                            refine tz_iconst C_ (v := 0) (by decide) td_M_copy_161 ?_
                            refine tz_istore C_ (lv' := [(0, .ref M), (1, .int (nI a)), (2, .int (nI i9)), (3, .int (nI b)), (4, .int (nI j9)), (5, .int (nI k9)), (6, .int 0)]) [1, 2, 3, 4, 5, 6, 0] (by decide) rfl td_M_copy_162 ?_
                            have loop164 : ∀ (kk164 : Nat) (i2 : Nat) (fL2 : tz_PH), (tz_MB cs fL2 M σ.2.1 σ.2.2.2 ms ns tg nw pa bi nu ((tz_cpf (tz_fl (fun q => sh (120 * a + i9 + q)) ca k9) sh (120 * b + j9) i2)) ro ma ((tz_fl (fun q => sh (120 * a + i9 + q)) ca k9))) → (∀ q, (q < M ∨ M + 9 ≤ q) → fL2 q = f q) → (i2 ≤ k9) → (k9 - i2) < kk164 → tz_V p_ l e_ rm_M_copy s_ m_ ar_ be_ me_ c_ Q_ A D 7 fL2 sz 0 0 164 [(0, .ref M), (1, .int (nI a)), (2, .int (nI i9)), (3, .int (nI b)), (4, .int (nI j9)), (5, .int (nI k9)), (6, .int (nI i2))] [] := by
                              intro kk164
                              induction kk164 with
                              | zero => intro i2 fL2 hM2 hfr hi2 hm164; omega
                              | succ kk164 ih164 =>
                                intro i2 fL2 hM2 hfr hi2 hm164
                                refine tz_iload C_ 6 rfl td_M_copy_164 ?_
                                refine tz_iload C_ 5 rfl td_M_copy_166 ?_
                                refine tz_icmp_ge C_ td_M_copy_168 (fun h168 => ?_) (fun h168 => ?_)
                                · skip
                                  replace h168 := (nI_leI (a := k9) (b := i2) (by omega) (by omega)).mp h168
                                  refine tz_iload C_ 5 rfl td_M_copy_199 ?_
                                  refine tz_riret C_ hr_ hk_ hQ_ rfl td_M_copy_201 ?_
                                  have e9 : sp_copy σ (nI a) (nI i9) (nI b) (nI j9) (nI k9) = (nI k9, tz_ss σ b (tz_sb σ b, tz_sn σ b, va_cpy (tz_sv σ a) (tz_sv σ b) i9 j9 k9)) := by simp only [sp_copy, hpk4, hpk11]; rw [if_neg (fun e => e.elim (fun e => h27 ((hQ a ha).1.trans e)) (fun e => h36 ((hQ b hb).1.trans e))), if_neg (fun e => e ((hQ a ha).1.symm.trans (h58.trans (hQ b hb).1))), if_pos ⟨hh1, hh2⟩, nI_clamp (by omega), nI_clamp (by omega), nI_clamp (by omega)]
                                  rw [e9]
                                  exact ⟨rfl, ⟨_, _, _, _, _, _, _, _, _, _, _, ⟨hM2.1, hM2.2.1, hM2.2.2.1, hM2.2.2.2.1, hM2.2.2.2.2.1, hM2.2.2.2.2.2.1, hM2.2.2.2.2.2.2.1, hM2.2.2.2.2.2.2.2.1, hM2.2.2.2.2.2.2.2.2⟩, hE, hH, (by have e8 : i2 = k9 := (by omega); rw [e8]; exact tz_enQ_cp hQ (fun s h => (hW.2.2 s h).1) ha hb hi9 hj9)⟩, (fun q hh => by rw [hfr q (by omega)])⟩
                                · skip
                                  replace h168 := mt (nI_leI (a := k9) (b := i2) (by omega) (by omega)).mpr h168
                                  refine tz_aload_n C_ 0 rfl rfl td_M_copy_171 ?_
                                  refine tz_get C_ tci_M 6 (by decide) tw_759 hM2.1 rfl td_M_copy_172 ?_
                                  refine tz_bipush C_ (v := 120) (by decide) td_M_copy_175 ?_
                                  refine tz_iload_n C_ 3 rfl rfl td_M_copy_177 ?_
                                  refine tz_imul C_ td_M_copy_178 ?_
                                  rw [show (120 * (nI b) : Int32) = nI (120 * b) from pk_mul (120) (b)]
                                  refine tz_iload C_ 4 rfl td_M_copy_179 ?_
                                  refine tz_iadd C_ td_M_copy_181 ?_
                                  rw [show ((nI (120 * b)) + (nI j9) : Int32) = nI (120 * b + j9) from nI_add (120 * b) (j9)]
                                  refine tz_iload C_ 6 rfl td_M_copy_182 ?_
                                  refine tz_iadd C_ td_M_copy_184 ?_
                                  rw [show ((nI (120 * b + j9)) + (nI i2) : Int32) = nI (120 * b + j9 + i2) from nI_add (120 * b + j9) (i2)]
                                  refine tz_aload_n C_ 0 rfl rfl td_M_copy_185 ?_
                                  refine tz_get C_ tci_M 11 (by decide) tw_764 hM2.1 rfl td_M_copy_186 ?_
                                  refine tz_iload C_ 6 rfl td_M_copy_189 ?_
                                  refine tz_ialdN C_ hM2.2.2.2.2.2.2.2.2 (by omega) (by decide) td_M_copy_191 ?_
                                  refine tz_wiastN C_ hM2.2.2.2.2.2.1 (by omega) (by decide) (g' := upd ((tz_cpf (tz_fl (fun q => sh (120 * a + i9 + q)) ca k9) sh (120 * b + j9) i2)) ((120 * b + j9 + i2)) (((tz_fl (fun q => sh (120 * a + i9 + q)) ca k9)) i2)) rfl td_M_copy_192 (fun f61 hs61 hq61 => ?_)
                                  refine tz_iinc C_ (k := 1) (v := nI (i2 + 1)) (lv' := [(0, .ref M), (1, .int (nI a)), (2, .int (nI i9)), (3, .int (nI b)), (4, .int (nI j9)), (5, .int (nI k9)), (6, .int (nI (i2 + 1)))]) 6 rfl (nI_1 i2) [1, 2, 3, 4, 5, 6, 0] (by decide) rfl td_M_copy_193 ?_
                                  refine tz_goto C_ td_M_copy_196 ?_
                                  have k62 : f61 M = some (tz_obj 11 [.ref (M + 1), .ref (M + 2), .int (nI σ.2.1), .int σ.2.2.2, .ref (M + 3), .ref (M + 4), .ref (M + 5), .int ms, .ref (M + 6), .int ns, .ref (M + 7), .ref (M + 8), .int tg]) := ((hq61 _ (by omega)).trans hM2.1)
                                  have k63 : f61 (M + 1) = some (tz_ints cs 532 nw) := ((hq61 _ (by omega)).trans hM2.2.1)
                                  have k64 : f61 (M + 2) = some (tz_ints cs 10640 pa) := ((hq61 _ (by omega)).trans hM2.2.2.1)
                                  have k65 : f61 (M + 3) = some (tz_ints cs 4 bi) := ((hq61 _ (by omega)).trans hM2.2.2.2.1)
                                  have k66 : f61 (M + 4) = some (tz_ints cs 4 nu) := ((hq61 _ (by omega)).trans hM2.2.2.2.2.1)
                                  have k67 : f61 (M + 6) = some (tz_ints cs 120 ro) := ((hq61 _ (by omega)).trans hM2.2.2.2.2.2.2.1)
                                  have k68 : f61 (M + 7) = some (tz_ints cs 120 ma) := ((hq61 _ (by omega)).trans hM2.2.2.2.2.2.2.2.1)
                                  have k69 : f61 (M + 8) = some (tz_ints cs 120 ((tz_fl (fun q => sh (120 * a + i9 + q)) ca k9))) := ((hq61 _ (by omega)).trans hM2.2.2.2.2.2.2.2.2)
                                  exact ih164 (i2 + 1) f61 (⟨k62, k63, k64, k65, k66, tz_cpr hs61 rfl, k67, k68, k69⟩) (fun q hh => by rw [hq61 q (by omega), hfr q (by omega)]) (by omega) (by omega)
                            exact loop164 _ 0 fL (⟨hM1.1, hM1.2.1, hM1.2.2.1, hM1.2.2.2.1, hM1.2.2.2.2.1, by rw [tz_cpf_0]; exact hM1.2.2.2.2.2.1, hM1.2.2.2.2.2.2.1, hM1.2.2.2.2.2.2.2.1, by rw [← show i1 = k9 by omega]; exact hM1.2.2.2.2.2.2.2.2⟩) (fun q hh => by rw [hfr q (by omega)]) (Nat.zero_le _) (Nat.lt_succ_self _)
                          · skip
                            replace h131 := mt (nI_leI (a := k9) (b := i1) (by omega) (by omega)).mpr h131
                            refine tz_aload_n C_ 0 rfl rfl td_M_copy_134 ?_
                            refine tz_get C_ tci_M 11 (by decide) tw_764 hM1.1 rfl td_M_copy_135 ?_
                            refine tz_iload C_ 6 rfl td_M_copy_138 ?_
                            refine tz_aload_n C_ 0 rfl rfl td_M_copy_140 ?_
                            refine tz_get C_ tci_M 6 (by decide) tw_759 hM1.1 rfl td_M_copy_141 ?_
                            refine tz_bipush C_ (v := 120) (by decide) td_M_copy_144 ?_
                            refine tz_iload_n C_ 1 rfl rfl td_M_copy_146 ?_
                            refine tz_imul C_ td_M_copy_147 ?_
                            rw [show (120 * (nI a) : Int32) = nI (120 * a) from pk_mul (120) (a)]
                            refine tz_iload_n C_ 2 rfl rfl td_M_copy_148 ?_
                            refine tz_iadd C_ td_M_copy_149 ?_
                            rw [show ((nI (120 * a)) + (nI i9) : Int32) = nI (120 * a + i9) from nI_add (120 * a) (i9)]
                            refine tz_iload C_ 6 rfl td_M_copy_150 ?_
                            refine tz_iadd C_ td_M_copy_152 ?_
                            rw [show ((nI (120 * a + i9)) + (nI i1) : Int32) = nI (120 * a + i9 + i1) from nI_add (120 * a + i9) (i1)]
                            refine tz_ialdN C_ hM1.2.2.2.2.2.1 (by omega) (by decide) td_M_copy_153 ?_
                            refine tz_wiastN C_ hM1.2.2.2.2.2.2.2.2 (by omega) (by decide) (g' := upd ((tz_fl (fun q => sh (120 * a + i9 + q)) ca i1)) i1 (sh ((120 * a + i9 + i1)))) rfl td_M_copy_154 (fun f70 hs70 hq70 => ?_)
                            refine tz_iinc C_ (k := 1) (v := nI (i1 + 1)) (lv' := [(0, .ref M), (1, .int (nI a)), (2, .int (nI i9)), (3, .int (nI b)), (4, .int (nI j9)), (5, .int (nI k9)), (6, .int (nI (i1 + 1)))]) 6 rfl (nI_1 i1) [1, 2, 3, 4, 5, 6, 0] (by decide) rfl td_M_copy_155 ?_
                            refine tz_goto C_ td_M_copy_158 ?_
                            have k71 : f70 M = some (tz_obj 11 [.ref (M + 1), .ref (M + 2), .int (nI σ.2.1), .int σ.2.2.2, .ref (M + 3), .ref (M + 4), .ref (M + 5), .int ms, .ref (M + 6), .int ns, .ref (M + 7), .ref (M + 8), .int tg]) := ((hq70 _ (by omega)).trans hM1.1)
                            have k72 : f70 (M + 1) = some (tz_ints cs 532 nw) := ((hq70 _ (by omega)).trans hM1.2.1)
                            have k73 : f70 (M + 2) = some (tz_ints cs 10640 pa) := ((hq70 _ (by omega)).trans hM1.2.2.1)
                            have k74 : f70 (M + 3) = some (tz_ints cs 4 bi) := ((hq70 _ (by omega)).trans hM1.2.2.2.1)
                            have k75 : f70 (M + 4) = some (tz_ints cs 4 nu) := ((hq70 _ (by omega)).trans hM1.2.2.2.2.1)
                            have k76 : f70 (M + 5) = some (tz_ints cs 480 sh) := ((hq70 _ (by omega)).trans hM1.2.2.2.2.2.1)
                            have k77 : f70 (M + 6) = some (tz_ints cs 120 ro) := ((hq70 _ (by omega)).trans hM1.2.2.2.2.2.2.1)
                            have k78 : f70 (M + 7) = some (tz_ints cs 120 ma) := ((hq70 _ (by omega)).trans hM1.2.2.2.2.2.2.2.1)
                            exact ih127 (i1 + 1) f70 (⟨k71, k72, k73, k74, k75, k76, k77, k78, tz_flN hs70 rfl⟩) (fun q hh => by rw [hq70 q (by omega), hfr q (by omega)]) (by omega) (by omega)
                      exact loop127 _ 0 f (⟨hM.1, hM.2.1, hM.2.2.1, hM.2.2.2.1, hM.2.2.2.2.1, hM.2.2.2.2.2.1, hM.2.2.2.2.2.2.1, hM.2.2.2.2.2.2.2.1, by rw [tz_fl_0]; exact hM.2.2.2.2.2.2.2.2⟩) (fun q hh => rfl) (Nat.zero_le _) (Nat.lt_succ_self _)
                    · skip
                      rw [(hQ b hb).2.1] at h114
                      refine tz_aload_n C_ 0 rfl rfl td_M_copy_117 ?_
                      refine tz_ldc C_ tw_812 td_M_copy_118 ?_
                      refine tz_cV C_ tmi_M_finding tw_800 tw_14 tw_798 hM.1 rfl (As := [.int (-100001)]) (by exact (ct_M_finding (v := -100001) hM.1)) rfl (rest := []) rfl (by decide) (Nat.le_of_ble_eq_true rfl) td_M_copy_120 (st1 := [.int (-100001)]) rfl (fun f79 hF79 => ?_)
                      obtain ⟨hs80, hq80⟩ := hF79
                      refine tz_riret C_ hr_ hk_ hQ_ rfl td_M_copy_123 ?_
                      have k81 : f79 (M + 1) = some (tz_ints cs 532 nw) := ((hq80 _ (by omega)).trans hM.2.1)
                      have k82 : f79 (M + 2) = some (tz_ints cs 10640 pa) := ((hq80 _ (by omega)).trans hM.2.2.1)
                      have k83 : f79 (M + 3) = some (tz_ints cs 4 bi) := ((hq80 _ (by omega)).trans hM.2.2.2.1)
                      have k84 : f79 (M + 4) = some (tz_ints cs 4 nu) := ((hq80 _ (by omega)).trans hM.2.2.2.2.1)
                      have k85 : f79 (M + 5) = some (tz_ints cs 480 sh) := ((hq80 _ (by omega)).trans hM.2.2.2.2.2.1)
                      have k86 : f79 (M + 6) = some (tz_ints cs 120 ro) := ((hq80 _ (by omega)).trans hM.2.2.2.2.2.2.1)
                      have k87 : f79 (M + 7) = some (tz_ints cs 120 ma) := ((hq80 _ (by omega)).trans hM.2.2.2.2.2.2.2.1)
                      have k88 : f79 (M + 8) = some (tz_ints cs 120 ca) := ((hq80 _ (by omega)).trans hM.2.2.2.2.2.2.2.2)
                      have e9 : sp_copy σ (nI a) i (nI b) j n = (-100001, tz_fnd σ) := by simp only [sp_copy, hpk4, hpk11]; rw [if_neg (fun e => e.elim (fun e => h27 ((hQ a ha).1.trans e)) (fun e => h36 ((hQ b hb).1.trans e))), if_neg (fun e => e ((hQ a ha).1.symm.trans (h58.trans (hQ b hb).1))), if_neg (fun z => h114 ((tz_hld_l hsb h74 h79).mpr z.2)), tz_an_f (by decide)]
                      rw [e9]
                      exact ⟨rfl, ⟨_, _, _, _, _, _, _, _, _, _, _, ⟨hs80, k81, k82, k83, k84, k85, k86, k87, k88⟩, hE, hH, hQ⟩, (fun q hh => by rw [hq80 q (by omega)])⟩
          · skip
            refine tz_aload_n C_ 0 rfl rfl td_M_copy_61 ?_
            refine tz_ldc C_ tw_891 td_M_copy_62 ?_
            refine tz_cV C_ tmi_M_finding tw_800 tw_14 tw_798 hM.1 rfl (As := [.int (-100004)]) (by exact (ct_M_finding (v := -100004) hM.1)) rfl (rest := []) rfl (by decide) (Nat.le_of_ble_eq_true rfl) td_M_copy_64 (st1 := [.int (-100004)]) rfl (fun f89 hF89 => ?_)
            obtain ⟨hs90, hq90⟩ := hF89
            refine tz_riret C_ hr_ hk_ hQ_ rfl td_M_copy_67 ?_
            have k91 : f89 (M + 1) = some (tz_ints cs 532 nw) := ((hq90 _ (by omega)).trans hM.2.1)
            have k92 : f89 (M + 2) = some (tz_ints cs 10640 pa) := ((hq90 _ (by omega)).trans hM.2.2.1)
            have k93 : f89 (M + 3) = some (tz_ints cs 4 bi) := ((hq90 _ (by omega)).trans hM.2.2.2.1)
            have k94 : f89 (M + 4) = some (tz_ints cs 4 nu) := ((hq90 _ (by omega)).trans hM.2.2.2.2.1)
            have k95 : f89 (M + 5) = some (tz_ints cs 480 sh) := ((hq90 _ (by omega)).trans hM.2.2.2.2.2.1)
            have k96 : f89 (M + 6) = some (tz_ints cs 120 ro) := ((hq90 _ (by omega)).trans hM.2.2.2.2.2.2.1)
            have k97 : f89 (M + 7) = some (tz_ints cs 120 ma) := ((hq90 _ (by omega)).trans hM.2.2.2.2.2.2.2.1)
            have k98 : f89 (M + 8) = some (tz_ints cs 120 ca) := ((hq90 _ (by omega)).trans hM.2.2.2.2.2.2.2.2)
            have e9 : sp_copy σ (nI a) i (nI b) j n = (-100004, tz_fnd σ) := by simp only [sp_copy, hpk4, hpk11]; rw [if_neg (fun e => e.elim (fun e => h27 ((hQ a ha).1.trans e)) (fun e => h36 ((hQ b hb).1.trans e))), if_pos (fun e => h58 ((hQ a ha).1.trans (e.trans (hQ b hb).1.symm))), tz_an_f (by decide)]
            rw [e9]
            exact ⟨rfl, ⟨_, _, _, _, _, _, _, _, _, _, _, ⟨hs90, k91, k92, k93, k94, k95, k96, k97, k98⟩, hE, hH, hQ⟩, (fun q hh => by rw [hq90 q (by omega)])⟩
        · skip
          refine tz_aload_n C_ 0 rfl rfl td_M_copy_39 ?_
          refine tz_ldc C_ tw_883 td_M_copy_40 ?_
          refine tz_cV C_ tmi_M_finding tw_800 tw_14 tw_798 hM.1 rfl (As := [.int (-100002)]) (by exact (ct_M_finding (v := -100002) hM.1)) rfl (rest := []) rfl (by decide) (Nat.le_of_ble_eq_true rfl) td_M_copy_42 (st1 := [.int (-100002)]) rfl (fun f99 hF99 => ?_)
          obtain ⟨hs100, hq100⟩ := hF99
          refine tz_riret C_ hr_ hk_ hQ_ rfl td_M_copy_45 ?_
          have k101 : f99 (M + 1) = some (tz_ints cs 532 nw) := ((hq100 _ (by omega)).trans hM.2.1)
          have k102 : f99 (M + 2) = some (tz_ints cs 10640 pa) := ((hq100 _ (by omega)).trans hM.2.2.1)
          have k103 : f99 (M + 3) = some (tz_ints cs 4 bi) := ((hq100 _ (by omega)).trans hM.2.2.2.1)
          have k104 : f99 (M + 4) = some (tz_ints cs 4 nu) := ((hq100 _ (by omega)).trans hM.2.2.2.2.1)
          have k105 : f99 (M + 5) = some (tz_ints cs 480 sh) := ((hq100 _ (by omega)).trans hM.2.2.2.2.2.1)
          have k106 : f99 (M + 6) = some (tz_ints cs 120 ro) := ((hq100 _ (by omega)).trans hM.2.2.2.2.2.2.1)
          have k107 : f99 (M + 7) = some (tz_ints cs 120 ma) := ((hq100 _ (by omega)).trans hM.2.2.2.2.2.2.2.1)
          have k108 : f99 (M + 8) = some (tz_ints cs 120 ca) := ((hq100 _ (by omega)).trans hM.2.2.2.2.2.2.2.2)
          have e9 : sp_copy σ (nI a) i (nI b) j n = (-100002, tz_fnd σ) := by simp only [sp_copy, hpk4, hpk11]; rw [if_pos (Or.inr ((hQ b hb).1.symm.trans h36)), tz_an_f (by decide)]
          rw [e9]
          exact ⟨rfl, ⟨_, _, _, _, _, _, _, _, _, _, _, ⟨hs100, k101, k102, k103, k104, k105, k106, k107, k108⟩, hE, hH, hQ⟩, (fun q hh => by rw [hq100 q (by omega)])⟩
    · skip
      replace h11 := tz_p0.mp h11
      have hpk11 := tz_pk_out h11
      refine tz_aload_n C_ 0 rfl rfl td_M_copy_14 ?_
      refine tz_ldc C_ tw_812 td_M_copy_15 ?_
      refine tz_cV C_ tmi_M_finding tw_800 tw_14 tw_798 hM.1 rfl (As := [.int (-100001)]) (by exact (ct_M_finding (v := -100001) hM.1)) rfl (rest := []) rfl (by decide) (Nat.le_of_ble_eq_true rfl) td_M_copy_17 (st1 := [.int (-100001)]) rfl (fun f109 hF109 => ?_)
      obtain ⟨hs110, hq110⟩ := hF109
      refine tz_riret C_ hr_ hk_ hQ_ rfl td_M_copy_20 ?_
      have k111 : f109 (M + 1) = some (tz_ints cs 532 nw) := ((hq110 _ (by omega)).trans hM.2.1)
      have k112 : f109 (M + 2) = some (tz_ints cs 10640 pa) := ((hq110 _ (by omega)).trans hM.2.2.1)
      have k113 : f109 (M + 3) = some (tz_ints cs 4 bi) := ((hq110 _ (by omega)).trans hM.2.2.2.1)
      have k114 : f109 (M + 4) = some (tz_ints cs 4 nu) := ((hq110 _ (by omega)).trans hM.2.2.2.2.1)
      have k115 : f109 (M + 5) = some (tz_ints cs 480 sh) := ((hq110 _ (by omega)).trans hM.2.2.2.2.2.1)
      have k116 : f109 (M + 6) = some (tz_ints cs 120 ro) := ((hq110 _ (by omega)).trans hM.2.2.2.2.2.2.1)
      have k117 : f109 (M + 7) = some (tz_ints cs 120 ma) := ((hq110 _ (by omega)).trans hM.2.2.2.2.2.2.2.1)
      have k118 : f109 (M + 8) = some (tz_ints cs 120 ca) := ((hq110 _ (by omega)).trans hM.2.2.2.2.2.2.2.2)
      have e9 : sp_copy σ (nI a) i y j n = (-100001, tz_fnd σ) := by simp only [sp_copy, hpk4, hpk11]; rw [tz_an_f (by decide)]
      rw [e9]
      exact ⟨rfl, ⟨_, _, _, _, _, _, _, _, _, _, _, ⟨hs110, k111, k112, k113, k114, k115, k116, k117, k118⟩, hE, hH, hQ⟩, (fun q hh => by rw [hq110 q (by omega)])⟩


theorem tz_smp_ok {b v : Int32} : tz_okv (tz_smp b v) := by
  unfold tz_smp
  split
  · rename_i h; exact Or.inr h.1
  · exact Or.inl rfl
theorem tz_lyA {b v : Int32} (h : ¬ (-10000 ≤ v ∧ v ≤ 10000) ∨ (b = 8 ∧ v = -128)) : (1000000 : Int32) = tz_mo (tz_smp b v) := by
  have e : tz_smp b v = tz_LO := by
    unfold tz_smp
    rw [if_neg (fun z => h.elim (fun a => a z.1) (fun a => z.2 a))]
  rw [e]; rfl
theorem tz_lyB {b v : Int32} (h : -10000 ≤ v ∧ v ≤ 10000) (h2 : ¬ (b = 8 ∧ v = -128)) : v = tz_mo (tz_smp b v) := by
  have e : tz_smp b v = v := by
    unfold tz_smp
    rw [if_pos ⟨h, h2⟩]
  rw [e, tz_mo_id (tz_ok_ne h)]

abbrev rm_M_lay : Room := { frames := 2, cells := 0, slots := 0, locals := 42 }
set_option maxHeartbeats 4000000 in
set_option maxRecDepth 100000 in
theorem ct_M_lay {l : Launch} {A : Nat → Prop} {D : va_G} {cs : Nat → ClassId} {sz : Nat} {f : tz_PH} {M : Nat} {σ : tz_SG} (hX : tz_AM cs f M σ) (hW : tz_WF σ) {p x : Int32} : tz_CN l tyM_lay prog_13_method_27_code 5 (some (.int)) rm_M_lay 0 0 A D cs sz [.ref M, .int p, .int x] f (some (.int (sp_lay σ p x).1)) (fun f' => tz_AM cs f' M (sp_lay σ p x).2 ∧ ∀ q, (q < M ∨ M + 9 ≤ q) → f' q = f q) := by
  refine tz_C.ofB (lv0 := [(0, .ref M), (1, .int p), (2, .int x)]) (plainFor_of_name (by decide)) (Nat.le_of_ble_eq_true rfl) rfl ?_
  intro p_ e_ s_ m_ ar_ be_ me_ c_ Q_ C_ hr_ hk_ hnm_ hz_ hQ_
  obtain ⟨ms, ns, tg, nw, pa, bi, nu, sh, ro, ma, ca, hM, hE, hH, hQ⟩ := hX
  have hWT := hW.cur
  have hkp : σ.2.1 ≤ 20 := hW.1
  have hl8 := hWT.2.1
  refine tz_iload_n C_ 1 rfl rfl td_M_lay_0 ?_
  refine tz_rS C_ tmi_M_isPass tw_807 tw_806 (As := [.int p]) (by exact ct_M_isPass) rfl (rest := []) rfl (by decide) (Nat.le_of_ble_eq_true rfl) td_M_lay_1 (st1 := [.int (tz_p (0 ≤ p ∧ p < 4))]) rfl ?_
  refine tz_if_eq C_ td_M_lay_4 (fun h4 => ?_) (fun h4 => ?_)
  · skip
    replace h4 := tz_p0.mp h4
    have hpk4 := tz_pk_out h4
    refine tz_aload_n C_ 0 rfl rfl td_M_lay_14 ?_
    refine tz_ldc C_ tw_812 td_M_lay_15 ?_
    refine tz_cV C_ tmi_M_finding tw_800 tw_14 tw_798 hM.1 rfl (As := [.int (-100001)]) (by exact (ct_M_finding (v := -100001) hM.1)) rfl (rest := []) rfl (by decide) (Nat.le_of_ble_eq_true rfl) td_M_lay_17 (st1 := [.int (-100001)]) rfl (fun f1 hF1 => ?_)
    obtain ⟨hs2, hq2⟩ := hF1
    refine tz_riret C_ hr_ hk_ hQ_ rfl td_M_lay_20 ?_
    have k3 : f1 (M + 1) = some (tz_ints cs 532 nw) := ((hq2 _ (by omega)).trans hM.2.1)
    have k4 : f1 (M + 2) = some (tz_ints cs 10640 pa) := ((hq2 _ (by omega)).trans hM.2.2.1)
    have k5 : f1 (M + 3) = some (tz_ints cs 4 bi) := ((hq2 _ (by omega)).trans hM.2.2.2.1)
    have k6 : f1 (M + 4) = some (tz_ints cs 4 nu) := ((hq2 _ (by omega)).trans hM.2.2.2.2.1)
    have k7 : f1 (M + 5) = some (tz_ints cs 480 sh) := ((hq2 _ (by omega)).trans hM.2.2.2.2.2.1)
    have k8 : f1 (M + 6) = some (tz_ints cs 120 ro) := ((hq2 _ (by omega)).trans hM.2.2.2.2.2.2.1)
    have k9 : f1 (M + 7) = some (tz_ints cs 120 ma) := ((hq2 _ (by omega)).trans hM.2.2.2.2.2.2.2.1)
    have k10 : f1 (M + 8) = some (tz_ints cs 120 ca) := ((hq2 _ (by omega)).trans hM.2.2.2.2.2.2.2.2)
    have e9 : sp_lay σ p x = (-100001, tz_fnd σ) := by simp only [sp_lay, hpk4]; rw [tz_an_f (by decide)]
    rw [e9]
    exact ⟨rfl, ⟨_, _, _, _, _, _, _, _, _, _, _, ⟨hs2, k3, k4, k5, k6, k7, k8, k9, k10⟩, hE, hH, hQ⟩, (fun q hh => by rw [hq2 q (by omega)])⟩
  · skip
    replace h4 := tz_p1.mp h4
    obtain ⟨k, hk, ek⟩ := tz_pk_in h4
    subst ek
    have hpk4 := tz_pk_N hk
    have hnk : tz_ln σ k ≤ 120 := (hWT.1 k hk).1
    have hNk : ((tz_cur σ).1 k).1 ≤ 120 := (hWT.1 k hk).1
    refine tz_iload_n C_ 2 rfl rfl td_M_lay_7 ?_
    refine tz_rS C_ tmi_M_isSheet tw_876 tw_875 (As := [.int x]) (by exact ct_M_isSheet) rfl (rest := []) rfl (by decide) (Nat.le_of_ble_eq_true rfl) td_M_lay_8 (st1 := [.int (tz_p (0 ≤ x ∧ x < 4))]) rfl ?_
    refine tz_if_ne C_ td_M_lay_11 (fun h11 => ?_) (fun h11 => ?_)
    · skip
      replace h11 := tz_p1.mp h11
      obtain ⟨c, hc, ec⟩ := tz_pk_in h11
      subst ec
      have hpk11 := tz_pk_N hc
      have hnc : tz_ln σ c ≤ 120 := (hWT.1 c hc).1
      have hNc : ((tz_cur σ).1 c).1 ≤ 120 := (hWT.1 c hc).1
      refine tz_aload_n C_ 0 rfl rfl td_M_lay_21 ?_
      refine tz_get C_ tci_M 4 (by decide) tw_757 hM.1 rfl td_M_lay_22 ?_
      refine tz_iload_n C_ 2 rfl rfl td_M_lay_25 ?_
      refine tz_ialdN C_ hM.2.2.2.1 (by omega) (by decide) td_M_lay_26 ?_
      refine tz_if_ne C_ td_M_lay_27 (fun h27 => ?_) (fun h27 => ?_)
      · skip
        refine tz_aload_n C_ 0 rfl rfl td_M_lay_37 ?_
        refine tz_cV C_ tmi_M_keep tw_815 tw_15 tw_813 hM.1 rfl (As := []) (by exact (ct_M_keep ⟨hM.1, hM.2.1, hM.2.2.1, hM.2.2.2.1, hM.2.2.2.2.1, hM.2.2.2.2.2.1, hM.2.2.2.2.2.2.1, hM.2.2.2.2.2.2.2.1, hM.2.2.2.2.2.2.2.2⟩ hH hE (fun j hj => hW.2.1 j hj) hkp)) rfl (rest := []) rfl (by decide) (Nat.le_of_ble_eq_true rfl) td_M_lay_38 (st1 := []) rfl (fun f11 hF11 => ?_)
        obtain ⟨⟨paK, hMK, hHK⟩, hqK⟩ := hF11
        refine tz_aload_n C_ 0 rfl rfl td_M_lay_41 ?_
        refine tz_aload_n C_ 0 rfl rfl td_M_lay_42 ?_
        refine tz_get C_ tci_M 5 (by decide) tw_758 hMK.1 rfl td_M_lay_43 ?_
        refine tz_iload_n C_ 2 rfl rfl td_M_lay_46 ?_
        refine tz_ialdN C_ hMK.2.2.2.2.1 (by omega) (by decide) td_M_lay_47 ?_
        rw [(hQ c hc).2.1]
        have hs120 : (σ.2.2.1 c).2.1 ≤ 120 := (hW.2.2 c hc).1
        refine tz_wput C_ tci_M 7 (by decide) tw_760 rfl hMK.1 (Nat.le_of_ble_eq_true rfl) ⟨rfl, rfl⟩ (fs' := [.ref (M + 1), .ref (M + 2), .int (nI (min (σ.2.1 + 1) 20)), .int σ.2.2.2, .ref (M + 3), .ref (M + 4), .ref (M + 5), .int (nI (σ.2.2.1 c).2.1), .ref (M + 6), .int ns, .ref (M + 7), .ref (M + 8), .int tg]) rfl td_M_lay_48 (fun f12 hs12 hq12 => ?_)
        refine tz_iconst C_ (v := 0) (by decide) td_M_lay_51 ?_
        refine tz_istore_n C_ (lv' := [(0, .ref M), (1, .int (nI k)), (2, .int (nI c)), (3, .int 0)]) [1, 2, 3, 0] rfl (by decide) rfl td_M_lay_52 ?_
        have k13 : f12 (M + 1) = some (tz_ints cs 532 nw) := ((hq12 _ (by omega)).trans hMK.2.1)
        have k14 : f12 (M + 2) = some (tz_ints cs 10640 paK) := ((hq12 _ (by omega)).trans hMK.2.2.1)
        have k15 : f12 (M + 3) = some (tz_ints cs 4 bi) := ((hq12 _ (by omega)).trans hMK.2.2.2.1)
        have k16 : f12 (M + 4) = some (tz_ints cs 4 nu) := ((hq12 _ (by omega)).trans hMK.2.2.2.2.1)
        have k17 : f12 (M + 5) = some (tz_ints cs 480 sh) := ((hq12 _ (by omega)).trans hMK.2.2.2.2.2.1)
        have k18 : f12 (M + 6) = some (tz_ints cs 120 ro) := ((hq12 _ (by omega)).trans hMK.2.2.2.2.2.2.1)
        have k19 : f12 (M + 7) = some (tz_ints cs 120 ma) := ((hq12 _ (by omega)).trans hMK.2.2.2.2.2.2.2.1)
        have k20 : f12 (M + 8) = some (tz_ints cs 120 ca) := ((hq12 _ (by omega)).trans hMK.2.2.2.2.2.2.2.2)
        have loop53 : ∀ (kk53 : Nat) (i : Nat) (fL : tz_PH), (tz_MB cs fL M (min (σ.2.1 + 1) 20) σ.2.2.2 (nI (σ.2.2.1 c).2.1) ns tg nw paK bi nu sh ((tz_fl (fun q => tz_mo (tz_lyg σ c q)) ro i)) ma ca) → (∀ q, (q < M ∨ M + 9 ≤ q) → fL q = f q) → (i ≤ (σ.2.2.1 c).2.1) → ((σ.2.2.1 c).2.1 - i) < kk53 → tz_V p_ l e_ rm_M_lay s_ m_ ar_ be_ me_ c_ Q_ A D 5 fL sz 0 0 53 [(0, .ref M), (1, .int (nI k)), (2, .int (nI c)), (3, .int (nI i))] [] := by
          intro kk53
          induction kk53 with
          | zero => intro i fL hM1 hfr hi hm53; omega
          | succ kk53 ih53 =>
            intro i fL hM1 hfr hi hm53
            refine tz_iload_n C_ 3 rfl rfl td_M_lay_53 ?_
            refine tz_aload_n C_ 0 rfl rfl td_M_lay_54 ?_
            refine tz_get C_ tci_M 7 (by decide) tw_760 hM1.1 rfl td_M_lay_55 ?_
            refine tz_icmp_ge C_ td_M_lay_58 (fun h58 => ?_) (fun h58 => ?_)
            · skip
              replace h58 := (nI_leI (a := (σ.2.2.1 c).2.1) (b := i) (by omega) (by omega)).mp h58
              have e8 : i = (σ.2.2.1 c).2.1 := by omega
              have herL : tz_er (tz_fl (fun q => tz_mo (tz_lyg σ c q)) ro i) (σ.2.2.1 c).2.1 (tz_lyg σ c) := fun q hq => tz_fl_in (by omega)
              have hokL : tz_okr (σ.2.2.1 c).2.1 (tz_lyg σ c) := fun q _ => tz_smp_ok
              refine tz_aload_n C_ 0 rfl rfl td_M_lay_125 ?_
              refine tz_iload_n C_ 1 rfl rfl td_M_lay_126 ?_
              refine tz_cV C_ tmi_M_laysDown tw_898 tw_24 tw_896 hM1.1 rfl (As := [.int (nI k)]) (by exact (ct_M_laysDown ⟨hM1.1, hM1.2.1, hM1.2.2.1, hM1.2.2.2.1, hM1.2.2.2.2.1, hM1.2.2.2.2.2.1, hM1.2.2.2.2.2.2.1, hM1.2.2.2.2.2.2.2.1, hM1.2.2.2.2.2.2.2.2⟩ (k := k) (by omega) hs120)) rfl (rest := []) rfl (by decide) (Nat.le_of_ble_eq_true rfl) td_M_lay_127 (st1 := []) rfl (fun f21 hF21 => ?_)
              obtain ⟨hMD22, hq22⟩ := hF21
              refine tz_aload_n C_ 0 rfl rfl td_M_lay_130 ?_
              refine tz_get C_ tci_M 7 (by decide) tw_760 hMD22.1 rfl td_M_lay_131 ?_
              refine tz_aload_n C_ 0 rfl rfl td_M_lay_134 ?_
              refine tz_rV C_ tmi_M_lostMany tw_849 tw_19 tw_847 hMD22.1 rfl (As := []) (by exact (ct_M_lostMany ⟨hMD22.1, hMD22.2.1, hMD22.2.2.1, hMD22.2.2.2.1, hMD22.2.2.2.2.1, hMD22.2.2.2.2.2.1, hMD22.2.2.2.2.2.2.1, hMD22.2.2.2.2.2.2.2.1, hMD22.2.2.2.2.2.2.2.2⟩ herL hokL hs120)) rfl (rest := [.int (nI (σ.2.2.1 c).2.1)]) rfl (by decide) (Nat.le_of_ble_eq_true rfl) td_M_lay_135 (st1 := [.int (nI (tz_lost (σ.2.2.1 c).2.1 (tz_lyg σ c))), .int (nI (σ.2.2.1 c).2.1)]) rfl ?_
              refine tz_isub C_ td_M_lay_138 ?_
              refine tz_riret C_ hr_ hk_ hQ_ rfl td_M_lay_139 ?_
              have e9 : sp_lay σ (nI k) (nI c) = ((nI (σ.2.2.1 c).2.1) - (nI (tz_lost (σ.2.2.1 c).2.1 (tz_lyg σ c))), tz_act σ (tz_sr (tz_cur σ) k (tz_sn σ c, tz_lyg σ c))) := by simp only [sp_lay, hpk4, hpk11]; rw [if_neg (fun e => h27 ((hQ c hc).1.trans e))]
              rw [e9]
              exact ⟨rfl, tz_AM_act hW ⟨hMD22.1, hMD22.2.1, hMD22.2.2.1, hMD22.2.2.2.1, hMD22.2.2.2.2.1, hMD22.2.2.2.2.2.1, hMD22.2.2.2.2.2.2.1, hMD22.2.2.2.2.2.2.2.1, hMD22.2.2.2.2.2.2.2.2⟩ (tz_en_row hE hWT hk herL hs120) hHK hQ, (fun q hh => by rw [hq22 q (by omega), hfr q (by omega)])⟩
            · skip
              replace h58 := mt (nI_leI (a := (σ.2.2.1 c).2.1) (b := i) (by omega) (by omega)).mpr h58
              refine tz_aload_n C_ 0 rfl rfl td_M_lay_61 ?_
              refine tz_get C_ tci_M 6 (by decide) tw_759 hM1.1 rfl td_M_lay_62 ?_
              refine tz_bipush C_ (v := 120) (by decide) td_M_lay_65 ?_
              refine tz_iload_n C_ 2 rfl rfl td_M_lay_67 ?_
              refine tz_imul C_ td_M_lay_68 ?_
              rw [show (120 * (nI c) : Int32) = nI (120 * c) from pk_mul (120) (c)]
              refine tz_iload_n C_ 3 rfl rfl td_M_lay_69 ?_
              refine tz_iadd C_ td_M_lay_70 ?_
              rw [show ((nI (120 * c)) + (nI i) : Int32) = nI (120 * c + i) from nI_add (120 * c) (i)]
              refine tz_ialdN C_ hM1.2.2.2.2.2.1 (by omega) (by decide) td_M_lay_71 ?_
              refine tz_istore C_ (lv' := [(0, .ref M), (1, .int (nI k)), (2, .int (nI c)), (3, .int (nI i)), (4, .int (sh ((120 * c + i))))]) [1, 2, 3, 4, 0] (by decide) rfl td_M_lay_72 ?_
              refine tz_aload_n C_ 0 rfl rfl td_M_lay_74 ?_
              refine tz_get C_ tci_M 8 (by decide) tw_761 hM1.1 rfl td_M_lay_75 ?_
              refine tz_iload_n C_ 3 rfl rfl td_M_lay_78 ?_
              refine tz_iload C_ 4 rfl td_M_lay_79 ?_
              refine tz_sipush C_ (v := -10000) (by decide) td_M_lay_81 ?_
              refine tz_sipush C_ (v := 10000) (by decide) td_M_lay_84 ?_
              refine tz_rS C_ tmi_M_in tw_810 tw_809 (As := [.int (sh ((120 * c + i))), .int (-10000), .int 10000]) (by exact ct_M_in) rfl (rest := [.int (nI i), .ref (M + 6)]) rfl (by decide) (Nat.le_of_ble_eq_true rfl) td_M_lay_87 (st1 := [.int (tz_p ((-10000) ≤ (sh ((120 * c + i))) ∧ (sh ((120 * c + i))) ≤ 10000)), .int (nI i), .ref (M + 6)]) rfl ?_
              refine tz_if_eq C_ td_M_lay_90 (fun h90 => ?_) (fun h90 => ?_)
              · skip
                replace h90 := tz_p0.mp h90
                refine tz_ldc C_ tw_829 td_M_lay_111 ?_
                refine tz_goto C_ td_M_lay_113 ?_
                refine tz_wiastN C_ hM1.2.2.2.2.2.2.1 (by omega) (by decide) (g' := upd ((tz_fl (fun q => tz_mo (tz_lyg σ c q)) ro i)) i 1000000) rfl td_M_lay_118 (fun f23 hs23 hq23 => ?_)
                refine tz_iinc C_ (k := 1) (v := nI (i + 1)) (lv' := [(0, .ref M), (1, .int (nI k)), (2, .int (nI c)), (3, .int (nI (i + 1))), (4, .int (sh ((120 * c + i))))]) 3 rfl (nI_1 i) [1, 2, 3, 0, 4] (by decide) rfl td_M_lay_119 ?_
                refine tz_goto C_ td_M_lay_122 ?_
                have hly9 : ∀ b v : Int32, b = bi c → v = sh (120 * c + i) → tz_lyg σ c i = tz_smp b v := by intro b v e1 e2; rw [e1, e2, (hQ c hc).1, (hQ c hc).2.2 i (by omega)]; rfl
                have k24 : f23 M = some (tz_obj 11 [.ref (M + 1), .ref (M + 2), .int (nI (min (σ.2.1 + 1) 20)), .int σ.2.2.2, .ref (M + 3), .ref (M + 4), .ref (M + 5), .int (nI (σ.2.2.1 c).2.1), .ref (M + 6), .int ns, .ref (M + 7), .ref (M + 8), .int tg]) := ((hq23 _ (by omega)).trans hM1.1)
                have k25 : f23 (M + 1) = some (tz_ints cs 532 nw) := ((hq23 _ (by omega)).trans hM1.2.1)
                have k26 : f23 (M + 2) = some (tz_ints cs 10640 paK) := ((hq23 _ (by omega)).trans hM1.2.2.1)
                have k27 : f23 (M + 3) = some (tz_ints cs 4 bi) := ((hq23 _ (by omega)).trans hM1.2.2.2.1)
                have k28 : f23 (M + 4) = some (tz_ints cs 4 nu) := ((hq23 _ (by omega)).trans hM1.2.2.2.2.1)
                have k29 : f23 (M + 5) = some (tz_ints cs 480 sh) := ((hq23 _ (by omega)).trans hM1.2.2.2.2.2.1)
                have k30 : f23 (M + 7) = some (tz_ints cs 120 ma) := ((hq23 _ (by omega)).trans hM1.2.2.2.2.2.2.2.1)
                have k31 : f23 (M + 8) = some (tz_ints cs 120 ca) := ((hq23 _ (by omega)).trans hM1.2.2.2.2.2.2.2.2)
                refine tz_lvs [0, 1, 2, 3] rfl ?_
                exact ih53 (i + 1) f23 (⟨k24, k25, k26, k27, k28, k29, tz_flN hs23 (by show _ = tz_mo (tz_lyg σ c i); rw [hly9 _ _ rfl rfl]; exact tz_lyA (Or.inl h90)), k30, k31⟩) (fun q hh => by rw [hq23 q (by omega), hfr q (by omega)]) (by omega) (by omega)
              · skip
                replace h90 := tz_p1.mp h90
                refine tz_aload_n C_ 0 rfl rfl td_M_lay_93 ?_
                refine tz_get C_ tci_M 4 (by decide) tw_757 hM1.1 rfl td_M_lay_94 ?_
                refine tz_iload_n C_ 2 rfl rfl td_M_lay_97 ?_
                refine tz_ialdN C_ hM1.2.2.2.1 (by omega) (by decide) td_M_lay_98 ?_
                refine tz_bipush C_ (v := 8) (by decide) td_M_lay_99 ?_
                refine tz_icmp_ne C_ td_M_lay_101 (fun h101 => ?_) (fun h101 => ?_)
                · skip
                  refine tz_iload C_ 4 rfl td_M_lay_116 ?_
                  refine tz_wiastN C_ hM1.2.2.2.2.2.2.1 (by omega) (by decide) (g' := upd ((tz_fl (fun q => tz_mo (tz_lyg σ c q)) ro i)) i (sh ((120 * c + i)))) rfl td_M_lay_118 (fun f32 hs32 hq32 => ?_)
                  refine tz_iinc C_ (k := 1) (v := nI (i + 1)) (lv' := [(0, .ref M), (1, .int (nI k)), (2, .int (nI c)), (3, .int (nI (i + 1))), (4, .int (sh ((120 * c + i))))]) 3 rfl (nI_1 i) [1, 2, 3, 0, 4] (by decide) rfl td_M_lay_119 ?_
                  refine tz_goto C_ td_M_lay_122 ?_
                  have hly9 : ∀ b v : Int32, b = bi c → v = sh (120 * c + i) → tz_lyg σ c i = tz_smp b v := by intro b v e1 e2; rw [e1, e2, (hQ c hc).1, (hQ c hc).2.2 i (by omega)]; rfl
                  have k33 : f32 M = some (tz_obj 11 [.ref (M + 1), .ref (M + 2), .int (nI (min (σ.2.1 + 1) 20)), .int σ.2.2.2, .ref (M + 3), .ref (M + 4), .ref (M + 5), .int (nI (σ.2.2.1 c).2.1), .ref (M + 6), .int ns, .ref (M + 7), .ref (M + 8), .int tg]) := ((hq32 _ (by omega)).trans hM1.1)
                  have k34 : f32 (M + 1) = some (tz_ints cs 532 nw) := ((hq32 _ (by omega)).trans hM1.2.1)
                  have k35 : f32 (M + 2) = some (tz_ints cs 10640 paK) := ((hq32 _ (by omega)).trans hM1.2.2.1)
                  have k36 : f32 (M + 3) = some (tz_ints cs 4 bi) := ((hq32 _ (by omega)).trans hM1.2.2.2.1)
                  have k37 : f32 (M + 4) = some (tz_ints cs 4 nu) := ((hq32 _ (by omega)).trans hM1.2.2.2.2.1)
                  have k38 : f32 (M + 5) = some (tz_ints cs 480 sh) := ((hq32 _ (by omega)).trans hM1.2.2.2.2.2.1)
                  have k39 : f32 (M + 7) = some (tz_ints cs 120 ma) := ((hq32 _ (by omega)).trans hM1.2.2.2.2.2.2.2.1)
                  have k40 : f32 (M + 8) = some (tz_ints cs 120 ca) := ((hq32 _ (by omega)).trans hM1.2.2.2.2.2.2.2.2)
                  refine tz_lvs [0, 1, 2, 3] rfl ?_
                  exact ih53 (i + 1) f32 (⟨k33, k34, k35, k36, k37, k38, tz_flN hs32 (by show _ = tz_mo (tz_lyg σ c i); rw [hly9 _ _ rfl rfl]; exact tz_lyB h90 (fun z => h101 z.1)), k39, k40⟩) (fun q hh => by rw [hq32 q (by omega), hfr q (by omega)]) (by omega) (by omega)
                · skip
                  refine tz_iload C_ 4 rfl td_M_lay_104 ?_
                  refine tz_bipush C_ (v := -128) (by decide) td_M_lay_106 ?_
                  refine tz_icmp_ne C_ td_M_lay_108 (fun h108 => ?_) (fun h108 => ?_)
                  · skip
                    refine tz_iload C_ 4 rfl td_M_lay_116 ?_
                    refine tz_wiastN C_ hM1.2.2.2.2.2.2.1 (by omega) (by decide) (g' := upd ((tz_fl (fun q => tz_mo (tz_lyg σ c q)) ro i)) i (sh ((120 * c + i)))) rfl td_M_lay_118 (fun f41 hs41 hq41 => ?_)
                    refine tz_iinc C_ (k := 1) (v := nI (i + 1)) (lv' := [(0, .ref M), (1, .int (nI k)), (2, .int (nI c)), (3, .int (nI (i + 1))), (4, .int (sh ((120 * c + i))))]) 3 rfl (nI_1 i) [1, 2, 3, 0, 4] (by decide) rfl td_M_lay_119 ?_
                    refine tz_goto C_ td_M_lay_122 ?_
                    have hly9 : ∀ b v : Int32, b = bi c → v = sh (120 * c + i) → tz_lyg σ c i = tz_smp b v := by intro b v e1 e2; rw [e1, e2, (hQ c hc).1, (hQ c hc).2.2 i (by omega)]; rfl
                    have k42 : f41 M = some (tz_obj 11 [.ref (M + 1), .ref (M + 2), .int (nI (min (σ.2.1 + 1) 20)), .int σ.2.2.2, .ref (M + 3), .ref (M + 4), .ref (M + 5), .int (nI (σ.2.2.1 c).2.1), .ref (M + 6), .int ns, .ref (M + 7), .ref (M + 8), .int tg]) := ((hq41 _ (by omega)).trans hM1.1)
                    have k43 : f41 (M + 1) = some (tz_ints cs 532 nw) := ((hq41 _ (by omega)).trans hM1.2.1)
                    have k44 : f41 (M + 2) = some (tz_ints cs 10640 paK) := ((hq41 _ (by omega)).trans hM1.2.2.1)
                    have k45 : f41 (M + 3) = some (tz_ints cs 4 bi) := ((hq41 _ (by omega)).trans hM1.2.2.2.1)
                    have k46 : f41 (M + 4) = some (tz_ints cs 4 nu) := ((hq41 _ (by omega)).trans hM1.2.2.2.2.1)
                    have k47 : f41 (M + 5) = some (tz_ints cs 480 sh) := ((hq41 _ (by omega)).trans hM1.2.2.2.2.2.1)
                    have k48 : f41 (M + 7) = some (tz_ints cs 120 ma) := ((hq41 _ (by omega)).trans hM1.2.2.2.2.2.2.2.1)
                    have k49 : f41 (M + 8) = some (tz_ints cs 120 ca) := ((hq41 _ (by omega)).trans hM1.2.2.2.2.2.2.2.2)
                    refine tz_lvs [0, 1, 2, 3] rfl ?_
                    exact ih53 (i + 1) f41 (⟨k42, k43, k44, k45, k46, k47, tz_flN hs41 (by show _ = tz_mo (tz_lyg σ c i); rw [hly9 _ _ rfl rfl]; exact tz_lyB h90 (fun z => h108 z.2)), k48, k49⟩) (fun q hh => by rw [hq41 q (by omega), hfr q (by omega)]) (by omega) (by omega)
                  · skip
                    refine tz_ldc C_ tw_829 td_M_lay_111 ?_
                    refine tz_goto C_ td_M_lay_113 ?_
                    refine tz_wiastN C_ hM1.2.2.2.2.2.2.1 (by omega) (by decide) (g' := upd ((tz_fl (fun q => tz_mo (tz_lyg σ c q)) ro i)) i 1000000) rfl td_M_lay_118 (fun f50 hs50 hq50 => ?_)
                    refine tz_iinc C_ (k := 1) (v := nI (i + 1)) (lv' := [(0, .ref M), (1, .int (nI k)), (2, .int (nI c)), (3, .int (nI (i + 1))), (4, .int (sh ((120 * c + i))))]) 3 rfl (nI_1 i) [1, 2, 3, 0, 4] (by decide) rfl td_M_lay_119 ?_
                    refine tz_goto C_ td_M_lay_122 ?_
                    have hly9 : ∀ b v : Int32, b = bi c → v = sh (120 * c + i) → tz_lyg σ c i = tz_smp b v := by intro b v e1 e2; rw [e1, e2, (hQ c hc).1, (hQ c hc).2.2 i (by omega)]; rfl
                    have k51 : f50 M = some (tz_obj 11 [.ref (M + 1), .ref (M + 2), .int (nI (min (σ.2.1 + 1) 20)), .int σ.2.2.2, .ref (M + 3), .ref (M + 4), .ref (M + 5), .int (nI (σ.2.2.1 c).2.1), .ref (M + 6), .int ns, .ref (M + 7), .ref (M + 8), .int tg]) := ((hq50 _ (by omega)).trans hM1.1)
                    have k52 : f50 (M + 1) = some (tz_ints cs 532 nw) := ((hq50 _ (by omega)).trans hM1.2.1)
                    have k53 : f50 (M + 2) = some (tz_ints cs 10640 paK) := ((hq50 _ (by omega)).trans hM1.2.2.1)
                    have k54 : f50 (M + 3) = some (tz_ints cs 4 bi) := ((hq50 _ (by omega)).trans hM1.2.2.2.1)
                    have k55 : f50 (M + 4) = some (tz_ints cs 4 nu) := ((hq50 _ (by omega)).trans hM1.2.2.2.2.1)
                    have k56 : f50 (M + 5) = some (tz_ints cs 480 sh) := ((hq50 _ (by omega)).trans hM1.2.2.2.2.2.1)
                    have k57 : f50 (M + 7) = some (tz_ints cs 120 ma) := ((hq50 _ (by omega)).trans hM1.2.2.2.2.2.2.2.1)
                    have k58 : f50 (M + 8) = some (tz_ints cs 120 ca) := ((hq50 _ (by omega)).trans hM1.2.2.2.2.2.2.2.2)
                    refine tz_lvs [0, 1, 2, 3] rfl ?_
                    exact ih53 (i + 1) f50 (⟨k51, k52, k53, k54, k55, k56, tz_flN hs50 (by show _ = tz_mo (tz_lyg σ c i); rw [hly9 _ _ rfl rfl]; exact tz_lyA (Or.inr ⟨h101, h108⟩)), k57, k58⟩) (fun q hh => by rw [hq50 q (by omega), hfr q (by omega)]) (by omega) (by omega)
        exact loop53 _ 0 f12 (⟨hs12, k13, k14, k15, k16, k17, by rw [tz_fl_0]; exact k18, k19, k20⟩) (fun q hh => by rw [hq12 q (by omega), hqK q (by omega)]) (Nat.zero_le _) (Nat.lt_succ_self _)
      · skip
        refine tz_aload_n C_ 0 rfl rfl td_M_lay_30 ?_
        refine tz_ldc C_ tw_883 td_M_lay_31 ?_
        refine tz_cV C_ tmi_M_finding tw_800 tw_14 tw_798 hM.1 rfl (As := [.int (-100002)]) (by exact (ct_M_finding (v := -100002) hM.1)) rfl (rest := []) rfl (by decide) (Nat.le_of_ble_eq_true rfl) td_M_lay_33 (st1 := [.int (-100002)]) rfl (fun f59 hF59 => ?_)
        obtain ⟨hs60, hq60⟩ := hF59
        refine tz_riret C_ hr_ hk_ hQ_ rfl td_M_lay_36 ?_
        have k61 : f59 (M + 1) = some (tz_ints cs 532 nw) := ((hq60 _ (by omega)).trans hM.2.1)
        have k62 : f59 (M + 2) = some (tz_ints cs 10640 pa) := ((hq60 _ (by omega)).trans hM.2.2.1)
        have k63 : f59 (M + 3) = some (tz_ints cs 4 bi) := ((hq60 _ (by omega)).trans hM.2.2.2.1)
        have k64 : f59 (M + 4) = some (tz_ints cs 4 nu) := ((hq60 _ (by omega)).trans hM.2.2.2.2.1)
        have k65 : f59 (M + 5) = some (tz_ints cs 480 sh) := ((hq60 _ (by omega)).trans hM.2.2.2.2.2.1)
        have k66 : f59 (M + 6) = some (tz_ints cs 120 ro) := ((hq60 _ (by omega)).trans hM.2.2.2.2.2.2.1)
        have k67 : f59 (M + 7) = some (tz_ints cs 120 ma) := ((hq60 _ (by omega)).trans hM.2.2.2.2.2.2.2.1)
        have k68 : f59 (M + 8) = some (tz_ints cs 120 ca) := ((hq60 _ (by omega)).trans hM.2.2.2.2.2.2.2.2)
        have e9 : sp_lay σ (nI k) (nI c) = (-100002, tz_fnd σ) := by simp only [sp_lay, hpk4, hpk11]; rw [if_pos ((hQ c hc).1.symm.trans h27), tz_an_f (by decide)]
        rw [e9]
        exact ⟨rfl, ⟨_, _, _, _, _, _, _, _, _, _, _, ⟨hs60, k61, k62, k63, k64, k65, k66, k67, k68⟩, hE, hH, hQ⟩, (fun q hh => by rw [hq60 q (by omega)])⟩
    · skip
      replace h11 := tz_p0.mp h11
      have hpk11 := tz_pk_out h11
      refine tz_aload_n C_ 0 rfl rfl td_M_lay_14 ?_
      refine tz_ldc C_ tw_812 td_M_lay_15 ?_
      refine tz_cV C_ tmi_M_finding tw_800 tw_14 tw_798 hM.1 rfl (As := [.int (-100001)]) (by exact (ct_M_finding (v := -100001) hM.1)) rfl (rest := []) rfl (by decide) (Nat.le_of_ble_eq_true rfl) td_M_lay_17 (st1 := [.int (-100001)]) rfl (fun f69 hF69 => ?_)
      obtain ⟨hs70, hq70⟩ := hF69
      refine tz_riret C_ hr_ hk_ hQ_ rfl td_M_lay_20 ?_
      have k71 : f69 (M + 1) = some (tz_ints cs 532 nw) := ((hq70 _ (by omega)).trans hM.2.1)
      have k72 : f69 (M + 2) = some (tz_ints cs 10640 pa) := ((hq70 _ (by omega)).trans hM.2.2.1)
      have k73 : f69 (M + 3) = some (tz_ints cs 4 bi) := ((hq70 _ (by omega)).trans hM.2.2.2.1)
      have k74 : f69 (M + 4) = some (tz_ints cs 4 nu) := ((hq70 _ (by omega)).trans hM.2.2.2.2.1)
      have k75 : f69 (M + 5) = some (tz_ints cs 480 sh) := ((hq70 _ (by omega)).trans hM.2.2.2.2.2.1)
      have k76 : f69 (M + 6) = some (tz_ints cs 120 ro) := ((hq70 _ (by omega)).trans hM.2.2.2.2.2.2.1)
      have k77 : f69 (M + 7) = some (tz_ints cs 120 ma) := ((hq70 _ (by omega)).trans hM.2.2.2.2.2.2.2.1)
      have k78 : f69 (M + 8) = some (tz_ints cs 120 ca) := ((hq70 _ (by omega)).trans hM.2.2.2.2.2.2.2.2)
      have e9 : sp_lay σ (nI k) x = (-100001, tz_fnd σ) := by simp only [sp_lay, hpk4, hpk11]; rw [tz_an_f (by decide)]
      rw [e9]
      exact ⟨rfl, ⟨_, _, _, _, _, _, _, _, _, _, _, ⟨hs70, k71, k72, k73, k74, k75, k76, k77, k78⟩, hE, hH, hQ⟩, (fun q hh => by rw [hq70 q (by omega)])⟩
