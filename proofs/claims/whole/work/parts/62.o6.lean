
theorem tz_lat_ch {n x : Nat} {g : Nat → Int32} (hn : n ≤ 120) (hx : x < 120) : ∀ d j (kv : Int32), j + d = tz_T n g → kv = nI j - 1 → (j = 0 ∨ tz_F n g (j - 1) ≤ x) → tz_lat (tz_T n g) (tz_tg n g) (nI x) d kv = -1 ∨ ∃ i, i < tz_T n g ∧ tz_lat (tz_T n g) (tz_tg n g) (nI x) d kv = nI i ∧ tz_F n g i ≤ x ∧ (i + 1 < tz_T n g → x < tz_F n g (i + 1)) := by
  intro d
  have hT : tz_T n g ≤ n := tz_ct_le (tz_tp n g) n
  have key : ∀ j (kv : Int32), j ≤ tz_T n g → kv = nI j - 1 → (j = 0 ∨ tz_F n g (j - 1) ≤ x) → (j < tz_T n g → x < tz_F n g j) → kv = -1 ∨ ∃ i, i < tz_T n g ∧ kv = nI i ∧ tz_F n g i ≤ x ∧ (i + 1 < tz_T n g → x < tz_F n g (i + 1)) := by
    intro j kv hj hk hF hx2
    rcases Nat.eq_zero_or_pos j with e | e
    · left; rw [hk, e]; decide
    · right
      refine ⟨j - 1, by omega, ?_, hF.resolve_left (by omega), fun z => ?_⟩
      · rw [hk]; exact pk_sub (a := j) (b := 1) (by omega)
      · rw [show j - 1 + 1 = j by omega] at z ⊢; exact hx2 z
  induction d with
  | zero =>
    intro j kv hj hk hF
    rw [tz_lat]
    exact key j kv (by omega) hk hF (fun z => absurd z (by omega))
  | succ d ih =>
    intro j kv hj hk hF
    rw [tz_lat, show tz_T n g - (d + 1) = j by omega]
    have hjT : j < tz_T n g := by omega
    have hFj := tz_F_in hjT
    by_cases h : nI x < tz_pl (tz_T n g) (tz_tg n g) (nI j)
    · rw [if_pos h]
      rw [tz_pl_T hn hjT] at h
      exact key j kv (by omega) hk hF (fun _ => (nI_ltI (by omega) (by omega)).mp h)
    · rw [if_neg h]
      rw [tz_pl_T hn hjT] at h
      have h2 := mt (nI_ltI (a := x) (b := tz_F n g j) (by omega) (by omega)).mpr h
      refine ih (j + 1) (nI j) (by omega) ?_ (Or.inr ?_)
      · rw [show (nI (j + 1) - 1 : Int32) = nI (j + 1 - 1) from pk_sub (a := j + 1) (b := 1) (by omega), Nat.add_sub_cancel]
      · rw [Nat.add_sub_cancel]; omega
theorem tz_wf_rg {n v x : Nat} {g : Nat → Int32} (hn : n ≤ 120) (hv : 1 ≤ v ∧ v ≤ 30) (hx : x < 120) : tz_wf n g v (nI x) = -1 ∨ ∃ y, y < 120 ∧ tz_wf n g v (nI x) = nI y := by
  have hT : tz_T n g ≤ n := tz_ct_le (tz_tp n g) n
  by_cases h2 : tz_T n g < 2
  · right
    refine ⟨x, hx, ?_⟩
    unfold tz_wf; rw [if_pos h2]
  · rcases tz_lat_ch (g := g) hn hx (tz_T n g) 0 (-1) (by omega) (by decide) (Or.inl rfl) with e | ⟨i, hi, e, hF, hx2⟩
    · left; exact tz_wf_m1 h2 e tz_fwt_n
    · have hiv : i * v ≤ 120 * 30 := Nat.mul_le_mul (by omega) hv.2
      by_cases h3 : i + 1 < tz_T n g
      · have hxv : (x - tz_F n g i) * v ≤ 120 * 30 := Nat.mul_le_mul (by omega) hv.2
        have hdv : (x - tz_F n g i) * v / (tz_F n g (i + 1) - tz_F n g i) ≤ (x - tz_F n g i) * v := Nat.div_le_self _ _
        rw [tz_wf_t h2 e (tz_fwt_m hn hv hx h3 hF) (tz_wq hv h3 hF (hx2 h3)) (by omega)]
        split
        · right; exact ⟨_, by assumption, rfl⟩
        · left; rfl
      · by_cases h4 : x = tz_F n g i
        · rw [tz_wf_t h2 e (tz_fwt_l hn (by omega) h4) (by rw [show tz_T n g - 1 = i by omega]; exact Nat.le_refl _) (by omega)]
          split
          · right; exact ⟨_, by assumption, rfl⟩
          · left; rfl
        · left; exact tz_wf_m1 h2 e (tz_fwt_o hn hx (by omega) (by omega))

abbrev rm_M_moment : Room := { frames := 7, cells := 0, slots := 0, locals := 167 }
set_option maxHeartbeats 4000000 in
set_option maxRecDepth 100000 in
theorem ct_M_moment {l : Launch} {A : Nat → Prop} {D : va_G} {cs : Nat → ClassId} {sz : Nat} {f : tz_PH} {M : Nat} {σ : tz_SG} (hX : tz_AM cs f M σ) (hW : tz_WF σ) {m : Int32} : tz_CN l tyM_moment prog_13_method_63_code 7 (some (.int)) rm_M_moment 0 0 A D cs sz [.ref M, .int m] f (some (.int (sp_moment σ m).1)) (fun f' => tz_AM cs f' M (sp_moment σ m).2 ∧ ∀ q, (q < M ∨ M + 9 ≤ q) → f' q = f q) := by
  refine tz_C.ofB (lv0 := [(0, .ref M), (1, .int m)]) (plainFor_of_name (by decide)) (Nat.le_of_ble_eq_true rfl) rfl ?_
  intro p_ e_ s_ m_ ar_ be_ me_ c_ Q_ C_ hr_ hk_ hnm_ hz_ hQ_
  obtain ⟨ms, ns, tg, nw, pa, bi, nu, sh, ro, ma, ca, hM, hE, hH, hQ⟩ := hX
  have hWT := hW.cur
  have hkp : σ.2.1 ≤ 20 := hW.1
  have hl8 := hWT.2.1
  refine tz_iload_n C_ 1 rfl rfl td_M_moment_0 ?_
  refine tz_iconst C_ (v := 0) (by decide) td_M_moment_1 ?_
  refine tz_iconst C_ (v := 5) (by decide) td_M_moment_2 ?_
  refine tz_rS C_ tmi_M_in tw_810 tw_809 (As := [.int m, .int 0, .int 5]) (by exact ct_M_in) rfl (rest := []) rfl (by decide) (Nat.le_of_ble_eq_true rfl) td_M_moment_3 (st1 := [.int (tz_p (0 ≤ m ∧ m ≤ 5))]) rfl ?_
  refine tz_if_ne C_ td_M_moment_6 (fun h6 => ?_) (fun h6 => ?_)
  · skip
    replace h6 := tz_p1.mp h6
    have h6b : 0 ≤ m ∧ m < 6 := ⟨h6.1, tz_le5.mp h6.2⟩
    obtain ⟨mm, hmm, emm⟩ := vp_in_of (x := m) (n := 6) (tz_inI (tz_le_nlt h6b.1) (show m < nI 6 from h6b.2) (by decide)) (by decide)
    subst emm
    obtain ⟨k, hk, ek⟩ := tz_pk_in (hWT.2.2.2 mm hmm).1
    have hnk : tz_ln σ k ≤ 120 := (hWT.1 k hk).1
    have hNk : ((tz_cur σ).1 k).1 ≤ 120 := (hWT.1 k hk).1
    have e7 : sp_moment σ (nI mm) = (if 0 ≤ ((tz_cur σ).2.2.2.2 mm) ∧ ((tz_cur σ).2.2.2.2 mm) < nI (tz_ln σ k) then (if (tz_ou (tz_cur σ) k ((tz_cur σ).2.2.2.2 mm)).2.2 = -1 then tz_an σ tz_LO else ((tz_ou (tz_cur σ) k ((tz_cur σ).2.2.2.2 mm)).2.2, σ)) else tz_an σ tz_NO) := by rw [sp_moment, if_pos h6b, nI_clamp (by omega), ek, tz_pk_N hk]
    refine tz_aload_n C_ 0 rfl rfl td_M_moment_16 ?_
    refine tz_get C_ tci_M 0 (by decide) tw_753 hM.1 rfl td_M_moment_17 ?_
    refine tz_sipush C_ (v := 520) (by decide) td_M_moment_20 ?_
    refine tz_iload_n C_ 1 rfl rfl td_M_moment_23 ?_
    refine tz_iadd C_ td_M_moment_24 ?_
    rw [show (520 + (nI mm) : Int32) = nI (520 + mm) from nI_add (520) (mm)]
    refine tz_ialdN C_ hM.2.1 (by omega) (by decide) td_M_moment_25 ?_
    rw [(hE.2.2.2.2 mm hmm).1, ek]
    refine tz_istore_n C_ (lv' := [(0, .ref M), (1, .int (nI mm)), (2, .int (nI k))]) [1, 2, 0] rfl (by decide) rfl td_M_moment_26 ?_
    refine tz_aload_n C_ 0 rfl rfl td_M_moment_27 ?_
    refine tz_get C_ tci_M 0 (by decide) tw_753 hM.1 rfl td_M_moment_28 ?_
    refine tz_sipush C_ (v := 526) (by decide) td_M_moment_31 ?_
    refine tz_iload_n C_ 1 rfl rfl td_M_moment_34 ?_
    refine tz_iadd C_ td_M_moment_35 ?_
    rw [show (526 + (nI mm) : Int32) = nI (526 + mm) from nI_add (526) (mm)]
    refine tz_ialdN C_ hM.2.1 (by omega) (by decide) td_M_moment_36 ?_
    rw [(hE.2.2.2.2 mm hmm).2]
    refine tz_istore_n C_ (lv' := [(0, .ref M), (1, .int (nI mm)), (2, .int (nI k)), (3, .int (((tz_cur σ).2.2.2.2 mm)))]) [1, 2, 3, 0] rfl (by decide) rfl td_M_moment_37 ?_
    refine tz_iload_n C_ 3 rfl rfl td_M_moment_38 ?_
    refine tz_if_lt C_ td_M_moment_39 (fun h39 => ?_) (fun h39 => ?_)
    · skip
      refine tz_aload_n C_ 0 rfl rfl td_M_moment_51 ?_
      refine tz_ldc C_ tw_797 td_M_moment_52 ?_
      refine tz_cV C_ tmi_M_finding tw_800 tw_14 tw_798 hM.1 rfl (As := [.int (-100006)]) (by exact (ct_M_finding (v := -100006) hM.1)) rfl (rest := []) rfl (by decide) (Nat.le_of_ble_eq_true rfl) td_M_moment_54 (st1 := [.int (-100006)]) rfl (fun f1 hF1 => ?_)
      obtain ⟨hs2, hq2⟩ := hF1
      refine tz_riret C_ hr_ hk_ hQ_ rfl td_M_moment_57 ?_
      have k3 : f1 (M + 1) = some (tz_ints cs 532 nw) := ((hq2 _ (by omega)).trans hM.2.1)
      have k4 : f1 (M + 2) = some (tz_ints cs 10640 pa) := ((hq2 _ (by omega)).trans hM.2.2.1)
      have k5 : f1 (M + 3) = some (tz_ints cs 4 bi) := ((hq2 _ (by omega)).trans hM.2.2.2.1)
      have k6 : f1 (M + 4) = some (tz_ints cs 4 nu) := ((hq2 _ (by omega)).trans hM.2.2.2.2.1)
      have k7 : f1 (M + 5) = some (tz_ints cs 480 sh) := ((hq2 _ (by omega)).trans hM.2.2.2.2.2.1)
      have k8 : f1 (M + 6) = some (tz_ints cs 120 ro) := ((hq2 _ (by omega)).trans hM.2.2.2.2.2.2.1)
      have k9 : f1 (M + 7) = some (tz_ints cs 120 ma) := ((hq2 _ (by omega)).trans hM.2.2.2.2.2.2.2.1)
      have k10 : f1 (M + 8) = some (tz_ints cs 120 ca) := ((hq2 _ (by omega)).trans hM.2.2.2.2.2.2.2.2)
      have e9 : sp_moment σ (nI mm) = (-100006, tz_fnd σ) := by rw [e7, if_neg (fun z => tz_le_nlt z.1 h39), tz_an_f (by decide)]
      rw [e9]
      exact ⟨rfl, ⟨_, _, _, _, _, _, _, _, _, _, _, ⟨hs2, k3, k4, k5, k6, k7, k8, k9, k10⟩, hE, hH, hQ⟩, (fun q hh => by rw [hq2 q (by omega)])⟩
    · skip
      refine tz_aload_n C_ 0 rfl rfl td_M_moment_42 ?_
      refine tz_iload_n C_ 2 rfl rfl td_M_moment_43 ?_
      refine tz_iload_n C_ 3 rfl rfl td_M_moment_44 ?_
      refine tz_rV C_ tmi_M_isSample tw_823 tw_16 tw_821 hM.1 rfl (As := [.int (nI k), .int (((tz_cur σ).2.2.2.2 mm))]) (by exact (ct_M_isSample ⟨hM.1, hM.2.1, hM.2.2.1, hM.2.2.2.1, hM.2.2.2.2.1, hM.2.2.2.2.2.1, hM.2.2.2.2.2.2.1, hM.2.2.2.2.2.2.2.1, hM.2.2.2.2.2.2.2.2⟩ hE hWT)) rfl (rest := []) rfl (by decide) (Nat.le_of_ble_eq_true rfl) td_M_moment_45 (st1 := [.int (tz_p (tz_has (tz_cur σ) (nI k) (((tz_cur σ).2.2.2.2 mm))))]) rfl ?_
      refine tz_if_ne C_ td_M_moment_48 (fun h48 => ?_) (fun h48 => ?_)
      · skip
        replace h48 := tz_p1.mp h48
        refine tz_aload_n C_ 0 rfl rfl td_M_moment_58 ?_
        refine tz_iload_n C_ 2 rfl rfl td_M_moment_59 ?_
        refine tz_cV C_ tmi_M_takePass tw_845 tw_18 tw_843 hM.1 rfl (As := [.int (nI k)]) (by exact (ct_M_takePass ⟨hM.1, hM.2.1, hM.2.2.1, hM.2.2.2.1, hM.2.2.2.2.1, hM.2.2.2.2.2.1, hM.2.2.2.2.2.2.1, hM.2.2.2.2.2.2.2.1, hM.2.2.2.2.2.2.2.2⟩ hE hWT (k := k) (by omega))) rfl (rest := []) rfl (by decide) (Nat.le_of_ble_eq_true rfl) td_M_moment_60 (st1 := []) rfl (fun f11 hF11 => ?_)
        obtain ⟨⟨roT, hMT, herT⟩, hqT⟩ := hF11
        refine tz_iconst C_ (v := 0) (by decide) td_M_moment_63 ?_
        refine tz_istore C_ (lv' := [(0, .ref M), (1, .int (nI mm)), (2, .int (nI k)), (3, .int (((tz_cur σ).2.2.2.2 mm))), (4, .int 0)]) [1, 2, 3, 4, 0] (by decide) rfl td_M_moment_64 ?_
        have loop66 : ∀ (kk66 : Nat) (fo : Int32) (roL : Nat → Int32) (maL : Nat → Int32) (nsL : Int32) (tgL : Int32) (i : Nat) (fL : tz_PH), (tz_MB cs fL M σ.2.1 σ.2.2.2 (nI (tz_rn (tz_cur σ).2.2.1 (tz_cur σ).1 ((tz_cur σ).1 k).1 ((tz_cur σ).1 k).2 ((tz_cur σ).2.2.2.2 mm) i).1) nsL tgL nw pa bi nu sh roL maL ca) → (∀ q, (q < M ∨ M + 9 ≤ q) → fL q = f q) → (i ≤ (tz_cur σ).2.1) → (tz_er roL (tz_rn (tz_cur σ).2.2.1 (tz_cur σ).1 ((tz_cur σ).1 k).1 ((tz_cur σ).1 k).2 ((tz_cur σ).2.2.2.2 mm) i).1 (tz_rn (tz_cur σ).2.2.1 (tz_cur σ).1 ((tz_cur σ).1 k).1 ((tz_cur σ).1 k).2 ((tz_cur σ).2.2.2.2 mm) i).2.1) → (fo = (tz_rn (tz_cur σ).2.2.1 (tz_cur σ).1 ((tz_cur σ).1 k).1 ((tz_cur σ).1 k).2 ((tz_cur σ).2.2.2.2 mm) i).2.2) → (fo = -1 ∨ ∃ x, x < 120 ∧ fo = nI x) → ((tz_cur σ).2.1 - i) < kk66 → tz_V p_ l e_ rm_M_moment s_ m_ ar_ be_ me_ c_ Q_ A D 7 fL sz 0 0 66 [(0, .ref M), (1, .int (nI mm)), (2, .int (nI k)), (3, .int fo), (4, .int (nI i))] [] := by
          intro kk66
          induction kk66 with
          | zero => intro fo roL maL nsL tgL i fL hM1 hfr hi her hfo hrg hm66; omega
          | succ kk66 ih66 =>
            intro fo roL maL nsL tgL i fL hM1 hfr hi her hfo hrg hm66
            have hok := tz_rn_ok hWT hk ((tz_cur σ).2.2.2.2 mm) i hi
            refine tz_iload C_ 4 rfl td_M_moment_66 ?_
            refine tz_aload_n C_ 0 rfl rfl td_M_moment_68 ?_
            refine tz_get C_ tci_M 0 (by decide) tw_753 hM1.1 rfl td_M_moment_69 ?_
            refine tz_sipush C_ (v := nI 484) (by decide) td_M_moment_72 ?_
            refine tz_ialdN C_ hM1.2.1 (by omega) (by decide) td_M_moment_75 ?_
            rw [hE.2.2.1]
            refine tz_icmp_ge C_ td_M_moment_76 (fun h76 => ?_) (fun h76 => ?_)
            · skip
              replace h76 := (nI_leI (a := (tz_cur σ).2.1) (b := i) (by omega) (by omega)).mp h76
              refine tz_iload_n C_ 3 rfl rfl td_M_moment_207 ?_
              refine tz_if_ge C_ td_M_moment_208 (fun h208 => ?_) (fun h208 => ?_)
              · skip
                refine tz_iload_n C_ 3 rfl rfl td_M_moment_220 ?_
                refine tz_riret C_ hr_ hk_ hQ_ rfl td_M_moment_221 ?_
                have e8 : (tz_cur σ).2.1 = i := by omega
                have hou : (tz_ou (tz_cur σ) k ((tz_cur σ).2.2.2.2 mm)).2.2 = fo := by unfold tz_ou; rw [e8]; exact hfo.symm
                have e9 : sp_moment σ (nI mm) = (fo, σ) := by rw [e7, if_pos ((tz_hasN hk).mp h48)]; rw [hou, if_neg (fun e => absurd h208 (by rw [e]; decide))]
                rw [e9]
                exact ⟨rfl, ⟨_, _, _, _, _, _, _, _, _, _, _, ⟨hM1.1, hM1.2.1, hM1.2.2.1, hM1.2.2.2.1, hM1.2.2.2.2.1, hM1.2.2.2.2.2.1, hM1.2.2.2.2.2.2.1, hM1.2.2.2.2.2.2.2.1, hM1.2.2.2.2.2.2.2.2⟩, hE, hH, hQ⟩, (fun q hh => by rw [hfr q (by omega)])⟩
              · skip
                refine tz_aload_n C_ 0 rfl rfl td_M_moment_211 ?_
                refine tz_ldc C_ tw_838 td_M_moment_212 ?_
                refine tz_cV C_ tmi_M_finding tw_800 tw_14 tw_798 hM1.1 rfl (As := [.int (-100007)]) (by exact (ct_M_finding (v := -100007) hM1.1)) rfl (rest := []) rfl (by decide) (Nat.le_of_ble_eq_true rfl) td_M_moment_214 (st1 := [.int (-100007)]) rfl (fun f12 hF12 => ?_)
                obtain ⟨hs13, hq13⟩ := hF12
                refine tz_goto C_ td_M_moment_217 ?_
                refine tz_riret C_ hr_ hk_ hQ_ rfl td_M_moment_221 ?_
                have e8 : (tz_cur σ).2.1 = i := by omega
                have hou : (tz_ou (tz_cur σ) k ((tz_cur σ).2.2.2.2 mm)).2.2 = fo := by unfold tz_ou; rw [e8]; exact hfo.symm
                have k14 : f12 (M + 1) = some (tz_ints cs 532 nw) := ((hq13 _ (by omega)).trans hM1.2.1)
                have k15 : f12 (M + 2) = some (tz_ints cs 10640 pa) := ((hq13 _ (by omega)).trans hM1.2.2.1)
                have k16 : f12 (M + 3) = some (tz_ints cs 4 bi) := ((hq13 _ (by omega)).trans hM1.2.2.2.1)
                have k17 : f12 (M + 4) = some (tz_ints cs 4 nu) := ((hq13 _ (by omega)).trans hM1.2.2.2.2.1)
                have k18 : f12 (M + 5) = some (tz_ints cs 480 sh) := ((hq13 _ (by omega)).trans hM1.2.2.2.2.2.1)
                have k19 : f12 (M + 6) = some (tz_ints cs 120 roL) := ((hq13 _ (by omega)).trans hM1.2.2.2.2.2.2.1)
                have k20 : f12 (M + 7) = some (tz_ints cs 120 maL) := ((hq13 _ (by omega)).trans hM1.2.2.2.2.2.2.2.1)
                have k21 : f12 (M + 8) = some (tz_ints cs 120 ca) := ((hq13 _ (by omega)).trans hM1.2.2.2.2.2.2.2.2)
                have e9 : sp_moment σ (nI mm) = (-100007, tz_fnd σ) := by rw [e7, if_pos ((tz_hasN hk).mp h48)]; rw [hou, if_pos (hrg.resolve_right (fun z => by obtain ⟨x, hx, e⟩ := z; rw [e] at h208; exact h208 (nI_pos' (by omega)))), tz_an_f (by decide)]
                rw [e9]
                exact ⟨rfl, ⟨_, _, _, _, _, _, _, _, _, _, _, ⟨hs13, k14, k15, k16, k17, k18, k19, k20, k21⟩, hE, hH, hQ⟩, (fun q hh => by rw [hq13 q (by omega), hfr q (by omega)])⟩
            · skip
              replace h76 := mt (nI_leI (a := (tz_cur σ).2.1) (b := i) (by omega) (by omega)).mpr h76
              refine tz_iload_n C_ 3 rfl rfl td_M_moment_79 ?_
              refine tz_if_lt C_ td_M_moment_80 (fun h80 => ?_) (fun h80 => ?_)
              · skip
                refine tz_iload_n C_ 3 rfl rfl td_M_moment_207 ?_
                refine tz_if_ge C_ td_M_moment_208 (fun h208 => ?_) (fun h208 => ?_)
                · skip
                  exact absurd h80 (tz_le_nlt h208)
                · skip
                  refine tz_aload_n C_ 0 rfl rfl td_M_moment_211 ?_
                  refine tz_ldc C_ tw_838 td_M_moment_212 ?_
                  refine tz_cV C_ tmi_M_finding tw_800 tw_14 tw_798 hM1.1 rfl (As := [.int (-100007)]) (by exact (ct_M_finding (v := -100007) hM1.1)) rfl (rest := []) rfl (by decide) (Nat.le_of_ble_eq_true rfl) td_M_moment_214 (st1 := [.int (-100007)]) rfl (fun f22 hF22 => ?_)
                  obtain ⟨hs23, hq23⟩ := hF22
                  refine tz_goto C_ td_M_moment_217 ?_
                  refine tz_riret C_ hr_ hk_ hQ_ rfl td_M_moment_221 ?_
                  have e6 : fo = -1 := hrg.resolve_right (fun z => by obtain ⟨x, hx, e⟩ := z; rw [e] at h80; exact absurd h80 (nI_pos (by omega)))
                  have hou : (tz_ou (tz_cur σ) k ((tz_cur σ).2.2.2.2 mm)).2.2 = -1 := by unfold tz_ou; have e5 := tz_rn_m1 hWT hk (hfo.symm.trans e6) ((tz_cur σ).2.1 - i) (by omega); rw [show i + ((tz_cur σ).2.1 - i) = (tz_cur σ).2.1 by omega] at e5; exact e5
                  have k24 : f22 (M + 1) = some (tz_ints cs 532 nw) := ((hq23 _ (by omega)).trans hM1.2.1)
                  have k25 : f22 (M + 2) = some (tz_ints cs 10640 pa) := ((hq23 _ (by omega)).trans hM1.2.2.1)
                  have k26 : f22 (M + 3) = some (tz_ints cs 4 bi) := ((hq23 _ (by omega)).trans hM1.2.2.2.1)
                  have k27 : f22 (M + 4) = some (tz_ints cs 4 nu) := ((hq23 _ (by omega)).trans hM1.2.2.2.2.1)
                  have k28 : f22 (M + 5) = some (tz_ints cs 480 sh) := ((hq23 _ (by omega)).trans hM1.2.2.2.2.2.1)
                  have k29 : f22 (M + 6) = some (tz_ints cs 120 roL) := ((hq23 _ (by omega)).trans hM1.2.2.2.2.2.2.1)
                  have k30 : f22 (M + 7) = some (tz_ints cs 120 maL) := ((hq23 _ (by omega)).trans hM1.2.2.2.2.2.2.2.1)
                  have k31 : f22 (M + 8) = some (tz_ints cs 120 ca) := ((hq23 _ (by omega)).trans hM1.2.2.2.2.2.2.2.2)
                  have e9 : sp_moment σ (nI mm) = (-100007, tz_fnd σ) := by rw [e7, if_pos ((tz_hasN hk).mp h48)]; rw [hou, if_pos rfl, tz_an_f (by decide)]
                  rw [e9]
                  exact ⟨rfl, ⟨_, _, _, _, _, _, _, _, _, _, _, ⟨hs23, k24, k25, k26, k27, k28, k29, k30, k31⟩, hE, hH, hQ⟩, (fun q hh => by rw [hq23 q (by omega), hfr q (by omega)])⟩
              · skip
                obtain ⟨x, hx, ex⟩ := hrg.resolve_left (fun e => h80 (by rw [e]; decide))
                subst ex
                have hcan := (hWT.2.2.1 i (by omega)).1
                refine tz_aload_n C_ 0 rfl rfl td_M_moment_83 ?_
                refine tz_get C_ tci_M 0 (by decide) tw_753 hM1.1 rfl td_M_moment_84 ?_
                refine tz_sipush C_ (v := 512) (by decide) td_M_moment_87 ?_
                refine tz_iload C_ 4 rfl td_M_moment_90 ?_
                refine tz_iadd C_ td_M_moment_92 ?_
                rw [show (512 + (nI i) : Int32) = nI (512 + i) from nI_add (512) (i)]
                refine tz_ialdN C_ hM1.2.1 (by omega) (by decide) td_M_moment_93 ?_
                rw [(hE.2.2.2.1 i (by omega)).2.2.2]
                refine tz_if_ne C_ td_M_moment_94 (fun h94 => ?_) (fun h94 => ?_)
                · skip
                  refine tz_aload_n C_ 0 rfl rfl td_M_moment_100 ?_
                  refine tz_get C_ tci_M 0 (by decide) tw_753 hM1.1 rfl td_M_moment_101 ?_
                  refine tz_sipush C_ (v := 496) (by decide) td_M_moment_104 ?_
                  refine tz_iload C_ 4 rfl td_M_moment_107 ?_
                  refine tz_iadd C_ td_M_moment_109 ?_
                  rw [show (496 + (nI i) : Int32) = nI (496 + i) from nI_add (496) (i)]
                  refine tz_ialdN C_ hM1.2.1 (by omega) (by decide) td_M_moment_110 ?_
                  rw [(hE.2.2.2.1 i (by omega)).2.1]
                  refine tz_istore C_ (lv' := [(0, .ref M), (1, .int (nI mm)), (2, .int (nI k)), (3, .int (nI x)), (4, .int (nI i)), (5, .int (((tz_cur σ).2.2.1 i).2.1))]) [1, 2, 3, 4, 5, 0] (by decide) rfl td_M_moment_111 ?_
                  refine tz_aload_n C_ 0 rfl rfl td_M_moment_113 ?_
                  refine tz_get C_ tci_M 0 (by decide) tw_753 hM1.1 rfl td_M_moment_114 ?_
                  refine tz_sipush C_ (v := 504) (by decide) td_M_moment_117 ?_
                  refine tz_iload C_ 4 rfl td_M_moment_120 ?_
                  refine tz_iadd C_ td_M_moment_122 ?_
                  rw [show (504 + (nI i) : Int32) = nI (504 + i) from nI_add (504) (i)]
                  refine tz_ialdN C_ hM1.2.1 (by omega) (by decide) td_M_moment_123 ?_
                  rw [(hE.2.2.2.1 i (by omega)).2.2.1]
                  refine tz_istore C_ (lv' := [(0, .ref M), (1, .int (nI mm)), (2, .int (nI k)), (3, .int (nI x)), (4, .int (nI i)), (5, .int (((tz_cur σ).2.2.1 i).2.1)), (6, .int (((tz_cur σ).2.2.1 i).2.2.1))]) [1, 2, 3, 4, 5, 6, 0] (by decide) rfl td_M_moment_124 ?_
                  refine tz_aload_n C_ 0 rfl rfl td_M_moment_126 ?_
                  refine tz_get C_ tci_M 0 (by decide) tw_753 hM1.1 rfl td_M_moment_127 ?_
                  refine tz_sipush C_ (v := 488) (by decide) td_M_moment_130 ?_
                  refine tz_iload C_ 4 rfl td_M_moment_133 ?_
                  refine tz_iadd C_ td_M_moment_135 ?_
                  rw [show (488 + (nI i) : Int32) = nI (488 + i) from nI_add (488) (i)]
                  refine tz_ialdN C_ hM1.2.1 (by omega) (by decide) td_M_moment_136 ?_
                  rw [(hE.2.2.2.1 i (by omega)).1]
                  refine tz_iconst C_ (v := 4) (by decide) td_M_moment_137 ?_
                  refine tz_icmp_ne C_ td_M_moment_138 (fun h138 => ?_) (fun h138 => ?_)
                  · skip
                    refine tz_aload_n C_ 0 rfl rfl td_M_moment_152 ?_
                    refine tz_get C_ tci_M 0 (by decide) tw_753 hM1.1 rfl td_M_moment_153 ?_
                    refine tz_sipush C_ (v := 488) (by decide) td_M_moment_156 ?_
                    refine tz_iload C_ 4 rfl td_M_moment_159 ?_
                    refine tz_iadd C_ td_M_moment_161 ?_
                    rw [show (488 + (nI i) : Int32) = nI (488 + i) from nI_add (488) (i)]
                    refine tz_ialdN C_ hM1.2.1 (by omega) (by decide) td_M_moment_162 ?_
                    rw [(hE.2.2.2.1 i (by omega)).1]
                    refine tz_iconst C_ (v := 5) (by decide) td_M_moment_163 ?_
                    refine tz_icmp_ne C_ td_M_moment_164 (fun h164 => ?_) (fun h164 => ?_)
                    · skip
                      refine tz_aload_n C_ 0 rfl rfl td_M_moment_195 ?_
                      refine tz_iload C_ 4 rfl td_M_moment_196 ?_
                      refine tz_cV C_ tmi_M_work tw_954 tw_29 tw_952 hM1.1 rfl (As := [.int (nI i)]) (by exact (ct_M_work ⟨hM1.1, hM1.2.1, hM1.2.2.1, hM1.2.2.2.1, hM1.2.2.2.2.1, hM1.2.2.2.2.2.1, hM1.2.2.2.2.2.2.1, hM1.2.2.2.2.2.2.2.1, hM1.2.2.2.2.2.2.2.2⟩ her hok.1 hok.2 hE hWT (q := i) (by omega))) rfl (rest := []) rfl (by decide) (Nat.le_of_ble_eq_true rfl) td_M_moment_198 (st1 := []) rfl (fun f32 hF32 => ?_)
                      obtain ⟨⟨roW, maW, nsW, tgW, hMW, herW⟩, hqW⟩ := hF32
                      refine tz_iinc C_ (k := 1) (v := nI (i + 1)) (lv' := [(0, .ref M), (1, .int (nI mm)), (2, .int (nI k)), (3, .int (nI x)), (4, .int (nI (i + 1))), (5, .int (((tz_cur σ).2.2.1 i).2.1)), (6, .int (((tz_cur σ).2.2.1 i).2.2.1))]) 4 rfl (nI_1 i) [1, 2, 3, 4, 0, 5, 6] (by decide) rfl td_M_moment_201 ?_
                      refine tz_goto C_ td_M_moment_204 ?_
                      refine tz_lvs [0, 1, 2, 3, 4] rfl ?_
                      exact ih66 (nI x) roW maW nsW tgW (i + 1) f32 (by rw [(show (tz_rn (tz_cur σ).2.2.1 (tz_cur σ).1 ((tz_cur σ).1 k).1 ((tz_cur σ).1 k).2 ((tz_cur σ).2.2.2.2 mm) (i + 1)) = ((tz_fx ((tz_cur σ).2.2.1 i) (tz_cur σ).1 (tz_rn (tz_cur σ).2.2.1 (tz_cur σ).1 ((tz_cur σ).1 k).1 ((tz_cur σ).1 k).2 ((tz_cur σ).2.2.2.2 mm) i).1 (tz_rn (tz_cur σ).2.2.1 (tz_cur σ).1 ((tz_cur σ).1 k).1 ((tz_cur σ).1 k).2 ((tz_cur σ).2.2.2.2 mm) i).2.1).1, (tz_fx ((tz_cur σ).2.2.1 i) (tz_cur σ).1 (tz_rn (tz_cur σ).2.2.1 (tz_cur σ).1 ((tz_cur σ).1 k).1 ((tz_cur σ).1 k).2 ((tz_cur σ).2.2.2.2 mm) i).1 (tz_rn (tz_cur σ).2.2.1 (tz_cur σ).1 ((tz_cur σ).1 k).1 ((tz_cur σ).1 k).2 ((tz_cur σ).2.2.2.2 mm) i).2.1).2, tz_ff ((tz_cur σ).2.2.1 i) (tz_rn (tz_cur σ).2.2.1 (tz_cur σ).1 ((tz_cur σ).1 k).1 ((tz_cur σ).1 k).2 ((tz_cur σ).2.2.2.2 mm) i).1 (tz_rn (tz_cur σ).2.2.1 (tz_cur σ).1 ((tz_cur σ).1 k).1 ((tz_cur σ).1 k).2 ((tz_cur σ).2.2.2.2 mm) i).2.1 (tz_rn (tz_cur σ).2.2.1 (tz_cur σ).1 ((tz_cur σ).1 k).1 ((tz_cur σ).1 k).2 ((tz_cur σ).2.2.2.2 mm) i).2.2) from by simp only [tz_rn]; rw [if_neg h94])]; exact ⟨hMW.1, hMW.2.1, hMW.2.2.1, hMW.2.2.2.1, hMW.2.2.2.2.1, hMW.2.2.2.2.2.1, hMW.2.2.2.2.2.2.1, hMW.2.2.2.2.2.2.2.1, hMW.2.2.2.2.2.2.2.2⟩) (fun q hh => by rw [hqW q (by omega), hfr q (by omega)]) (by omega) (by rw [(show (tz_rn (tz_cur σ).2.2.1 (tz_cur σ).1 ((tz_cur σ).1 k).1 ((tz_cur σ).1 k).2 ((tz_cur σ).2.2.2.2 mm) (i + 1)) = ((tz_fx ((tz_cur σ).2.2.1 i) (tz_cur σ).1 (tz_rn (tz_cur σ).2.2.1 (tz_cur σ).1 ((tz_cur σ).1 k).1 ((tz_cur σ).1 k).2 ((tz_cur σ).2.2.2.2 mm) i).1 (tz_rn (tz_cur σ).2.2.1 (tz_cur σ).1 ((tz_cur σ).1 k).1 ((tz_cur σ).1 k).2 ((tz_cur σ).2.2.2.2 mm) i).2.1).1, (tz_fx ((tz_cur σ).2.2.1 i) (tz_cur σ).1 (tz_rn (tz_cur σ).2.2.1 (tz_cur σ).1 ((tz_cur σ).1 k).1 ((tz_cur σ).1 k).2 ((tz_cur σ).2.2.2.2 mm) i).1 (tz_rn (tz_cur σ).2.2.1 (tz_cur σ).1 ((tz_cur σ).1 k).1 ((tz_cur σ).1 k).2 ((tz_cur σ).2.2.2.2 mm) i).2.1).2, tz_ff ((tz_cur σ).2.2.1 i) (tz_rn (tz_cur σ).2.2.1 (tz_cur σ).1 ((tz_cur σ).1 k).1 ((tz_cur σ).1 k).2 ((tz_cur σ).2.2.2.2 mm) i).1 (tz_rn (tz_cur σ).2.2.1 (tz_cur σ).1 ((tz_cur σ).1 k).1 ((tz_cur σ).1 k).2 ((tz_cur σ).2.2.2.2 mm) i).2.1 (tz_rn (tz_cur σ).2.2.1 (tz_cur σ).1 ((tz_cur σ).1 k).1 ((tz_cur σ).1 k).2 ((tz_cur σ).2.2.2.2 mm) i).2.2) from by simp only [tz_rn]; rw [if_neg h94])]; exact herW) (by rw [(show (tz_rn (tz_cur σ).2.2.1 (tz_cur σ).1 ((tz_cur σ).1 k).1 ((tz_cur σ).1 k).2 ((tz_cur σ).2.2.2.2 mm) (i + 1)) = ((tz_fx ((tz_cur σ).2.2.1 i) (tz_cur σ).1 (tz_rn (tz_cur σ).2.2.1 (tz_cur σ).1 ((tz_cur σ).1 k).1 ((tz_cur σ).1 k).2 ((tz_cur σ).2.2.2.2 mm) i).1 (tz_rn (tz_cur σ).2.2.1 (tz_cur σ).1 ((tz_cur σ).1 k).1 ((tz_cur σ).1 k).2 ((tz_cur σ).2.2.2.2 mm) i).2.1).1, (tz_fx ((tz_cur σ).2.2.1 i) (tz_cur σ).1 (tz_rn (tz_cur σ).2.2.1 (tz_cur σ).1 ((tz_cur σ).1 k).1 ((tz_cur σ).1 k).2 ((tz_cur σ).2.2.2.2 mm) i).1 (tz_rn (tz_cur σ).2.2.1 (tz_cur σ).1 ((tz_cur σ).1 k).1 ((tz_cur σ).1 k).2 ((tz_cur σ).2.2.2.2 mm) i).2.1).2, tz_ff ((tz_cur σ).2.2.1 i) (tz_rn (tz_cur σ).2.2.1 (tz_cur σ).1 ((tz_cur σ).1 k).1 ((tz_cur σ).1 k).2 ((tz_cur σ).2.2.2.2 mm) i).1 (tz_rn (tz_cur σ).2.2.1 (tz_cur σ).1 ((tz_cur σ).1 k).1 ((tz_cur σ).1 k).2 ((tz_cur σ).2.2.2.2 mm) i).2.1 (tz_rn (tz_cur σ).2.2.1 (tz_cur σ).1 ((tz_cur σ).1 k).1 ((tz_cur σ).1 k).2 ((tz_cur σ).2.2.2.2 mm) i).2.2) from by simp only [tz_rn]; rw [if_neg h94])]; show _ = tz_ff ((tz_cur σ).2.2.1 i) (tz_rn (tz_cur σ).2.2.1 (tz_cur σ).1 ((tz_cur σ).1 k).1 ((tz_cur σ).1 k).2 ((tz_cur σ).2.2.2.2 mm) i).1 (tz_rn (tz_cur σ).2.2.1 (tz_cur σ).1 ((tz_cur σ).1 k).1 ((tz_cur σ).1 k).2 ((tz_cur σ).2.2.2.2 mm) i).2.1 (tz_rn (tz_cur σ).2.2.1 (tz_cur σ).1 ((tz_cur σ).1 k).1 ((tz_cur σ).1 k).2 ((tz_cur σ).2.2.2.2 mm) i).2.2; rw [← hfo]; unfold tz_ff; rw [if_neg h138, if_neg h164]) (Or.inr ⟨x, hx, rfl⟩) (by omega)
                    · skip
                      refine tz_iload_n C_ 3 rfl rfl td_M_moment_167 ?_
                      refine tz_iload C_ 5 rfl td_M_moment_168 ?_
                      refine tz_icmp_ge C_ td_M_moment_170 (fun h170 => ?_) (fun h170 => ?_)
                      · skip
                        refine tz_iload_n C_ 3 rfl rfl td_M_moment_177 ?_
                        refine tz_iload C_ 5 rfl td_M_moment_178 ?_
                        refine tz_iload C_ 6 rfl td_M_moment_180 ?_
                        refine tz_iadd C_ td_M_moment_182 ?_
                        refine tz_icmp_ge C_ td_M_moment_183 (fun h183 => ?_) (fun h183 => ?_)
                        · skip
                          refine tz_iload_n C_ 3 rfl rfl td_M_moment_190 ?_
                          refine tz_iload C_ 6 rfl td_M_moment_191 ?_
                          refine tz_isub C_ td_M_moment_193 ?_
                          refine tz_istore_n C_ (lv' := [(0, .ref M), (1, .int (nI mm)), (2, .int (nI k)), (3, .int ((nI x) - (((tz_cur σ).2.2.1 i).2.2.1))), (4, .int (nI i)), (5, .int (((tz_cur σ).2.2.1 i).2.1)), (6, .int (((tz_cur σ).2.2.1 i).2.2.1))]) [1, 2, 3, 0, 4, 5, 6] rfl (by decide) rfl td_M_moment_194 ?_
                          refine tz_aload_n C_ 0 rfl rfl td_M_moment_195 ?_
                          refine tz_iload C_ 4 rfl td_M_moment_196 ?_
                          refine tz_cV C_ tmi_M_work tw_954 tw_29 tw_952 hM1.1 rfl (As := [.int (nI i)]) (by exact (ct_M_work ⟨hM1.1, hM1.2.1, hM1.2.2.1, hM1.2.2.2.1, hM1.2.2.2.2.1, hM1.2.2.2.2.2.1, hM1.2.2.2.2.2.2.1, hM1.2.2.2.2.2.2.2.1, hM1.2.2.2.2.2.2.2.2⟩ her hok.1 hok.2 hE hWT (q := i) (by omega))) rfl (rest := []) rfl (by decide) (Nat.le_of_ble_eq_true rfl) td_M_moment_198 (st1 := []) rfl (fun f33 hF33 => ?_)
                          obtain ⟨⟨roW, maW, nsW, tgW, hMW, herW⟩, hqW⟩ := hF33
                          refine tz_iinc C_ (k := 1) (v := nI (i + 1)) (lv' := [(0, .ref M), (1, .int (nI mm)), (2, .int (nI k)), (3, .int ((nI x) - (((tz_cur σ).2.2.1 i).2.2.1))), (4, .int (nI (i + 1))), (5, .int (((tz_cur σ).2.2.1 i).2.1)), (6, .int (((tz_cur σ).2.2.1 i).2.2.1))]) 4 rfl (nI_1 i) [1, 2, 3, 4, 0, 5, 6] (by decide) rfl td_M_moment_201 ?_
                          refine tz_goto C_ td_M_moment_204 ?_
                          refine tz_lvs [0, 1, 2, 3, 4] rfl ?_
                          exact ih66 ((nI x) - (((tz_cur σ).2.2.1 i).2.2.1)) roW maW nsW tgW (i + 1) f33 (by rw [(show (tz_rn (tz_cur σ).2.2.1 (tz_cur σ).1 ((tz_cur σ).1 k).1 ((tz_cur σ).1 k).2 ((tz_cur σ).2.2.2.2 mm) (i + 1)) = ((tz_fx ((tz_cur σ).2.2.1 i) (tz_cur σ).1 (tz_rn (tz_cur σ).2.2.1 (tz_cur σ).1 ((tz_cur σ).1 k).1 ((tz_cur σ).1 k).2 ((tz_cur σ).2.2.2.2 mm) i).1 (tz_rn (tz_cur σ).2.2.1 (tz_cur σ).1 ((tz_cur σ).1 k).1 ((tz_cur σ).1 k).2 ((tz_cur σ).2.2.2.2 mm) i).2.1).1, (tz_fx ((tz_cur σ).2.2.1 i) (tz_cur σ).1 (tz_rn (tz_cur σ).2.2.1 (tz_cur σ).1 ((tz_cur σ).1 k).1 ((tz_cur σ).1 k).2 ((tz_cur σ).2.2.2.2 mm) i).1 (tz_rn (tz_cur σ).2.2.1 (tz_cur σ).1 ((tz_cur σ).1 k).1 ((tz_cur σ).1 k).2 ((tz_cur σ).2.2.2.2 mm) i).2.1).2, tz_ff ((tz_cur σ).2.2.1 i) (tz_rn (tz_cur σ).2.2.1 (tz_cur σ).1 ((tz_cur σ).1 k).1 ((tz_cur σ).1 k).2 ((tz_cur σ).2.2.2.2 mm) i).1 (tz_rn (tz_cur σ).2.2.1 (tz_cur σ).1 ((tz_cur σ).1 k).1 ((tz_cur σ).1 k).2 ((tz_cur σ).2.2.2.2 mm) i).2.1 (tz_rn (tz_cur σ).2.2.1 (tz_cur σ).1 ((tz_cur σ).1 k).1 ((tz_cur σ).1 k).2 ((tz_cur σ).2.2.2.2 mm) i).2.2) from by simp only [tz_rn]; rw [if_neg h94])]; exact ⟨hMW.1, hMW.2.1, hMW.2.2.1, hMW.2.2.2.1, hMW.2.2.2.2.1, hMW.2.2.2.2.2.1, hMW.2.2.2.2.2.2.1, hMW.2.2.2.2.2.2.2.1, hMW.2.2.2.2.2.2.2.2⟩) (fun q hh => by rw [hqW q (by omega), hfr q (by omega)]) (by omega) (by rw [(show (tz_rn (tz_cur σ).2.2.1 (tz_cur σ).1 ((tz_cur σ).1 k).1 ((tz_cur σ).1 k).2 ((tz_cur σ).2.2.2.2 mm) (i + 1)) = ((tz_fx ((tz_cur σ).2.2.1 i) (tz_cur σ).1 (tz_rn (tz_cur σ).2.2.1 (tz_cur σ).1 ((tz_cur σ).1 k).1 ((tz_cur σ).1 k).2 ((tz_cur σ).2.2.2.2 mm) i).1 (tz_rn (tz_cur σ).2.2.1 (tz_cur σ).1 ((tz_cur σ).1 k).1 ((tz_cur σ).1 k).2 ((tz_cur σ).2.2.2.2 mm) i).2.1).1, (tz_fx ((tz_cur σ).2.2.1 i) (tz_cur σ).1 (tz_rn (tz_cur σ).2.2.1 (tz_cur σ).1 ((tz_cur σ).1 k).1 ((tz_cur σ).1 k).2 ((tz_cur σ).2.2.2.2 mm) i).1 (tz_rn (tz_cur σ).2.2.1 (tz_cur σ).1 ((tz_cur σ).1 k).1 ((tz_cur σ).1 k).2 ((tz_cur σ).2.2.2.2 mm) i).2.1).2, tz_ff ((tz_cur σ).2.2.1 i) (tz_rn (tz_cur σ).2.2.1 (tz_cur σ).1 ((tz_cur σ).1 k).1 ((tz_cur σ).1 k).2 ((tz_cur σ).2.2.2.2 mm) i).1 (tz_rn (tz_cur σ).2.2.1 (tz_cur σ).1 ((tz_cur σ).1 k).1 ((tz_cur σ).1 k).2 ((tz_cur σ).2.2.2.2 mm) i).2.1 (tz_rn (tz_cur σ).2.2.1 (tz_cur σ).1 ((tz_cur σ).1 k).1 ((tz_cur σ).1 k).2 ((tz_cur σ).2.2.2.2 mm) i).2.2) from by simp only [tz_rn]; rw [if_neg h94])]; exact herW) (by rw [(show (tz_rn (tz_cur σ).2.2.1 (tz_cur σ).1 ((tz_cur σ).1 k).1 ((tz_cur σ).1 k).2 ((tz_cur σ).2.2.2.2 mm) (i + 1)) = ((tz_fx ((tz_cur σ).2.2.1 i) (tz_cur σ).1 (tz_rn (tz_cur σ).2.2.1 (tz_cur σ).1 ((tz_cur σ).1 k).1 ((tz_cur σ).1 k).2 ((tz_cur σ).2.2.2.2 mm) i).1 (tz_rn (tz_cur σ).2.2.1 (tz_cur σ).1 ((tz_cur σ).1 k).1 ((tz_cur σ).1 k).2 ((tz_cur σ).2.2.2.2 mm) i).2.1).1, (tz_fx ((tz_cur σ).2.2.1 i) (tz_cur σ).1 (tz_rn (tz_cur σ).2.2.1 (tz_cur σ).1 ((tz_cur σ).1 k).1 ((tz_cur σ).1 k).2 ((tz_cur σ).2.2.2.2 mm) i).1 (tz_rn (tz_cur σ).2.2.1 (tz_cur σ).1 ((tz_cur σ).1 k).1 ((tz_cur σ).1 k).2 ((tz_cur σ).2.2.2.2 mm) i).2.1).2, tz_ff ((tz_cur σ).2.2.1 i) (tz_rn (tz_cur σ).2.2.1 (tz_cur σ).1 ((tz_cur σ).1 k).1 ((tz_cur σ).1 k).2 ((tz_cur σ).2.2.2.2 mm) i).1 (tz_rn (tz_cur σ).2.2.1 (tz_cur σ).1 ((tz_cur σ).1 k).1 ((tz_cur σ).1 k).2 ((tz_cur σ).2.2.2.2 mm) i).2.1 (tz_rn (tz_cur σ).2.2.1 (tz_cur σ).1 ((tz_cur σ).1 k).1 ((tz_cur σ).1 k).2 ((tz_cur σ).2.2.2.2 mm) i).2.2) from by simp only [tz_rn]; rw [if_neg h94])]; show _ = tz_ff ((tz_cur σ).2.2.1 i) (tz_rn (tz_cur σ).2.2.1 (tz_cur σ).1 ((tz_cur σ).1 k).1 ((tz_cur σ).1 k).2 ((tz_cur σ).2.2.2.2 mm) i).1 (tz_rn (tz_cur σ).2.2.1 (tz_cur σ).1 ((tz_cur σ).1 k).1 ((tz_cur σ).1 k).2 ((tz_cur σ).2.2.2.2 mm) i).2.1 (tz_rn (tz_cur σ).2.2.1 (tz_cur σ).1 ((tz_cur σ).1 k).1 ((tz_cur σ).1 k).2 ((tz_cur σ).2.2.2.2 mm) i).2.2; rw [← hfo]; unfold tz_ff; rw [if_neg h138, if_pos h164]; unfold tz_cf; rw [if_pos h170, if_neg (tz_le_nlt h183)]) (Or.inr (tz_cf_rg (by rw [← h164]; exact hcan) hx h183)) (by omega)
                        · skip
                          refine tz_iconst C_ (v := -1) (by decide) td_M_moment_186 ?_
                          refine tz_goto C_ td_M_moment_187 ?_
                          refine tz_istore_n C_ (lv' := [(0, .ref M), (1, .int (nI mm)), (2, .int (nI k)), (3, .int (-1)), (4, .int (nI i)), (5, .int (((tz_cur σ).2.2.1 i).2.1)), (6, .int (((tz_cur σ).2.2.1 i).2.2.1))]) [1, 2, 3, 0, 4, 5, 6] rfl (by decide) rfl td_M_moment_194 ?_
                          refine tz_aload_n C_ 0 rfl rfl td_M_moment_195 ?_
                          refine tz_iload C_ 4 rfl td_M_moment_196 ?_
                          refine tz_cV C_ tmi_M_work tw_954 tw_29 tw_952 hM1.1 rfl (As := [.int (nI i)]) (by exact (ct_M_work ⟨hM1.1, hM1.2.1, hM1.2.2.1, hM1.2.2.2.1, hM1.2.2.2.2.1, hM1.2.2.2.2.2.1, hM1.2.2.2.2.2.2.1, hM1.2.2.2.2.2.2.2.1, hM1.2.2.2.2.2.2.2.2⟩ her hok.1 hok.2 hE hWT (q := i) (by omega))) rfl (rest := []) rfl (by decide) (Nat.le_of_ble_eq_true rfl) td_M_moment_198 (st1 := []) rfl (fun f34 hF34 => ?_)
                          obtain ⟨⟨roW, maW, nsW, tgW, hMW, herW⟩, hqW⟩ := hF34
                          refine tz_iinc C_ (k := 1) (v := nI (i + 1)) (lv' := [(0, .ref M), (1, .int (nI mm)), (2, .int (nI k)), (3, .int (-1)), (4, .int (nI (i + 1))), (5, .int (((tz_cur σ).2.2.1 i).2.1)), (6, .int (((tz_cur σ).2.2.1 i).2.2.1))]) 4 rfl (nI_1 i) [1, 2, 3, 4, 0, 5, 6] (by decide) rfl td_M_moment_201 ?_
                          refine tz_goto C_ td_M_moment_204 ?_
                          refine tz_lvs [0, 1, 2, 3, 4] rfl ?_
                          exact ih66 (-1) roW maW nsW tgW (i + 1) f34 (by rw [(show (tz_rn (tz_cur σ).2.2.1 (tz_cur σ).1 ((tz_cur σ).1 k).1 ((tz_cur σ).1 k).2 ((tz_cur σ).2.2.2.2 mm) (i + 1)) = ((tz_fx ((tz_cur σ).2.2.1 i) (tz_cur σ).1 (tz_rn (tz_cur σ).2.2.1 (tz_cur σ).1 ((tz_cur σ).1 k).1 ((tz_cur σ).1 k).2 ((tz_cur σ).2.2.2.2 mm) i).1 (tz_rn (tz_cur σ).2.2.1 (tz_cur σ).1 ((tz_cur σ).1 k).1 ((tz_cur σ).1 k).2 ((tz_cur σ).2.2.2.2 mm) i).2.1).1, (tz_fx ((tz_cur σ).2.2.1 i) (tz_cur σ).1 (tz_rn (tz_cur σ).2.2.1 (tz_cur σ).1 ((tz_cur σ).1 k).1 ((tz_cur σ).1 k).2 ((tz_cur σ).2.2.2.2 mm) i).1 (tz_rn (tz_cur σ).2.2.1 (tz_cur σ).1 ((tz_cur σ).1 k).1 ((tz_cur σ).1 k).2 ((tz_cur σ).2.2.2.2 mm) i).2.1).2, tz_ff ((tz_cur σ).2.2.1 i) (tz_rn (tz_cur σ).2.2.1 (tz_cur σ).1 ((tz_cur σ).1 k).1 ((tz_cur σ).1 k).2 ((tz_cur σ).2.2.2.2 mm) i).1 (tz_rn (tz_cur σ).2.2.1 (tz_cur σ).1 ((tz_cur σ).1 k).1 ((tz_cur σ).1 k).2 ((tz_cur σ).2.2.2.2 mm) i).2.1 (tz_rn (tz_cur σ).2.2.1 (tz_cur σ).1 ((tz_cur σ).1 k).1 ((tz_cur σ).1 k).2 ((tz_cur σ).2.2.2.2 mm) i).2.2) from by simp only [tz_rn]; rw [if_neg h94])]; exact ⟨hMW.1, hMW.2.1, hMW.2.2.1, hMW.2.2.2.1, hMW.2.2.2.2.1, hMW.2.2.2.2.2.1, hMW.2.2.2.2.2.2.1, hMW.2.2.2.2.2.2.2.1, hMW.2.2.2.2.2.2.2.2⟩) (fun q hh => by rw [hqW q (by omega), hfr q (by omega)]) (by omega) (by rw [(show (tz_rn (tz_cur σ).2.2.1 (tz_cur σ).1 ((tz_cur σ).1 k).1 ((tz_cur σ).1 k).2 ((tz_cur σ).2.2.2.2 mm) (i + 1)) = ((tz_fx ((tz_cur σ).2.2.1 i) (tz_cur σ).1 (tz_rn (tz_cur σ).2.2.1 (tz_cur σ).1 ((tz_cur σ).1 k).1 ((tz_cur σ).1 k).2 ((tz_cur σ).2.2.2.2 mm) i).1 (tz_rn (tz_cur σ).2.2.1 (tz_cur σ).1 ((tz_cur σ).1 k).1 ((tz_cur σ).1 k).2 ((tz_cur σ).2.2.2.2 mm) i).2.1).1, (tz_fx ((tz_cur σ).2.2.1 i) (tz_cur σ).1 (tz_rn (tz_cur σ).2.2.1 (tz_cur σ).1 ((tz_cur σ).1 k).1 ((tz_cur σ).1 k).2 ((tz_cur σ).2.2.2.2 mm) i).1 (tz_rn (tz_cur σ).2.2.1 (tz_cur σ).1 ((tz_cur σ).1 k).1 ((tz_cur σ).1 k).2 ((tz_cur σ).2.2.2.2 mm) i).2.1).2, tz_ff ((tz_cur σ).2.2.1 i) (tz_rn (tz_cur σ).2.2.1 (tz_cur σ).1 ((tz_cur σ).1 k).1 ((tz_cur σ).1 k).2 ((tz_cur σ).2.2.2.2 mm) i).1 (tz_rn (tz_cur σ).2.2.1 (tz_cur σ).1 ((tz_cur σ).1 k).1 ((tz_cur σ).1 k).2 ((tz_cur σ).2.2.2.2 mm) i).2.1 (tz_rn (tz_cur σ).2.2.1 (tz_cur σ).1 ((tz_cur σ).1 k).1 ((tz_cur σ).1 k).2 ((tz_cur σ).2.2.2.2 mm) i).2.2) from by simp only [tz_rn]; rw [if_neg h94])]; exact herW) (by rw [(show (tz_rn (tz_cur σ).2.2.1 (tz_cur σ).1 ((tz_cur σ).1 k).1 ((tz_cur σ).1 k).2 ((tz_cur σ).2.2.2.2 mm) (i + 1)) = ((tz_fx ((tz_cur σ).2.2.1 i) (tz_cur σ).1 (tz_rn (tz_cur σ).2.2.1 (tz_cur σ).1 ((tz_cur σ).1 k).1 ((tz_cur σ).1 k).2 ((tz_cur σ).2.2.2.2 mm) i).1 (tz_rn (tz_cur σ).2.2.1 (tz_cur σ).1 ((tz_cur σ).1 k).1 ((tz_cur σ).1 k).2 ((tz_cur σ).2.2.2.2 mm) i).2.1).1, (tz_fx ((tz_cur σ).2.2.1 i) (tz_cur σ).1 (tz_rn (tz_cur σ).2.2.1 (tz_cur σ).1 ((tz_cur σ).1 k).1 ((tz_cur σ).1 k).2 ((tz_cur σ).2.2.2.2 mm) i).1 (tz_rn (tz_cur σ).2.2.1 (tz_cur σ).1 ((tz_cur σ).1 k).1 ((tz_cur σ).1 k).2 ((tz_cur σ).2.2.2.2 mm) i).2.1).2, tz_ff ((tz_cur σ).2.2.1 i) (tz_rn (tz_cur σ).2.2.1 (tz_cur σ).1 ((tz_cur σ).1 k).1 ((tz_cur σ).1 k).2 ((tz_cur σ).2.2.2.2 mm) i).1 (tz_rn (tz_cur σ).2.2.1 (tz_cur σ).1 ((tz_cur σ).1 k).1 ((tz_cur σ).1 k).2 ((tz_cur σ).2.2.2.2 mm) i).2.1 (tz_rn (tz_cur σ).2.2.1 (tz_cur σ).1 ((tz_cur σ).1 k).1 ((tz_cur σ).1 k).2 ((tz_cur σ).2.2.2.2 mm) i).2.2) from by simp only [tz_rn]; rw [if_neg h94])]; show _ = tz_ff ((tz_cur σ).2.2.1 i) (tz_rn (tz_cur σ).2.2.1 (tz_cur σ).1 ((tz_cur σ).1 k).1 ((tz_cur σ).1 k).2 ((tz_cur σ).2.2.2.2 mm) i).1 (tz_rn (tz_cur σ).2.2.1 (tz_cur σ).1 ((tz_cur σ).1 k).1 ((tz_cur σ).1 k).2 ((tz_cur σ).2.2.2.2 mm) i).2.1 (tz_rn (tz_cur σ).2.2.1 (tz_cur σ).1 ((tz_cur σ).1 k).1 ((tz_cur σ).1 k).2 ((tz_cur σ).2.2.2.2 mm) i).2.2; rw [← hfo]; unfold tz_ff; rw [if_neg h138, if_pos h164]; unfold tz_cf; rw [if_pos h170, if_pos (Int32.not_le.mp h183)]) (Or.inl rfl) (by omega)
                      · skip
                        refine tz_iload_n C_ 3 rfl rfl td_M_moment_173 ?_
                        refine tz_goto C_ td_M_moment_174 ?_
                        refine tz_istore_n C_ (lv' := [(0, .ref M), (1, .int (nI mm)), (2, .int (nI k)), (3, .int (nI x)), (4, .int (nI i)), (5, .int (((tz_cur σ).2.2.1 i).2.1)), (6, .int (((tz_cur σ).2.2.1 i).2.2.1))]) [1, 2, 3, 0, 4, 5, 6] rfl (by decide) rfl td_M_moment_194 ?_
                        refine tz_aload_n C_ 0 rfl rfl td_M_moment_195 ?_
                        refine tz_iload C_ 4 rfl td_M_moment_196 ?_
                        refine tz_cV C_ tmi_M_work tw_954 tw_29 tw_952 hM1.1 rfl (As := [.int (nI i)]) (by exact (ct_M_work ⟨hM1.1, hM1.2.1, hM1.2.2.1, hM1.2.2.2.1, hM1.2.2.2.2.1, hM1.2.2.2.2.2.1, hM1.2.2.2.2.2.2.1, hM1.2.2.2.2.2.2.2.1, hM1.2.2.2.2.2.2.2.2⟩ her hok.1 hok.2 hE hWT (q := i) (by omega))) rfl (rest := []) rfl (by decide) (Nat.le_of_ble_eq_true rfl) td_M_moment_198 (st1 := []) rfl (fun f35 hF35 => ?_)
                        obtain ⟨⟨roW, maW, nsW, tgW, hMW, herW⟩, hqW⟩ := hF35
                        refine tz_iinc C_ (k := 1) (v := nI (i + 1)) (lv' := [(0, .ref M), (1, .int (nI mm)), (2, .int (nI k)), (3, .int (nI x)), (4, .int (nI (i + 1))), (5, .int (((tz_cur σ).2.2.1 i).2.1)), (6, .int (((tz_cur σ).2.2.1 i).2.2.1))]) 4 rfl (nI_1 i) [1, 2, 3, 4, 0, 5, 6] (by decide) rfl td_M_moment_201 ?_
                        refine tz_goto C_ td_M_moment_204 ?_
                        refine tz_lvs [0, 1, 2, 3, 4] rfl ?_
                        exact ih66 (nI x) roW maW nsW tgW (i + 1) f35 (by rw [(show (tz_rn (tz_cur σ).2.2.1 (tz_cur σ).1 ((tz_cur σ).1 k).1 ((tz_cur σ).1 k).2 ((tz_cur σ).2.2.2.2 mm) (i + 1)) = ((tz_fx ((tz_cur σ).2.2.1 i) (tz_cur σ).1 (tz_rn (tz_cur σ).2.2.1 (tz_cur σ).1 ((tz_cur σ).1 k).1 ((tz_cur σ).1 k).2 ((tz_cur σ).2.2.2.2 mm) i).1 (tz_rn (tz_cur σ).2.2.1 (tz_cur σ).1 ((tz_cur σ).1 k).1 ((tz_cur σ).1 k).2 ((tz_cur σ).2.2.2.2 mm) i).2.1).1, (tz_fx ((tz_cur σ).2.2.1 i) (tz_cur σ).1 (tz_rn (tz_cur σ).2.2.1 (tz_cur σ).1 ((tz_cur σ).1 k).1 ((tz_cur σ).1 k).2 ((tz_cur σ).2.2.2.2 mm) i).1 (tz_rn (tz_cur σ).2.2.1 (tz_cur σ).1 ((tz_cur σ).1 k).1 ((tz_cur σ).1 k).2 ((tz_cur σ).2.2.2.2 mm) i).2.1).2, tz_ff ((tz_cur σ).2.2.1 i) (tz_rn (tz_cur σ).2.2.1 (tz_cur σ).1 ((tz_cur σ).1 k).1 ((tz_cur σ).1 k).2 ((tz_cur σ).2.2.2.2 mm) i).1 (tz_rn (tz_cur σ).2.2.1 (tz_cur σ).1 ((tz_cur σ).1 k).1 ((tz_cur σ).1 k).2 ((tz_cur σ).2.2.2.2 mm) i).2.1 (tz_rn (tz_cur σ).2.2.1 (tz_cur σ).1 ((tz_cur σ).1 k).1 ((tz_cur σ).1 k).2 ((tz_cur σ).2.2.2.2 mm) i).2.2) from by simp only [tz_rn]; rw [if_neg h94])]; exact ⟨hMW.1, hMW.2.1, hMW.2.2.1, hMW.2.2.2.1, hMW.2.2.2.2.1, hMW.2.2.2.2.2.1, hMW.2.2.2.2.2.2.1, hMW.2.2.2.2.2.2.2.1, hMW.2.2.2.2.2.2.2.2⟩) (fun q hh => by rw [hqW q (by omega), hfr q (by omega)]) (by omega) (by rw [(show (tz_rn (tz_cur σ).2.2.1 (tz_cur σ).1 ((tz_cur σ).1 k).1 ((tz_cur σ).1 k).2 ((tz_cur σ).2.2.2.2 mm) (i + 1)) = ((tz_fx ((tz_cur σ).2.2.1 i) (tz_cur σ).1 (tz_rn (tz_cur σ).2.2.1 (tz_cur σ).1 ((tz_cur σ).1 k).1 ((tz_cur σ).1 k).2 ((tz_cur σ).2.2.2.2 mm) i).1 (tz_rn (tz_cur σ).2.2.1 (tz_cur σ).1 ((tz_cur σ).1 k).1 ((tz_cur σ).1 k).2 ((tz_cur σ).2.2.2.2 mm) i).2.1).1, (tz_fx ((tz_cur σ).2.2.1 i) (tz_cur σ).1 (tz_rn (tz_cur σ).2.2.1 (tz_cur σ).1 ((tz_cur σ).1 k).1 ((tz_cur σ).1 k).2 ((tz_cur σ).2.2.2.2 mm) i).1 (tz_rn (tz_cur σ).2.2.1 (tz_cur σ).1 ((tz_cur σ).1 k).1 ((tz_cur σ).1 k).2 ((tz_cur σ).2.2.2.2 mm) i).2.1).2, tz_ff ((tz_cur σ).2.2.1 i) (tz_rn (tz_cur σ).2.2.1 (tz_cur σ).1 ((tz_cur σ).1 k).1 ((tz_cur σ).1 k).2 ((tz_cur σ).2.2.2.2 mm) i).1 (tz_rn (tz_cur σ).2.2.1 (tz_cur σ).1 ((tz_cur σ).1 k).1 ((tz_cur σ).1 k).2 ((tz_cur σ).2.2.2.2 mm) i).2.1 (tz_rn (tz_cur σ).2.2.1 (tz_cur σ).1 ((tz_cur σ).1 k).1 ((tz_cur σ).1 k).2 ((tz_cur σ).2.2.2.2 mm) i).2.2) from by simp only [tz_rn]; rw [if_neg h94])]; exact herW) (by rw [(show (tz_rn (tz_cur σ).2.2.1 (tz_cur σ).1 ((tz_cur σ).1 k).1 ((tz_cur σ).1 k).2 ((tz_cur σ).2.2.2.2 mm) (i + 1)) = ((tz_fx ((tz_cur σ).2.2.1 i) (tz_cur σ).1 (tz_rn (tz_cur σ).2.2.1 (tz_cur σ).1 ((tz_cur σ).1 k).1 ((tz_cur σ).1 k).2 ((tz_cur σ).2.2.2.2 mm) i).1 (tz_rn (tz_cur σ).2.2.1 (tz_cur σ).1 ((tz_cur σ).1 k).1 ((tz_cur σ).1 k).2 ((tz_cur σ).2.2.2.2 mm) i).2.1).1, (tz_fx ((tz_cur σ).2.2.1 i) (tz_cur σ).1 (tz_rn (tz_cur σ).2.2.1 (tz_cur σ).1 ((tz_cur σ).1 k).1 ((tz_cur σ).1 k).2 ((tz_cur σ).2.2.2.2 mm) i).1 (tz_rn (tz_cur σ).2.2.1 (tz_cur σ).1 ((tz_cur σ).1 k).1 ((tz_cur σ).1 k).2 ((tz_cur σ).2.2.2.2 mm) i).2.1).2, tz_ff ((tz_cur σ).2.2.1 i) (tz_rn (tz_cur σ).2.2.1 (tz_cur σ).1 ((tz_cur σ).1 k).1 ((tz_cur σ).1 k).2 ((tz_cur σ).2.2.2.2 mm) i).1 (tz_rn (tz_cur σ).2.2.1 (tz_cur σ).1 ((tz_cur σ).1 k).1 ((tz_cur σ).1 k).2 ((tz_cur σ).2.2.2.2 mm) i).2.1 (tz_rn (tz_cur σ).2.2.1 (tz_cur σ).1 ((tz_cur σ).1 k).1 ((tz_cur σ).1 k).2 ((tz_cur σ).2.2.2.2 mm) i).2.2) from by simp only [tz_rn]; rw [if_neg h94])]; show _ = tz_ff ((tz_cur σ).2.2.1 i) (tz_rn (tz_cur σ).2.2.1 (tz_cur σ).1 ((tz_cur σ).1 k).1 ((tz_cur σ).1 k).2 ((tz_cur σ).2.2.2.2 mm) i).1 (tz_rn (tz_cur σ).2.2.1 (tz_cur σ).1 ((tz_cur σ).1 k).1 ((tz_cur σ).1 k).2 ((tz_cur σ).2.2.2.2 mm) i).2.1 (tz_rn (tz_cur σ).2.2.1 (tz_cur σ).1 ((tz_cur σ).1 k).1 ((tz_cur σ).1 k).2 ((tz_cur σ).2.2.2.2 mm) i).2.2; rw [← hfo]; unfold tz_ff; rw [if_neg h138, if_pos h164]; unfold tz_cf; rw [if_neg h170]) (Or.inr ⟨x, hx, rfl⟩) (by omega)
                  · skip
                    obtain ⟨vv, hvv, evv⟩ := tz_can4 hcan h138
                    rw [evv]
                    refine tz_aload_n C_ 0 rfl rfl td_M_moment_141 ?_
                    refine tz_iload_n C_ 3 rfl rfl td_M_moment_142 ?_
                    refine tz_iload C_ 5 rfl td_M_moment_143 ?_
                    refine tz_rV C_ tmi_M_warped tw_1046 tw_40 tw_1044 hM1.1 rfl (As := [.int (nI x), .int (nI vv)]) (by exact (ct_M_warped ⟨hM1.1, hM1.2.1, hM1.2.2.1, hM1.2.2.2.1, hM1.2.2.2.2.1, hM1.2.2.2.2.2.1, hM1.2.2.2.2.2.2.1, hM1.2.2.2.2.2.2.2.1, hM1.2.2.2.2.2.2.2.2⟩ her hok.1 hok.2 (x := x) (v := vv) (by omega) hvv)) rfl (rest := []) rfl (by decide) (Nat.le_of_ble_eq_true rfl) td_M_moment_145 (st1 := [.int (tz_wf (tz_rn (tz_cur σ).2.2.1 (tz_cur σ).1 ((tz_cur σ).1 k).1 ((tz_cur σ).1 k).2 ((tz_cur σ).2.2.2.2 mm) i).1 (tz_rn (tz_cur σ).2.2.1 (tz_cur σ).1 ((tz_cur σ).1 k).1 ((tz_cur σ).1 k).2 ((tz_cur σ).2.2.2.2 mm) i).2.1 vv (nI x))]) rfl ?_
                    refine tz_istore_n C_ (lv' := [(0, .ref M), (1, .int (nI mm)), (2, .int (nI k)), (3, .int (tz_wf (tz_rn (tz_cur σ).2.2.1 (tz_cur σ).1 ((tz_cur σ).1 k).1 ((tz_cur σ).1 k).2 ((tz_cur σ).2.2.2.2 mm) i).1 (tz_rn (tz_cur σ).2.2.1 (tz_cur σ).1 ((tz_cur σ).1 k).1 ((tz_cur σ).1 k).2 ((tz_cur σ).2.2.2.2 mm) i).2.1 vv (nI x))), (4, .int (nI i)), (5, .int (nI vv)), (6, .int (((tz_cur σ).2.2.1 i).2.2.1))]) [1, 2, 3, 0, 4, 5, 6] rfl (by decide) rfl td_M_moment_148 ?_
                    refine tz_goto C_ td_M_moment_149 ?_
                    refine tz_aload_n C_ 0 rfl rfl td_M_moment_195 ?_
                    refine tz_iload C_ 4 rfl td_M_moment_196 ?_
                    refine tz_cV C_ tmi_M_work tw_954 tw_29 tw_952 hM1.1 rfl (As := [.int (nI i)]) (by exact (ct_M_work ⟨hM1.1, hM1.2.1, hM1.2.2.1, hM1.2.2.2.1, hM1.2.2.2.2.1, hM1.2.2.2.2.2.1, hM1.2.2.2.2.2.2.1, hM1.2.2.2.2.2.2.2.1, hM1.2.2.2.2.2.2.2.2⟩ her hok.1 hok.2 hE hWT (q := i) (by omega))) rfl (rest := []) rfl (by decide) (Nat.le_of_ble_eq_true rfl) td_M_moment_198 (st1 := []) rfl (fun f36 hF36 => ?_)
                    obtain ⟨⟨roW, maW, nsW, tgW, hMW, herW⟩, hqW⟩ := hF36
                    refine tz_iinc C_ (k := 1) (v := nI (i + 1)) (lv' := [(0, .ref M), (1, .int (nI mm)), (2, .int (nI k)), (3, .int (tz_wf (tz_rn (tz_cur σ).2.2.1 (tz_cur σ).1 ((tz_cur σ).1 k).1 ((tz_cur σ).1 k).2 ((tz_cur σ).2.2.2.2 mm) i).1 (tz_rn (tz_cur σ).2.2.1 (tz_cur σ).1 ((tz_cur σ).1 k).1 ((tz_cur σ).1 k).2 ((tz_cur σ).2.2.2.2 mm) i).2.1 vv (nI x))), (4, .int (nI (i + 1))), (5, .int (nI vv)), (6, .int (((tz_cur σ).2.2.1 i).2.2.1))]) 4 rfl (nI_1 i) [1, 2, 3, 4, 0, 5, 6] (by decide) rfl td_M_moment_201 ?_
                    refine tz_goto C_ td_M_moment_204 ?_
                    refine tz_lvs [0, 1, 2, 3, 4] rfl ?_
                    exact ih66 (tz_wf (tz_rn (tz_cur σ).2.2.1 (tz_cur σ).1 ((tz_cur σ).1 k).1 ((tz_cur σ).1 k).2 ((tz_cur σ).2.2.2.2 mm) i).1 (tz_rn (tz_cur σ).2.2.1 (tz_cur σ).1 ((tz_cur σ).1 k).1 ((tz_cur σ).1 k).2 ((tz_cur σ).2.2.2.2 mm) i).2.1 vv (nI x)) roW maW nsW tgW (i + 1) f36 (by rw [(show (tz_rn (tz_cur σ).2.2.1 (tz_cur σ).1 ((tz_cur σ).1 k).1 ((tz_cur σ).1 k).2 ((tz_cur σ).2.2.2.2 mm) (i + 1)) = ((tz_fx ((tz_cur σ).2.2.1 i) (tz_cur σ).1 (tz_rn (tz_cur σ).2.2.1 (tz_cur σ).1 ((tz_cur σ).1 k).1 ((tz_cur σ).1 k).2 ((tz_cur σ).2.2.2.2 mm) i).1 (tz_rn (tz_cur σ).2.2.1 (tz_cur σ).1 ((tz_cur σ).1 k).1 ((tz_cur σ).1 k).2 ((tz_cur σ).2.2.2.2 mm) i).2.1).1, (tz_fx ((tz_cur σ).2.2.1 i) (tz_cur σ).1 (tz_rn (tz_cur σ).2.2.1 (tz_cur σ).1 ((tz_cur σ).1 k).1 ((tz_cur σ).1 k).2 ((tz_cur σ).2.2.2.2 mm) i).1 (tz_rn (tz_cur σ).2.2.1 (tz_cur σ).1 ((tz_cur σ).1 k).1 ((tz_cur σ).1 k).2 ((tz_cur σ).2.2.2.2 mm) i).2.1).2, tz_ff ((tz_cur σ).2.2.1 i) (tz_rn (tz_cur σ).2.2.1 (tz_cur σ).1 ((tz_cur σ).1 k).1 ((tz_cur σ).1 k).2 ((tz_cur σ).2.2.2.2 mm) i).1 (tz_rn (tz_cur σ).2.2.1 (tz_cur σ).1 ((tz_cur σ).1 k).1 ((tz_cur σ).1 k).2 ((tz_cur σ).2.2.2.2 mm) i).2.1 (tz_rn (tz_cur σ).2.2.1 (tz_cur σ).1 ((tz_cur σ).1 k).1 ((tz_cur σ).1 k).2 ((tz_cur σ).2.2.2.2 mm) i).2.2) from by simp only [tz_rn]; rw [if_neg h94])]; exact ⟨hMW.1, hMW.2.1, hMW.2.2.1, hMW.2.2.2.1, hMW.2.2.2.2.1, hMW.2.2.2.2.2.1, hMW.2.2.2.2.2.2.1, hMW.2.2.2.2.2.2.2.1, hMW.2.2.2.2.2.2.2.2⟩) (fun q hh => by rw [hqW q (by omega), hfr q (by omega)]) (by omega) (by rw [(show (tz_rn (tz_cur σ).2.2.1 (tz_cur σ).1 ((tz_cur σ).1 k).1 ((tz_cur σ).1 k).2 ((tz_cur σ).2.2.2.2 mm) (i + 1)) = ((tz_fx ((tz_cur σ).2.2.1 i) (tz_cur σ).1 (tz_rn (tz_cur σ).2.2.1 (tz_cur σ).1 ((tz_cur σ).1 k).1 ((tz_cur σ).1 k).2 ((tz_cur σ).2.2.2.2 mm) i).1 (tz_rn (tz_cur σ).2.2.1 (tz_cur σ).1 ((tz_cur σ).1 k).1 ((tz_cur σ).1 k).2 ((tz_cur σ).2.2.2.2 mm) i).2.1).1, (tz_fx ((tz_cur σ).2.2.1 i) (tz_cur σ).1 (tz_rn (tz_cur σ).2.2.1 (tz_cur σ).1 ((tz_cur σ).1 k).1 ((tz_cur σ).1 k).2 ((tz_cur σ).2.2.2.2 mm) i).1 (tz_rn (tz_cur σ).2.2.1 (tz_cur σ).1 ((tz_cur σ).1 k).1 ((tz_cur σ).1 k).2 ((tz_cur σ).2.2.2.2 mm) i).2.1).2, tz_ff ((tz_cur σ).2.2.1 i) (tz_rn (tz_cur σ).2.2.1 (tz_cur σ).1 ((tz_cur σ).1 k).1 ((tz_cur σ).1 k).2 ((tz_cur σ).2.2.2.2 mm) i).1 (tz_rn (tz_cur σ).2.2.1 (tz_cur σ).1 ((tz_cur σ).1 k).1 ((tz_cur σ).1 k).2 ((tz_cur σ).2.2.2.2 mm) i).2.1 (tz_rn (tz_cur σ).2.2.1 (tz_cur σ).1 ((tz_cur σ).1 k).1 ((tz_cur σ).1 k).2 ((tz_cur σ).2.2.2.2 mm) i).2.2) from by simp only [tz_rn]; rw [if_neg h94])]; exact herW) (by rw [(show (tz_rn (tz_cur σ).2.2.1 (tz_cur σ).1 ((tz_cur σ).1 k).1 ((tz_cur σ).1 k).2 ((tz_cur σ).2.2.2.2 mm) (i + 1)) = ((tz_fx ((tz_cur σ).2.2.1 i) (tz_cur σ).1 (tz_rn (tz_cur σ).2.2.1 (tz_cur σ).1 ((tz_cur σ).1 k).1 ((tz_cur σ).1 k).2 ((tz_cur σ).2.2.2.2 mm) i).1 (tz_rn (tz_cur σ).2.2.1 (tz_cur σ).1 ((tz_cur σ).1 k).1 ((tz_cur σ).1 k).2 ((tz_cur σ).2.2.2.2 mm) i).2.1).1, (tz_fx ((tz_cur σ).2.2.1 i) (tz_cur σ).1 (tz_rn (tz_cur σ).2.2.1 (tz_cur σ).1 ((tz_cur σ).1 k).1 ((tz_cur σ).1 k).2 ((tz_cur σ).2.2.2.2 mm) i).1 (tz_rn (tz_cur σ).2.2.1 (tz_cur σ).1 ((tz_cur σ).1 k).1 ((tz_cur σ).1 k).2 ((tz_cur σ).2.2.2.2 mm) i).2.1).2, tz_ff ((tz_cur σ).2.2.1 i) (tz_rn (tz_cur σ).2.2.1 (tz_cur σ).1 ((tz_cur σ).1 k).1 ((tz_cur σ).1 k).2 ((tz_cur σ).2.2.2.2 mm) i).1 (tz_rn (tz_cur σ).2.2.1 (tz_cur σ).1 ((tz_cur σ).1 k).1 ((tz_cur σ).1 k).2 ((tz_cur σ).2.2.2.2 mm) i).2.1 (tz_rn (tz_cur σ).2.2.1 (tz_cur σ).1 ((tz_cur σ).1 k).1 ((tz_cur σ).1 k).2 ((tz_cur σ).2.2.2.2 mm) i).2.2) from by simp only [tz_rn]; rw [if_neg h94])]; show _ = tz_ff ((tz_cur σ).2.2.1 i) (tz_rn (tz_cur σ).2.2.1 (tz_cur σ).1 ((tz_cur σ).1 k).1 ((tz_cur σ).1 k).2 ((tz_cur σ).2.2.2.2 mm) i).1 (tz_rn (tz_cur σ).2.2.1 (tz_cur σ).1 ((tz_cur σ).1 k).1 ((tz_cur σ).1 k).2 ((tz_cur σ).2.2.2.2 mm) i).2.1 (tz_rn (tz_cur σ).2.2.1 (tz_cur σ).1 ((tz_cur σ).1 k).1 ((tz_cur σ).1 k).2 ((tz_cur σ).2.2.2.2 mm) i).2.2; rw [← hfo]; unfold tz_ff; rw [if_pos h138, evv, nI_clamp (by omega)]) (tz_wf_rg hok.2 hvv hx) (by omega)
                · skip
                  refine tz_goto C_ td_M_moment_97 ?_
                  refine tz_iinc C_ (k := 1) (v := nI (i + 1)) (lv' := [(0, .ref M), (1, .int (nI mm)), (2, .int (nI k)), (3, .int (nI x)), (4, .int (nI (i + 1)))]) 4 rfl (nI_1 i) [1, 2, 3, 4, 0] (by decide) rfl td_M_moment_201 ?_
                  refine tz_goto C_ td_M_moment_204 ?_
                  exact ih66 (nI x) roL maL nsL tgL (i + 1) fL (by rw [(show (tz_rn (tz_cur σ).2.2.1 (tz_cur σ).1 ((tz_cur σ).1 k).1 ((tz_cur σ).1 k).2 ((tz_cur σ).2.2.2.2 mm) (i + 1)) = (tz_rn (tz_cur σ).2.2.1 (tz_cur σ).1 ((tz_cur σ).1 k).1 ((tz_cur σ).1 k).2 ((tz_cur σ).2.2.2.2 mm) i) from by simp only [tz_rn]; rw [if_pos h94])]; exact ⟨hM1.1, hM1.2.1, hM1.2.2.1, hM1.2.2.2.1, hM1.2.2.2.2.1, hM1.2.2.2.2.2.1, hM1.2.2.2.2.2.2.1, hM1.2.2.2.2.2.2.2.1, hM1.2.2.2.2.2.2.2.2⟩) (fun q hh => by rw [hfr q (by omega)]) (by omega) (by rw [(show (tz_rn (tz_cur σ).2.2.1 (tz_cur σ).1 ((tz_cur σ).1 k).1 ((tz_cur σ).1 k).2 ((tz_cur σ).2.2.2.2 mm) (i + 1)) = (tz_rn (tz_cur σ).2.2.1 (tz_cur σ).1 ((tz_cur σ).1 k).1 ((tz_cur σ).1 k).2 ((tz_cur σ).2.2.2.2 mm) i) from by simp only [tz_rn]; rw [if_pos h94])]; exact her) (by rw [(show (tz_rn (tz_cur σ).2.2.1 (tz_cur σ).1 ((tz_cur σ).1 k).1 ((tz_cur σ).1 k).2 ((tz_cur σ).2.2.2.2 mm) (i + 1)) = (tz_rn (tz_cur σ).2.2.1 (tz_cur σ).1 ((tz_cur σ).1 k).1 ((tz_cur σ).1 k).2 ((tz_cur σ).2.2.2.2 mm) i) from by simp only [tz_rn]; rw [if_pos h94])]; exact hfo) hrg (by omega)
        exact loop66 _ (((tz_cur σ).2.2.2.2 mm)) roT ma ns tg 0 f11 (⟨hMT.1, hMT.2.1, hMT.2.2.1, hMT.2.2.2.1, hMT.2.2.2.2.1, hMT.2.2.2.2.2.1, hMT.2.2.2.2.2.2.1, hMT.2.2.2.2.2.2.2.1, hMT.2.2.2.2.2.2.2.2⟩) (fun q hh => by rw [hqT q (by omega)]) (Nat.zero_le _) herT rfl (by obtain ⟨j9, hj9, ej9⟩ := vp_in_of (x := ((tz_cur σ).2.2.2.2 mm)) (n := tz_ln σ k) (tz_inI h39 ((tz_hasN hk).mp h48).2 (by omega)) (by omega); exact Or.inr ⟨j9, by omega, ej9⟩) (Nat.lt_succ_self _)
      · skip
        replace h48 := tz_p0.mp h48
        refine tz_aload_n C_ 0 rfl rfl td_M_moment_51 ?_
        refine tz_ldc C_ tw_797 td_M_moment_52 ?_
        refine tz_cV C_ tmi_M_finding tw_800 tw_14 tw_798 hM.1 rfl (As := [.int (-100006)]) (by exact (ct_M_finding (v := -100006) hM.1)) rfl (rest := []) rfl (by decide) (Nat.le_of_ble_eq_true rfl) td_M_moment_54 (st1 := [.int (-100006)]) rfl (fun f37 hF37 => ?_)
        obtain ⟨hs38, hq38⟩ := hF37
        refine tz_riret C_ hr_ hk_ hQ_ rfl td_M_moment_57 ?_
        have k39 : f37 (M + 1) = some (tz_ints cs 532 nw) := ((hq38 _ (by omega)).trans hM.2.1)
        have k40 : f37 (M + 2) = some (tz_ints cs 10640 pa) := ((hq38 _ (by omega)).trans hM.2.2.1)
        have k41 : f37 (M + 3) = some (tz_ints cs 4 bi) := ((hq38 _ (by omega)).trans hM.2.2.2.1)
        have k42 : f37 (M + 4) = some (tz_ints cs 4 nu) := ((hq38 _ (by omega)).trans hM.2.2.2.2.1)
        have k43 : f37 (M + 5) = some (tz_ints cs 480 sh) := ((hq38 _ (by omega)).trans hM.2.2.2.2.2.1)
        have k44 : f37 (M + 6) = some (tz_ints cs 120 ro) := ((hq38 _ (by omega)).trans hM.2.2.2.2.2.2.1)
        have k45 : f37 (M + 7) = some (tz_ints cs 120 ma) := ((hq38 _ (by omega)).trans hM.2.2.2.2.2.2.2.1)
        have k46 : f37 (M + 8) = some (tz_ints cs 120 ca) := ((hq38 _ (by omega)).trans hM.2.2.2.2.2.2.2.2)
        have e9 : sp_moment σ (nI mm) = (-100006, tz_fnd σ) := by rw [e7, if_neg (fun z => h48 ((tz_hasN hk).mpr z)), tz_an_f (by decide)]
        rw [e9]
        exact ⟨rfl, ⟨_, _, _, _, _, _, _, _, _, _, _, ⟨hs38, k39, k40, k41, k42, k43, k44, k45, k46⟩, hE, hH, hQ⟩, (fun q hh => by rw [hq38 q (by omega)])⟩
  · skip
    replace h6 := tz_p0.mp h6
    refine tz_aload_n C_ 0 rfl rfl td_M_moment_9 ?_
    refine tz_ldc C_ tw_812 td_M_moment_10 ?_
    refine tz_cV C_ tmi_M_finding tw_800 tw_14 tw_798 hM.1 rfl (As := [.int (-100001)]) (by exact (ct_M_finding (v := -100001) hM.1)) rfl (rest := []) rfl (by decide) (Nat.le_of_ble_eq_true rfl) td_M_moment_12 (st1 := [.int (-100001)]) rfl (fun f47 hF47 => ?_)
    obtain ⟨hs48, hq48⟩ := hF47
    refine tz_riret C_ hr_ hk_ hQ_ rfl td_M_moment_15 ?_
    have k49 : f47 (M + 1) = some (tz_ints cs 532 nw) := ((hq48 _ (by omega)).trans hM.2.1)
    have k50 : f47 (M + 2) = some (tz_ints cs 10640 pa) := ((hq48 _ (by omega)).trans hM.2.2.1)
    have k51 : f47 (M + 3) = some (tz_ints cs 4 bi) := ((hq48 _ (by omega)).trans hM.2.2.2.1)
    have k52 : f47 (M + 4) = some (tz_ints cs 4 nu) := ((hq48 _ (by omega)).trans hM.2.2.2.2.1)
    have k53 : f47 (M + 5) = some (tz_ints cs 480 sh) := ((hq48 _ (by omega)).trans hM.2.2.2.2.2.1)
    have k54 : f47 (M + 6) = some (tz_ints cs 120 ro) := ((hq48 _ (by omega)).trans hM.2.2.2.2.2.2.1)
    have k55 : f47 (M + 7) = some (tz_ints cs 120 ma) := ((hq48 _ (by omega)).trans hM.2.2.2.2.2.2.2.1)
    have k56 : f47 (M + 8) = some (tz_ints cs 120 ca) := ((hq48 _ (by omega)).trans hM.2.2.2.2.2.2.2.2)
    have e9 : sp_moment σ m = (-100001, tz_fnd σ) := by rw [sp_moment, if_neg (fun z => h6 ⟨z.1, tz_le5.mpr z.2⟩), tz_an_f (by decide)]
    rw [e9]
    exact ⟨rfl, ⟨_, _, _, _, _, _, _, _, _, _, _, ⟨hs48, k49, k50, k51, k52, k53, k54, k55, k56⟩, hE, hH, hQ⟩, (fun q hh => by rw [hq48 q (by omega)])⟩
