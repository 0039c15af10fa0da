
theorem tz_sm_end {n n2 a i my : Nat} {g g2 : Nat → Int32} (hn : n ≤ 120) (ha : a ≤ i) (hi : i ≤ my + 1 ∧ i < 2 ^ 31) (h : my < i ∨ 120 ≤ i) : tz_sm n g n2 g2 a (min (my + 1) n - a) = tz_sm n g n2 g2 a (i - a) := by
  by_cases e : min (my + 1) n ≤ i
  · by_cases e2 : my + 1 ≤ n
    · rw [show min (my + 1) n = i by omega]
    · rw [show min (my + 1) n = n by omega, show i - a = (n - a) + (i - a - (n - a)) by omega]
      exact (tz_sm_c hn (by omega) (by omega)).symm
  · omega
theorem tz_bb_lt {be bm : Int32} (h : (be = tz_NO ∧ bm = -1) ∨ (∃ q, q < 120 ∧ be = nI q ∧ bm = nI q)) : bm < 0 ↔ be = tz_NO := by
  rcases h with ⟨a, b⟩ | ⟨q, hq, a, b⟩
  · rw [a, b]; exact ⟨fun _ => rfl, fun _ => by decide⟩
  · rw [a, b]
    refine ⟨fun z => absurd z (nI_pos (by omega)), fun z => ?_⟩
    have e := congrArg Int32.toInt z
    rw [nI_toInt (by omega)] at e
    have z1 : (tz_NO : Int32).toInt = -100006 := by decide
    rw [z1] at e
    omega
theorem tz_bb_eq {be bm : Int32} (h : (be = tz_NO ∧ bm = -1) ∨ (∃ q, q < 120 ∧ be = nI q ∧ bm = nI q)) (h2 : ¬ bm < 0) : be = bm ∧ ¬ bm ≤ -100000 := by
  rcases h with ⟨a, b⟩ | ⟨q, hq, a, b⟩
  · rw [b] at h2; exact absurd (by decide) h2
  · rw [a, b]; exact ⟨rfl, tz_nI_big (by omega)⟩

abbrev rm_M_seam : Room := { frames := 3, cells := 0, slots := 0, locals := 64 }
set_option maxHeartbeats 4000000 in
set_option maxRecDepth 100000 in
theorem ct_M_seam {l : Launch} {A : Nat → Prop} {D : va_G} {cs : Nat → ClassId} {sz : Nat} {f : tz_PH} {M : Nat} {σ : tz_SG} (hX : tz_AM cs f M σ) (hW : tz_WF σ) {p q x y : Int32} : tz_CN l tyM_seam prog_13_method_59_code 9 (some (.int)) rm_M_seam 0 0 A D cs sz [.ref M, .int p, .int q, .int x, .int y] f (some (.int (sp_seam σ p q x y).1)) (fun f' => tz_AM cs f' M (sp_seam σ p q x y).2 ∧ ∀ q, (q < M ∨ M + 9 ≤ q) → f' q = f q) := by
  refine tz_C.ofB (lv0 := [(0, .ref M), (1, .int p), (2, .int q), (3, .int x), (4, .int y)]) (plainFor_of_name (by decide)) (Nat.le_of_ble_eq_true rfl) rfl ?_
  intro p_ e_ s_ m_ ar_ be_ me_ c_ Q_ C_ hr_ hk_ hnm_ hz_ hQ_
  obtain ⟨ms, ns, tg, nw, pa, bi, nu, sh, ro, ma, ca, hM, hE, hH, hQ⟩ := hX
  have hWT := hW.cur
  have hkp : σ.2.1 ≤ 20 := hW.1
  have hl8 := hWT.2.1
  refine tz_iload_n C_ 1 rfl rfl td_M_seam_0 ?_
  refine tz_rS C_ tmi_M_isPass tw_807 tw_806 (As := [.int p]) (by exact ct_M_isPass) rfl (rest := []) rfl (by decide) (Nat.le_of_ble_eq_true rfl) td_M_seam_1 (st1 := [.int (tz_p (0 ≤ p ∧ p < 4))]) rfl ?_
  refine tz_if_eq C_ td_M_seam_4 (fun h4 => ?_) (fun h4 => ?_)
  · skip
    replace h4 := tz_p0.mp h4
    have hpk4 := tz_pk_out h4
    refine tz_aload_n C_ 0 rfl rfl td_M_seam_24 ?_
    refine tz_ldc C_ tw_812 td_M_seam_25 ?_
    refine tz_cV C_ tmi_M_finding tw_800 tw_14 tw_798 hM.1 rfl (As := [.int (-100001)]) (by exact (ct_M_finding (v := -100001) hM.1)) rfl (rest := []) rfl (by decide) (Nat.le_of_ble_eq_true rfl) td_M_seam_27 (st1 := [.int (-100001)]) rfl (fun f1 hF1 => ?_)
    obtain ⟨hs2, hq2⟩ := hF1
    refine tz_riret C_ hr_ hk_ hQ_ rfl td_M_seam_30 ?_
    have k3 : f1 (M + 1) = some (tz_ints cs 532 nw) := ((hq2 _ (by omega)).trans hM.2.1)
    have k4 : f1 (M + 2) = some (tz_ints cs 10640 pa) := ((hq2 _ (by omega)).trans hM.2.2.1)
    have k5 : f1 (M + 3) = some (tz_ints cs 4 bi) := ((hq2 _ (by omega)).trans hM.2.2.2.1)
    have k6 : f1 (M + 4) = some (tz_ints cs 4 nu) := ((hq2 _ (by omega)).trans hM.2.2.2.2.1)
    have k7 : f1 (M + 5) = some (tz_ints cs 480 sh) := ((hq2 _ (by omega)).trans hM.2.2.2.2.2.1)
    have k8 : f1 (M + 6) = some (tz_ints cs 120 ro) := ((hq2 _ (by omega)).trans hM.2.2.2.2.2.2.1)
    have k9 : f1 (M + 7) = some (tz_ints cs 120 ma) := ((hq2 _ (by omega)).trans hM.2.2.2.2.2.2.2.1)
    have k10 : f1 (M + 8) = some (tz_ints cs 120 ca) := ((hq2 _ (by omega)).trans hM.2.2.2.2.2.2.2.2)
    have e9 : sp_seam σ p q x y = (-100001, tz_fnd σ) := by simp only [sp_seam, hpk4]; rw [tz_an_f (by decide)]
    rw [e9]
    exact ⟨rfl, ⟨_, _, _, _, _, _, _, _, _, _, _, ⟨hs2, k3, k4, k5, k6, k7, k8, k9, k10⟩, hE, hH, hQ⟩, (fun q hh => by rw [hq2 q (by omega)])⟩
  · skip
    replace h4 := tz_p1.mp h4
    obtain ⟨a, ha, ea⟩ := tz_pk_in h4
    subst ea
    have hpk4 := tz_pk_N ha
    have hna : tz_ln σ a ≤ 120 := (hWT.1 a ha).1
    have hNa : ((tz_cur σ).1 a).1 ≤ 120 := (hWT.1 a ha).1
    refine tz_iload_n C_ 2 rfl rfl td_M_seam_7 ?_
    refine tz_rS C_ tmi_M_isPass tw_807 tw_806 (As := [.int q]) (by exact ct_M_isPass) rfl (rest := []) rfl (by decide) (Nat.le_of_ble_eq_true rfl) td_M_seam_8 (st1 := [.int (tz_p (0 ≤ q ∧ q < 4))]) rfl ?_
    refine tz_if_eq C_ td_M_seam_11 (fun h11 => ?_) (fun h11 => ?_)
    · skip
      replace h11 := tz_p0.mp h11
      have hpk11 := tz_pk_out h11
      refine tz_aload_n C_ 0 rfl rfl td_M_seam_24 ?_
      refine tz_ldc C_ tw_812 td_M_seam_25 ?_
      refine tz_cV C_ tmi_M_finding tw_800 tw_14 tw_798 hM.1 rfl (As := [.int (-100001)]) (by exact (ct_M_finding (v := -100001) hM.1)) rfl (rest := []) rfl (by decide) (Nat.le_of_ble_eq_true rfl) td_M_seam_27 (st1 := [.int (-100001)]) rfl (fun f11 hF11 => ?_)
      obtain ⟨hs12, hq12⟩ := hF11
      refine tz_riret C_ hr_ hk_ hQ_ rfl td_M_seam_30 ?_
      have k13 : f11 (M + 1) = some (tz_ints cs 532 nw) := ((hq12 _ (by omega)).trans hM.2.1)
      have k14 : f11 (M + 2) = some (tz_ints cs 10640 pa) := ((hq12 _ (by omega)).trans hM.2.2.1)
      have k15 : f11 (M + 3) = some (tz_ints cs 4 bi) := ((hq12 _ (by omega)).trans hM.2.2.2.1)
      have k16 : f11 (M + 4) = some (tz_ints cs 4 nu) := ((hq12 _ (by omega)).trans hM.2.2.2.2.1)
      have k17 : f11 (M + 5) = some (tz_ints cs 480 sh) := ((hq12 _ (by omega)).trans hM.2.2.2.2.2.1)
      have k18 : f11 (M + 6) = some (tz_ints cs 120 ro) := ((hq12 _ (by omega)).trans hM.2.2.2.2.2.2.1)
      have k19 : f11 (M + 7) = some (tz_ints cs 120 ma) := ((hq12 _ (by omega)).trans hM.2.2.2.2.2.2.2.1)
      have k20 : f11 (M + 8) = some (tz_ints cs 120 ca) := ((hq12 _ (by omega)).trans hM.2.2.2.2.2.2.2.2)
      have e9 : sp_seam σ (nI a) q x y = (-100001, tz_fnd σ) := by simp only [sp_seam, hpk4, hpk11]; rw [tz_an_f (by decide)]
      rw [e9]
      exact ⟨rfl, ⟨_, _, _, _, _, _, _, _, _, _, _, ⟨hs12, k13, k14, k15, k16, k17, k18, k19, k20⟩, hE, hH, hQ⟩, (fun q hh => by rw [hq12 q (by omega)])⟩
    · skip
      replace h11 := tz_p1.mp h11
      obtain ⟨b, hb, eb⟩ := tz_pk_in h11
      subst eb
      have hpk11 := tz_pk_N hb
      have hnb : tz_ln σ b ≤ 120 := (hWT.1 b hb).1
      have hNb : ((tz_cur σ).1 b).1 ≤ 120 := (hWT.1 b hb).1
      refine tz_iload_n C_ 3 rfl rfl td_M_seam_14 ?_
      refine tz_if_lt C_ td_M_seam_15 (fun h15 => ?_) (fun h15 => ?_)
      · skip
        refine tz_aload_n C_ 0 rfl rfl td_M_seam_24 ?_
        refine tz_ldc C_ tw_812 td_M_seam_25 ?_
        refine tz_cV C_ tmi_M_finding tw_800 tw_14 tw_798 hM.1 rfl (As := [.int (-100001)]) (by exact (ct_M_finding (v := -100001) hM.1)) rfl (rest := []) rfl (by decide) (Nat.le_of_ble_eq_true rfl) td_M_seam_27 (st1 := [.int (-100001)]) rfl (fun f21 hF21 => ?_)
        obtain ⟨hs22, hq22⟩ := hF21
        refine tz_riret C_ hr_ hk_ hQ_ rfl td_M_seam_30 ?_
        have k23 : f21 (M + 1) = some (tz_ints cs 532 nw) := ((hq22 _ (by omega)).trans hM.2.1)
        have k24 : f21 (M + 2) = some (tz_ints cs 10640 pa) := ((hq22 _ (by omega)).trans hM.2.2.1)
        have k25 : f21 (M + 3) = some (tz_ints cs 4 bi) := ((hq22 _ (by omega)).trans hM.2.2.2.1)
        have k26 : f21 (M + 4) = some (tz_ints cs 4 nu) := ((hq22 _ (by omega)).trans hM.2.2.2.2.1)
        have k27 : f21 (M + 5) = some (tz_ints cs 480 sh) := ((hq22 _ (by omega)).trans hM.2.2.2.2.2.1)
        have k28 : f21 (M + 6) = some (tz_ints cs 120 ro) := ((hq22 _ (by omega)).trans hM.2.2.2.2.2.2.1)
        have k29 : f21 (M + 7) = some (tz_ints cs 120 ma) := ((hq22 _ (by omega)).trans hM.2.2.2.2.2.2.2.1)
        have k30 : f21 (M + 8) = some (tz_ints cs 120 ca) := ((hq22 _ (by omega)).trans hM.2.2.2.2.2.2.2.2)
        have e9 : sp_seam σ (nI a) (nI b) x y = (-100001, tz_fnd σ) := by simp only [sp_seam, hpk4, hpk11]; rw [if_neg (fun z => tz_le_nlt z.1 h15), tz_an_f (by decide)]
        rw [e9]
        exact ⟨rfl, ⟨_, _, _, _, _, _, _, _, _, _, _, ⟨hs22, k23, k24, k25, k26, k27, k28, k29, k30⟩, hE, hH, hQ⟩, (fun q hh => by rw [hq22 q (by omega)])⟩
      · skip
        refine tz_iload C_ 4 rfl td_M_seam_18 ?_
        refine tz_iload_n C_ 3 rfl rfl td_M_seam_20 ?_
        refine tz_icmp_ge C_ td_M_seam_21 (fun h21 => ?_) (fun h21 => ?_)
        · skip
          obtain ⟨mx, hmx, emx⟩ := tz_nn h15
          subst emx
          obtain ⟨my, hmy, emy⟩ := tz_nn (fun z => absurd (Int32.lt_of_lt_of_le z (nI_pos' hmx)) (Int32.not_lt.mpr h21))
          subst emy
          have h21b := (nI_leI hmx hmy).mp h21
          refine tz_iconst C_ (v := -1) (by decide) td_M_seam_31 ?_
          refine tz_istore C_ (lv' := [(0, .ref M), (1, .int (nI a)), (2, .int (nI b)), (3, .int (nI mx)), (4, .int (nI my)), (5, .int (-1))]) [1, 2, 3, 4, 5, 0] (by decide) rfl td_M_seam_32 ?_
          refine tz_iconst C_ (v := 0) (by decide) td_M_seam_34 ?_
          refine tz_istore C_ (lv' := [(0, .ref M), (1, .int (nI a)), (2, .int (nI b)), (3, .int (nI mx)), (4, .int (nI my)), (5, .int (-1)), (6, .int 0)]) [1, 2, 3, 4, 5, 6, 0] (by decide) rfl td_M_seam_35 ?_
          refine tz_iload_n C_ 3 rfl rfl td_M_seam_37 ?_
          refine tz_istore C_ (lv' := [(0, .ref M), (1, .int (nI a)), (2, .int (nI b)), (3, .int (nI mx)), (4, .int (nI my)), (5, .int (-1)), (6, .int 0), (7, .int (nI mx))]) [1, 2, 3, 4, 5, 6, 7, 0] (by decide) rfl td_M_seam_38 ?_
          have loop40 : ∀ (kk40 : Nat) (bm : Int32) (be : Int32) (le : Int32) (i : Nat), (mx ≤ i ∧ (i ≤ 120 ∨ i = mx) ∧ i ≤ my + 1) → ((be, le) = tz_sm ((tz_cur σ).1 a).1 ((tz_cur σ).1 a).2 ((tz_cur σ).1 b).1 ((tz_cur σ).1 b).2 mx (i - mx)) → ((be = tz_NO ∧ bm = -1) ∨ (∃ q, q < 120 ∧ be = nI q ∧ bm = nI q)) → (120 - i) < kk40 → tz_V p_ l e_ rm_M_seam s_ m_ ar_ be_ me_ c_ Q_ A D 9 f sz 0 0 40 [(0, .ref M), (1, .int (nI a)), (2, .int (nI b)), (3, .int (nI mx)), (4, .int (nI my)), (5, .int bm), (6, .int le), (7, .int (nI i))] [] := by
            intro kk40
            induction kk40 with
            | zero => intro bm be le i hi hs hb9 hm40; omega
            | succ kk40 ih40 =>
              intro bm be le i hi hs hb9 hm40
              refine tz_iload C_ 7 rfl td_M_seam_40 ?_
              refine tz_iload C_ 4 rfl td_M_seam_42 ?_
              refine tz_icmp_gt C_ td_M_seam_44 (fun h44 => ?_) (fun h44 => ?_)
              · skip
                replace h44 := (nI_ltI (a := my) (b := i) (by omega) (by omega)).mp h44
                refine tz_iload C_ 5 rfl td_M_seam_147 ?_
                refine tz_if_ge C_ td_M_seam_149 (fun h149 => ?_) (fun h149 => ?_)
                · skip
                  refine tz_iload C_ 5 rfl td_M_seam_161 ?_
                  refine tz_riret C_ hr_ hk_ hQ_ rfl td_M_seam_163 ?_
                  have e9 : sp_seam σ (nI a) (nI b) (nI mx) (nI my) = (bm, σ) := by have e8 := tz_sm_end (n2 := ((tz_cur σ).1 b).1) (g := ((tz_cur σ).1 a).2) (g2 := ((tz_cur σ).1 b).2) hNa hi.1 (show i ≤ my + 1 ∧ i < 2 ^ 31 by omega) (Or.inl h44); rw [← hs] at e8; simp only [sp_seam, hpk4, hpk11]; rw [if_pos ⟨nI_pos' hmx, h21⟩, nI_clamp hmx, nI_clamp hmy, e8]; simp only []; rw [(tz_bb_eq hb9 (tz_le_nlt h149)).1, tz_an_n (tz_bb_eq hb9 (tz_le_nlt h149)).2]
                  rw [e9]
                  exact ⟨rfl, ⟨_, _, _, _, _, _, _, _, _, _, _, ⟨hM.1, hM.2.1, hM.2.2.1, hM.2.2.2.1, hM.2.2.2.2.1, hM.2.2.2.2.2.1, hM.2.2.2.2.2.2.1, hM.2.2.2.2.2.2.2.1, hM.2.2.2.2.2.2.2.2⟩, hE, hH, hQ⟩, (fun q hh => rfl)⟩
                · skip
                  refine tz_aload_n C_ 0 rfl rfl td_M_seam_152 ?_
                  refine tz_ldc C_ tw_797 td_M_seam_153 ?_
                  refine tz_cV C_ tmi_M_finding tw_800 tw_14 tw_798 hM.1 rfl (As := [.int (-100006)]) (by exact (ct_M_finding (v := -100006) hM.1)) rfl (rest := []) rfl (by decide) (Nat.le_of_ble_eq_true rfl) td_M_seam_155 (st1 := [.int (-100006)]) rfl (fun f31 hF31 => ?_)
                  obtain ⟨hs32, hq32⟩ := hF31
                  refine tz_goto C_ td_M_seam_158 ?_
                  refine tz_riret C_ hr_ hk_ hQ_ rfl td_M_seam_163 ?_
                  have k33 : f31 (M + 1) = some (tz_ints cs 532 nw) := ((hq32 _ (by omega)).trans hM.2.1)
                  have k34 : f31 (M + 2) = some (tz_ints cs 10640 pa) := ((hq32 _ (by omega)).trans hM.2.2.1)
                  have k35 : f31 (M + 3) = some (tz_ints cs 4 bi) := ((hq32 _ (by omega)).trans hM.2.2.2.1)
                  have k36 : f31 (M + 4) = some (tz_ints cs 4 nu) := ((hq32 _ (by omega)).trans hM.2.2.2.2.1)
                  have k37 : f31 (M + 5) = some (tz_ints cs 480 sh) := ((hq32 _ (by omega)).trans hM.2.2.2.2.2.1)
                  have k38 : f31 (M + 6) = some (tz_ints cs 120 ro) := ((hq32 _ (by omega)).trans hM.2.2.2.2.2.2.1)
                  have k39 : f31 (M + 7) = some (tz_ints cs 120 ma) := ((hq32 _ (by omega)).trans hM.2.2.2.2.2.2.2.1)
                  have k40 : f31 (M + 8) = some (tz_ints cs 120 ca) := ((hq32 _ (by omega)).trans hM.2.2.2.2.2.2.2.2)
                  have e9 : sp_seam σ (nI a) (nI b) (nI mx) (nI my) = (-100006, tz_fnd σ) := by have e8 := tz_sm_end (n2 := ((tz_cur σ).1 b).1) (g := ((tz_cur σ).1 a).2) (g2 := ((tz_cur σ).1 b).2) hNa hi.1 (show i ≤ my + 1 ∧ i < 2 ^ 31 by omega) (Or.inl h44); rw [← hs] at e8; simp only [sp_seam, hpk4, hpk11]; rw [if_pos ⟨nI_pos' hmx, h21⟩, nI_clamp hmx, nI_clamp hmy, e8]; simp only []; rw [(tz_bb_lt hb9).mp (Int32.not_le.mp h149), tz_an_f (by decide)]
                  rw [e9]
                  exact ⟨rfl, ⟨_, _, _, _, _, _, _, _, _, _, _, ⟨hs32, k33, k34, k35, k36, k37, k38, k39, k40⟩, hE, hH, hQ⟩, (fun q hh => by rw [hq32 q (by omega)])⟩
              · skip
                replace h44 := mt (nI_ltI (a := my) (b := i) (by omega) (by omega)).mpr h44
                refine tz_iload C_ 7 rfl td_M_seam_47 ?_
                refine tz_bipush C_ (v := 120) (by decide) td_M_seam_49 ?_
                refine tz_icmp_ge C_ td_M_seam_51 (fun h51 => ?_) (fun h51 => ?_)
                · skip
                  replace h51 := (nI_leI (a := 120) (b := i) (by omega) (by omega)).mp h51
                  refine tz_iload C_ 5 rfl td_M_seam_147 ?_
                  refine tz_if_ge C_ td_M_seam_149 (fun h149 => ?_) (fun h149 => ?_)
                  · skip
                    refine tz_iload C_ 5 rfl td_M_seam_161 ?_
                    refine tz_riret C_ hr_ hk_ hQ_ rfl td_M_seam_163 ?_
                    have e9 : sp_seam σ (nI a) (nI b) (nI mx) (nI my) = (bm, σ) := by have e8 := tz_sm_end (n2 := ((tz_cur σ).1 b).1) (g := ((tz_cur σ).1 a).2) (g2 := ((tz_cur σ).1 b).2) hNa hi.1 (show i ≤ my + 1 ∧ i < 2 ^ 31 by omega) (Or.inr h51); rw [← hs] at e8; simp only [sp_seam, hpk4, hpk11]; rw [if_pos ⟨nI_pos' hmx, h21⟩, nI_clamp hmx, nI_clamp hmy, e8]; simp only []; rw [(tz_bb_eq hb9 (tz_le_nlt h149)).1, tz_an_n (tz_bb_eq hb9 (tz_le_nlt h149)).2]
                    rw [e9]
                    exact ⟨rfl, ⟨_, _, _, _, _, _, _, _, _, _, _, ⟨hM.1, hM.2.1, hM.2.2.1, hM.2.2.2.1, hM.2.2.2.2.1, hM.2.2.2.2.2.1, hM.2.2.2.2.2.2.1, hM.2.2.2.2.2.2.2.1, hM.2.2.2.2.2.2.2.2⟩, hE, hH, hQ⟩, (fun q hh => rfl)⟩
                  · skip
                    refine tz_aload_n C_ 0 rfl rfl td_M_seam_152 ?_
                    refine tz_ldc C_ tw_797 td_M_seam_153 ?_
                    refine tz_cV C_ tmi_M_finding tw_800 tw_14 tw_798 hM.1 rfl (As := [.int (-100006)]) (by exact (ct_M_finding (v := -100006) hM.1)) rfl (rest := []) rfl (by decide) (Nat.le_of_ble_eq_true rfl) td_M_seam_155 (st1 := [.int (-100006)]) rfl (fun f41 hF41 => ?_)
                    obtain ⟨hs42, hq42⟩ := hF41
                    refine tz_goto C_ td_M_seam_158 ?_
                    refine tz_riret C_ hr_ hk_ hQ_ rfl td_M_seam_163 ?_
                    have k43 : f41 (M + 1) = some (tz_ints cs 532 nw) := ((hq42 _ (by omega)).trans hM.2.1)
                    have k44 : f41 (M + 2) = some (tz_ints cs 10640 pa) := ((hq42 _ (by omega)).trans hM.2.2.1)
                    have k45 : f41 (M + 3) = some (tz_ints cs 4 bi) := ((hq42 _ (by omega)).trans hM.2.2.2.1)
                    have k46 : f41 (M + 4) = some (tz_ints cs 4 nu) := ((hq42 _ (by omega)).trans hM.2.2.2.2.1)
                    have k47 : f41 (M + 5) = some (tz_ints cs 480 sh) := ((hq42 _ (by omega)).trans hM.2.2.2.2.2.1)
                    have k48 : f41 (M + 6) = some (tz_ints cs 120 ro) := ((hq42 _ (by omega)).trans hM.2.2.2.2.2.2.1)
                    have k49 : f41 (M + 7) = some (tz_ints cs 120 ma) := ((hq42 _ (by omega)).trans hM.2.2.2.2.2.2.2.1)
                    have k50 : f41 (M + 8) = some (tz_ints cs 120 ca) := ((hq42 _ (by omega)).trans hM.2.2.2.2.2.2.2.2)
                    have e9 : sp_seam σ (nI a) (nI b) (nI mx) (nI my) = (-100006, tz_fnd σ) := by have e8 := tz_sm_end (n2 := ((tz_cur σ).1 b).1) (g := ((tz_cur σ).1 a).2) (g2 := ((tz_cur σ).1 b).2) hNa hi.1 (show i ≤ my + 1 ∧ i < 2 ^ 31 by omega) (Or.inr h51); rw [← hs] at e8; simp only [sp_seam, hpk4, hpk11]; rw [if_pos ⟨nI_pos' hmx, h21⟩, nI_clamp hmx, nI_clamp hmy, e8]; simp only []; rw [(tz_bb_lt hb9).mp (Int32.not_le.mp h149), tz_an_f (by decide)]
                    rw [e9]
                    exact ⟨rfl, ⟨_, _, _, _, _, _, _, _, _, _, _, ⟨hs42, k43, k44, k45, k46, k47, k48, k49, k50⟩, hE, hH, hQ⟩, (fun q hh => by rw [hq42 q (by omega)])⟩
                · skip
                  replace h51 := mt (nI_leI (a := 120) (b := i) (by omega) (by omega)).mpr h51
                  refine tz_aload_n C_ 0 rfl rfl td_M_seam_54 ?_
                  refine tz_iload_n C_ 1 rfl rfl td_M_seam_55 ?_
                  refine tz_iload C_ 7 rfl td_M_seam_56 ?_
                  refine tz_rV C_ tmi_M_isSample tw_823 tw_16 tw_821 hM.1 rfl (As := [.int (nI a), .int (nI i)]) (by exact (ct_M_isSample ⟨hM.1, hM.2.1, hM.2.2.1, hM.2.2.2.1, hM.2.2.2.2.1, hM.2.2.2.2.2.1, hM.2.2.2.2.2.2.1, hM.2.2.2.2.2.2.2.1, hM.2.2.2.2.2.2.2.2⟩ hE hWT)) rfl (rest := []) rfl (by decide) (Nat.le_of_ble_eq_true rfl) td_M_seam_58 (st1 := [.int (tz_p (tz_has (tz_cur σ) (nI a) (nI i)))]) rfl ?_
                  refine tz_if_eq C_ td_M_seam_61 (fun h61 => ?_) (fun h61 => ?_)
                  · skip
                    replace h61 := tz_p0.mp h61
                    rw [tz_hasN ha, tz_has_iff (by omega) (by omega)] at h61
                    have hata : tz_at ((tz_cur σ).1 a).1 ((tz_cur σ).1 a).2 (nI i) = tz_LO := tz_at_b (by omega) (by omega) hNa
                    refine tz_iinc C_ (k := 1) (v := nI (i + 1)) (lv' := [(0, .ref M), (1, .int (nI a)), (2, .int (nI b)), (3, .int (nI mx)), (4, .int (nI my)), (5, .int bm), (6, .int le), (7, .int (nI (i + 1)))]) 7 rfl (nI_1 i) [1, 2, 3, 4, 5, 6, 7, 0] (by decide) rfl td_M_seam_141 ?_
                    refine tz_goto C_ td_M_seam_144 ?_
                    exact ih40 bm be le (i + 1) (⟨by omega, by omega, by omega⟩) (tz_sm_sk hi.1 hs (Or.inl hata)) hb9 (by omega)
                  · skip
                    replace h61 := tz_p1.mp h61
                    rw [tz_hasN ha, tz_has_iff (by omega) (by omega)] at h61
                    have hata : tz_at ((tz_cur σ).1 a).1 ((tz_cur σ).1 a).2 (nI i) = ((tz_cur σ).1 a).2 i := tz_at_N hNa h61
                    have hoka : tz_okv (((tz_cur σ).1 a).2 i) := (hWT.1 a ha).2 i h61
                    refine tz_aload_n C_ 0 rfl rfl td_M_seam_64 ?_
                    refine tz_iload_n C_ 2 rfl rfl td_M_seam_65 ?_
                    refine tz_iload C_ 7 rfl td_M_seam_66 ?_
                    refine tz_rV C_ tmi_M_isSample tw_823 tw_16 tw_821 hM.1 rfl (As := [.int (nI b), .int (nI i)]) (by exact (ct_M_isSample ⟨hM.1, hM.2.1, hM.2.2.1, hM.2.2.2.1, hM.2.2.2.2.1, hM.2.2.2.2.2.1, hM.2.2.2.2.2.2.1, hM.2.2.2.2.2.2.2.1, hM.2.2.2.2.2.2.2.2⟩ hE hWT)) rfl (rest := []) rfl (by decide) (Nat.le_of_ble_eq_true rfl) td_M_seam_68 (st1 := [.int (tz_p (tz_has (tz_cur σ) (nI b) (nI i)))]) rfl ?_
                    refine tz_if_eq C_ td_M_seam_71 (fun h71 => ?_) (fun h71 => ?_)
                    · skip
                      replace h71 := tz_p0.mp h71
                      rw [tz_hasN hb, tz_has_iff (by omega) (by omega)] at h71
                      have hatb : tz_at ((tz_cur σ).1 b).1 ((tz_cur σ).1 b).2 (nI i) = tz_LO := tz_at_b (by omega) (by omega) hNb
                      refine tz_iinc C_ (k := 1) (v := nI (i + 1)) (lv' := [(0, .ref M), (1, .int (nI a)), (2, .int (nI b)), (3, .int (nI mx)), (4, .int (nI my)), (5, .int bm), (6, .int le), (7, .int (nI (i + 1)))]) 7 rfl (nI_1 i) [1, 2, 3, 4, 5, 6, 7, 0] (by decide) rfl td_M_seam_141 ?_
                      refine tz_goto C_ td_M_seam_144 ?_
                      exact ih40 bm be le (i + 1) (⟨by omega, by omega, by omega⟩) (tz_sm_sk hi.1 hs (Or.inr hatb)) hb9 (by omega)
                    · skip
                      replace h71 := tz_p1.mp h71
                      rw [tz_hasN hb, tz_has_iff (by omega) (by omega)] at h71
                      have hatb : tz_at ((tz_cur σ).1 b).1 ((tz_cur σ).1 b).2 (nI i) = ((tz_cur σ).1 b).2 i := tz_at_N hNb h71
                      have hokb : tz_okv (((tz_cur σ).1 b).2 i) := (hWT.1 b hb).2 i h71
                      refine tz_aload_n C_ 0 rfl rfl td_M_seam_74 ?_
                      refine tz_iload_n C_ 1 rfl rfl td_M_seam_75 ?_
                      refine tz_iload C_ 7 rfl td_M_seam_76 ?_
                      refine tz_rV C_ tmi_M_at tw_827 tw_17 tw_825 hM.1 rfl (As := [.int (nI a), .int (nI i)]) (by exact (ct_M_at ⟨hM.1, hM.2.1, hM.2.2.1, hM.2.2.2.1, hM.2.2.2.2.1, hM.2.2.2.2.2.1, hM.2.2.2.2.2.2.1, hM.2.2.2.2.2.2.2.1, hM.2.2.2.2.2.2.2.2⟩ hE hWT (k := a) (j := i) (by omega) h61)) rfl (rest := []) rfl (by decide) (Nat.le_of_ble_eq_true rfl) td_M_seam_78 (st1 := [.int (tz_mo (((tz_cur σ).1 a).2 i))]) rfl ?_
                      refine tz_ldc C_ tw_829 td_M_seam_81 ?_
                      refine tz_icmp_eq C_ td_M_seam_83 (fun h83 => ?_) (fun h83 => ?_)
                      · skip
                        have sk83 := hata.trans ((tz_mo_lo hoka).mp h83)
                        refine tz_iinc C_ (k := 1) (v := nI (i + 1)) (lv' := [(0, .ref M), (1, .int (nI a)), (2, .int (nI b)), (3, .int (nI mx)), (4, .int (nI my)), (5, .int bm), (6, .int le), (7, .int (nI (i + 1)))]) 7 rfl (nI_1 i) [1, 2, 3, 4, 5, 6, 7, 0] (by decide) rfl td_M_seam_141 ?_
                        refine tz_goto C_ td_M_seam_144 ?_
                        exact ih40 bm be le (i + 1) (⟨by omega, by omega, by omega⟩) (tz_sm_sk hi.1 hs (Or.inl sk83)) hb9 (by omega)
                      · skip
                        refine tz_aload_n C_ 0 rfl rfl td_M_seam_86 ?_
                        refine tz_iload_n C_ 2 rfl rfl td_M_seam_87 ?_
                        refine tz_iload C_ 7 rfl td_M_seam_88 ?_
                        refine tz_rV C_ tmi_M_at tw_827 tw_17 tw_825 hM.1 rfl (As := [.int (nI b), .int (nI i)]) (by exact (ct_M_at ⟨hM.1, hM.2.1, hM.2.2.1, hM.2.2.2.1, hM.2.2.2.2.1, hM.2.2.2.2.2.1, hM.2.2.2.2.2.2.1, hM.2.2.2.2.2.2.2.1, hM.2.2.2.2.2.2.2.2⟩ hE hWT (k := b) (j := i) (by omega) h71)) rfl (rest := []) rfl (by decide) (Nat.le_of_ble_eq_true rfl) td_M_seam_90 (st1 := [.int (tz_mo (((tz_cur σ).1 b).2 i))]) rfl ?_
                        refine tz_ldc C_ tw_829 td_M_seam_93 ?_
                        refine tz_icmp_ne C_ td_M_seam_95 (fun h95 => ?_) (fun h95 => ?_)
                        · skip
                          refine tz_aload_n C_ 0 rfl rfl td_M_seam_101 ?_
                          refine tz_iload_n C_ 1 rfl rfl td_M_seam_102 ?_
                          refine tz_iload C_ 7 rfl td_M_seam_103 ?_
                          refine tz_rV C_ tmi_M_at tw_827 tw_17 tw_825 hM.1 rfl (As := [.int (nI a), .int (nI i)]) (by exact (ct_M_at ⟨hM.1, hM.2.1, hM.2.2.1, hM.2.2.2.1, hM.2.2.2.2.1, hM.2.2.2.2.2.1, hM.2.2.2.2.2.2.1, hM.2.2.2.2.2.2.2.1, hM.2.2.2.2.2.2.2.2⟩ hE hWT (k := a) (j := i) (by omega) h61)) rfl (rest := []) rfl (by decide) (Nat.le_of_ble_eq_true rfl) td_M_seam_105 (st1 := [.int (tz_mo (((tz_cur σ).1 a).2 i))]) rfl ?_
                          refine tz_aload_n C_ 0 rfl rfl td_M_seam_108 ?_
                          refine tz_iload_n C_ 2 rfl rfl td_M_seam_109 ?_
                          refine tz_iload C_ 7 rfl td_M_seam_110 ?_
                          refine tz_rV C_ tmi_M_at tw_827 tw_17 tw_825 hM.1 rfl (As := [.int (nI b), .int (nI i)]) (by exact (ct_M_at ⟨hM.1, hM.2.1, hM.2.2.1, hM.2.2.2.1, hM.2.2.2.2.1, hM.2.2.2.2.2.1, hM.2.2.2.2.2.2.1, hM.2.2.2.2.2.2.2.1, hM.2.2.2.2.2.2.2.2⟩ hE hWT (k := b) (j := i) (by omega) h71)) rfl (rest := [.int (tz_mo (((tz_cur σ).1 a).2 i))]) rfl (by decide) (Nat.le_of_ble_eq_true rfl) td_M_seam_112 (st1 := [.int (tz_mo (((tz_cur σ).1 b).2 i)), .int (tz_mo (((tz_cur σ).1 a).2 i))]) rfl ?_
                          refine tz_isub C_ td_M_seam_115 ?_
                          refine tz_rS C_ tmi_J_abs tw_605 tw_983 (As := [.int ((tz_mo (((tz_cur σ).1 a).2 i)) - (tz_mo (((tz_cur σ).1 b).2 i)))]) (by exact ct_J_abs) rfl (rest := []) rfl (by decide) (Nat.le_of_ble_eq_true rfl) td_M_seam_116 (st1 := [.int (tz_ab ((tz_mo (((tz_cur σ).1 a).2 i)) - (tz_mo (((tz_cur σ).1 b).2 i))))]) rfl ?_
                          have la9 := mt (tz_mo_lo hoka).mpr h83
                          have lb9 := mt (tz_mo_lo hokb).mpr h95
                          rw [tz_mo_id la9, tz_mo_id lb9, ← hata, ← hatb]
                          refine tz_istore C_ (lv' := [(0, .ref M), (1, .int (nI a)), (2, .int (nI b)), (3, .int (nI mx)), (4, .int (nI my)), (5, .int bm), (6, .int le), (7, .int (nI i)), (8, .int (tz_ab (tz_at ((tz_cur σ).1 a).1 ((tz_cur σ).1 a).2 (nI i) - tz_at ((tz_cur σ).1 b).1 ((tz_cur σ).1 b).2 (nI i))))]) [1, 2, 3, 4, 5, 6, 7, 8, 0] (by decide) rfl td_M_seam_119 ?_
                          refine tz_iload C_ 5 rfl td_M_seam_121 ?_
                          refine tz_if_lt C_ td_M_seam_123 (fun h123 => ?_) (fun h123 => ?_)
                          · skip
                            refine tz_iload C_ 7 rfl td_M_seam_133 ?_
                            refine tz_istore C_ (lv' := [(0, .ref M), (1, .int (nI a)), (2, .int (nI b)), (3, .int (nI mx)), (4, .int (nI my)), (5, .int (nI i)), (6, .int le), (7, .int (nI i)), (8, .int (tz_ab (tz_at ((tz_cur σ).1 a).1 ((tz_cur σ).1 a).2 (nI i) - tz_at ((tz_cur σ).1 b).1 ((tz_cur σ).1 b).2 (nI i))))]) [1, 2, 3, 4, 5, 0, 6, 7, 8] (by decide) rfl td_M_seam_135 ?_
                            refine tz_iload C_ 8 rfl td_M_seam_137 ?_
                            refine tz_istore C_ (lv' := [(0, .ref M), (1, .int (nI a)), (2, .int (nI b)), (3, .int (nI mx)), (4, .int (nI my)), (5, .int (nI i)), (6, .int (tz_ab (tz_at ((tz_cur σ).1 a).1 ((tz_cur σ).1 a).2 (nI i) - tz_at ((tz_cur σ).1 b).1 ((tz_cur σ).1 b).2 (nI i)))), (7, .int (nI i)), (8, .int (tz_ab (tz_at ((tz_cur σ).1 a).1 ((tz_cur σ).1 a).2 (nI i) - tz_at ((tz_cur σ).1 b).1 ((tz_cur σ).1 b).2 (nI i))))]) [1, 2, 3, 4, 5, 6, 0, 7, 8] (by decide) rfl td_M_seam_139 ?_
                            refine tz_iinc C_ (k := 1) (v := nI (i + 1)) (lv' := [(0, .ref M), (1, .int (nI a)), (2, .int (nI b)), (3, .int (nI mx)), (4, .int (nI my)), (5, .int (nI i)), (6, .int (tz_ab (tz_at ((tz_cur σ).1 a).1 ((tz_cur σ).1 a).2 (nI i) - tz_at ((tz_cur σ).1 b).1 ((tz_cur σ).1 b).2 (nI i)))), (7, .int (nI (i + 1))), (8, .int (tz_ab (tz_at ((tz_cur σ).1 a).1 ((tz_cur σ).1 a).2 (nI i) - tz_at ((tz_cur σ).1 b).1 ((tz_cur σ).1 b).2 (nI i))))]) 7 rfl (nI_1 i) [1, 2, 3, 4, 5, 6, 7, 0, 8] (by decide) rfl td_M_seam_141 ?_
                            refine tz_goto C_ td_M_seam_144 ?_
                            refine tz_lvs [0, 1, 2, 3, 4, 5, 6, 7] rfl ?_
                            exact ih40 (nI i) (nI i) (tz_ab (tz_at ((tz_cur σ).1 a).1 ((tz_cur σ).1 a).2 (nI i) - tz_at ((tz_cur σ).1 b).1 ((tz_cur σ).1 b).2 (nI i))) (i + 1) (⟨by omega, by omega, by omega⟩) (tz_sm_ye hi.1 hs (fun z => la9 (hata.symm.trans z)) (fun z => lb9 (hatb.symm.trans z)) (Or.inl ((tz_bb_lt hb9).mp h123))) (Or.inr ⟨i, by omega, rfl, rfl⟩) (by omega)
                          · skip
                            refine tz_iload C_ 8 rfl td_M_seam_126 ?_
                            refine tz_iload C_ 6 rfl td_M_seam_128 ?_
                            refine tz_icmp_ge C_ td_M_seam_130 (fun h130 => ?_) (fun h130 => ?_)
                            · skip
                              refine tz_iinc C_ (k := 1) (v := nI (i + 1)) (lv' := [(0, .ref M), (1, .int (nI a)), (2, .int (nI b)), (3, .int (nI mx)), (4, .int (nI my)), (5, .int bm), (6, .int le), (7, .int (nI (i + 1))), (8, .int (tz_ab (tz_at ((tz_cur σ).1 a).1 ((tz_cur σ).1 a).2 (nI i) - tz_at ((tz_cur σ).1 b).1 ((tz_cur σ).1 b).2 (nI i))))]) 7 rfl (nI_1 i) [1, 2, 3, 4, 5, 6, 7, 0, 8] (by decide) rfl td_M_seam_141 ?_
                              refine tz_goto C_ td_M_seam_144 ?_
                              refine tz_lvs [0, 1, 2, 3, 4, 5, 6, 7] rfl ?_
                              exact ih40 bm be le (i + 1) (⟨by omega, by omega, by omega⟩) (tz_sm_no hi.1 hs (fun z => la9 (hata.symm.trans z)) (fun z => lb9 (hatb.symm.trans z)) (mt (tz_bb_lt hb9).mpr h123) (tz_le_nlt h130)) hb9 (by omega)
                            · skip
                              refine tz_iload C_ 7 rfl td_M_seam_133 ?_
                              refine tz_istore C_ (lv' := [(0, .ref M), (1, .int (nI a)), (2, .int (nI b)), (3, .int (nI mx)), (4, .int (nI my)), (5, .int (nI i)), (6, .int le), (7, .int (nI i)), (8, .int (tz_ab (tz_at ((tz_cur σ).1 a).1 ((tz_cur σ).1 a).2 (nI i) - tz_at ((tz_cur σ).1 b).1 ((tz_cur σ).1 b).2 (nI i))))]) [1, 2, 3, 4, 5, 0, 6, 7, 8] (by decide) rfl td_M_seam_135 ?_
                              refine tz_iload C_ 8 rfl td_M_seam_137 ?_
                              refine tz_istore C_ (lv' := [(0, .ref M), (1, .int (nI a)), (2, .int (nI b)), (3, .int (nI mx)), (4, .int (nI my)), (5, .int (nI i)), (6, .int (tz_ab (tz_at ((tz_cur σ).1 a).1 ((tz_cur σ).1 a).2 (nI i) - tz_at ((tz_cur σ).1 b).1 ((tz_cur σ).1 b).2 (nI i)))), (7, .int (nI i)), (8, .int (tz_ab (tz_at ((tz_cur σ).1 a).1 ((tz_cur σ).1 a).2 (nI i) - tz_at ((tz_cur σ).1 b).1 ((tz_cur σ).1 b).2 (nI i))))]) [1, 2, 3, 4, 5, 6, 0, 7, 8] (by decide) rfl td_M_seam_139 ?_
                              refine tz_iinc C_ (k := 1) (v := nI (i + 1)) (lv' := [(0, .ref M), (1, .int (nI a)), (2, .int (nI b)), (3, .int (nI mx)), (4, .int (nI my)), (5, .int (nI i)), (6, .int (tz_ab (tz_at ((tz_cur σ).1 a).1 ((tz_cur σ).1 a).2 (nI i) - tz_at ((tz_cur σ).1 b).1 ((tz_cur σ).1 b).2 (nI i)))), (7, .int (nI (i + 1))), (8, .int (tz_ab (tz_at ((tz_cur σ).1 a).1 ((tz_cur σ).1 a).2 (nI i) - tz_at ((tz_cur σ).1 b).1 ((tz_cur σ).1 b).2 (nI i))))]) 7 rfl (nI_1 i) [1, 2, 3, 4, 5, 6, 7, 0, 8] (by decide) rfl td_M_seam_141 ?_
                              refine tz_goto C_ td_M_seam_144 ?_
                              refine tz_lvs [0, 1, 2, 3, 4, 5, 6, 7] rfl ?_
                              exact ih40 (nI i) (nI i) (tz_ab (tz_at ((tz_cur σ).1 a).1 ((tz_cur σ).1 a).2 (nI i) - tz_at ((tz_cur σ).1 b).1 ((tz_cur σ).1 b).2 (nI i))) (i + 1) (⟨by omega, by omega, by omega⟩) (tz_sm_ye hi.1 hs (fun z => la9 (hata.symm.trans z)) (fun z => lb9 (hatb.symm.trans z)) (Or.inr (Int32.not_le.mp h130))) (Or.inr ⟨i, by omega, rfl, rfl⟩) (by omega)
                        · skip
                          have sk95 := hatb.trans ((tz_mo_lo hokb).mp h95)
                          refine tz_goto C_ td_M_seam_98 ?_
                          refine tz_iinc C_ (k := 1) (v := nI (i + 1)) (lv' := [(0, .ref M), (1, .int (nI a)), (2, .int (nI b)), (3, .int (nI mx)), (4, .int (nI my)), (5, .int bm), (6, .int le), (7, .int (nI (i + 1)))]) 7 rfl (nI_1 i) [1, 2, 3, 4, 5, 6, 7, 0] (by decide) rfl td_M_seam_141 ?_
                          refine tz_goto C_ td_M_seam_144 ?_
                          exact ih40 bm be le (i + 1) (⟨by omega, by omega, by omega⟩) (tz_sm_sk hi.1 hs (Or.inr sk95)) hb9 (by omega)
          exact loop40 _ (-1) tz_NO 0 mx (⟨Nat.le_refl _, Or.inr rfl, by omega⟩) (by rw [Nat.sub_self]; rfl) (Or.inl ⟨rfl, rfl⟩) (Nat.lt_succ_self _)
        · skip
          refine tz_aload_n C_ 0 rfl rfl td_M_seam_24 ?_
          refine tz_ldc C_ tw_812 td_M_seam_25 ?_
          refine tz_cV C_ tmi_M_finding tw_800 tw_14 tw_798 hM.1 rfl (As := [.int (-100001)]) (by exact (ct_M_finding (v := -100001) hM.1)) rfl (rest := []) rfl (by decide) (Nat.le_of_ble_eq_true rfl) td_M_seam_27 (st1 := [.int (-100001)]) rfl (fun f51 hF51 => ?_)
          obtain ⟨hs52, hq52⟩ := hF51
          refine tz_riret C_ hr_ hk_ hQ_ rfl td_M_seam_30 ?_
          have k53 : f51 (M + 1) = some (tz_ints cs 532 nw) := ((hq52 _ (by omega)).trans hM.2.1)
          have k54 : f51 (M + 2) = some (tz_ints cs 10640 pa) := ((hq52 _ (by omega)).trans hM.2.2.1)
          have k55 : f51 (M + 3) = some (tz_ints cs 4 bi) := ((hq52 _ (by omega)).trans hM.2.2.2.1)
          have k56 : f51 (M + 4) = some (tz_ints cs 4 nu) := ((hq52 _ (by omega)).trans hM.2.2.2.2.1)
          have k57 : f51 (M + 5) = some (tz_ints cs 480 sh) := ((hq52 _ (by omega)).trans hM.2.2.2.2.2.1)
          have k58 : f51 (M + 6) = some (tz_ints cs 120 ro) := ((hq52 _ (by omega)).trans hM.2.2.2.2.2.2.1)
          have k59 : f51 (M + 7) = some (tz_ints cs 120 ma) := ((hq52 _ (by omega)).trans hM.2.2.2.2.2.2.2.1)
          have k60 : f51 (M + 8) = some (tz_ints cs 120 ca) := ((hq52 _ (by omega)).trans hM.2.2.2.2.2.2.2.2)
          have e9 : sp_seam σ (nI a) (nI b) x y = (-100001, tz_fnd σ) := by simp only [sp_seam, hpk4, hpk11]; rw [if_neg (fun z => h21 z.2), tz_an_f (by decide)]
          rw [e9]
          exact ⟨rfl, ⟨_, _, _, _, _, _, _, _, _, _, _, ⟨hs52, k53, k54, k55, k56, k57, k58, k59, k60⟩, hE, hH, hQ⟩, (fun q hh => by rw [hq52 q (by omega)])⟩
