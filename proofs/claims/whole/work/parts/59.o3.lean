
theorem tz_mo_inj {a b : Int32} (ha : tz_okv a) (hb : tz_okv b) : tz_mo a = tz_mo b ↔ a = b := by
  refine ⟨fun h => ?_, fun h => by rw [h]⟩
  by_cases e : a = tz_LO
  · have h1 := (tz_mo_lo ha).mpr e
    rw [h] at h1
    rw [e, (tz_mo_lo hb).mp h1]
  · by_cases e2 : b = tz_LO
    · have h1 := (tz_mo_lo hb).mpr e2
      rw [← h] at h1
      exact absurd ((tz_mo_lo ha).mp h1) e
    · rw [tz_mo_id e, tz_mo_id e2] at h; exact h
theorem tz_02 {w : Int32} (h : 0 ≤ w ∧ w ≤ 2) (h0 : ¬ w = 0) (h1 : ¬ w = 1) : w = 2 := by
  have h3 : 0 ≤ w ∧ w ≤ 3 := ⟨h.1, Int32.le_trans h.2 (by decide)⟩
  rcases tz_03 h3 with e | e | e | e
  · exact absurd e h0
  · exact absurd e h1
  · exact e
  · subst e; exact absurd h.2 (by decide)
theorem tz_mxN {a b : Nat} (ha : a < 2 ^ 31) (hb : b < 2 ^ 31) : tz_mx (nI a) (nI b) = nI (max a b) := by
  unfold tz_mx
  by_cases h : nI a < nI b
  · rw [if_pos h]; have := (nI_ltI ha hb).mp h; rw [Nat.max_eq_right (by omega)]
  · rw [if_neg h]; have := mt (nI_ltI ha hb).mpr h; rw [Nat.max_eq_left (by omega)]
theorem tz_en_mark {nw : Nat → Int32} {t : tz_TS} {m : Nat} {p i : Int32} (hE : tz_en nw t) (hW : tz_WT t) (hm : m < 6) : tz_en (upd (upd nw (520 + m) p) (526 + m) i) (tz_smk t (upd t.2.2.2.1 m p) (upd t.2.2.2.2 m i)) := by
  obtain ⟨h1, h2, h3, h4, h5⟩ := hE
  have h8 := hW.2.1
  refine ⟨fun p hp => ?_, fun p hp j hj => ?_, ?_, fun k hk => ?_, fun k hk => ?_⟩
  · rw [tz_updo (by omega), tz_updo (by omega)]; exact h1 p hp
  · have : (t.1 p).1 ≤ 120 := (hW.1 p hp).1
    have hj' : j < (t.1 p).1 := hj
    rw [tz_updo (by omega), tz_updo (by omega)]; exact h2 p hp j hj
  · rw [tz_updo (by omega), tz_updo (by omega)]; exact h3
  · have hk' : k < t.2.1 := hk
    rw [tz_updo (by omega), tz_updo (by omega), tz_updo (by omega), tz_updo (by omega), tz_updo (by omega), tz_updo (by omega), tz_updo (by omega), tz_updo (by omega)]
    exact h4 k hk
  · obtain ⟨a, b⟩ := h5 k hk
    by_cases e : k = m
    · subst e
      rw [tz_updo (by omega), tz_updk, tz_updk]
      exact ⟨tz_updk.symm, tz_updk.symm⟩
    · rw [tz_updo (by omega), tz_updo (by omega), tz_updo (by omega), tz_updo (by omega)]
      exact ⟨a.trans (tz_updo e).symm, b.trans (tz_updo e).symm⟩
theorem tz_sm_c {n n2 a t d : Nat} {g g2 : Nat → Int32} (hn : n ≤ 120) (h : n ≤ a + t) (hb : a + t + d < 2 ^ 31) : tz_sm n g n2 g2 a (t + d) = tz_sm n g n2 g2 a t := by
  induction d with
  | zero => rfl
  | succ d ih =>
    have e := ih (by omega)
    rw [show t + (d + 1) = (t + d) + 1 from rfl, tz_sm]
    rw [if_pos (Or.inl (tz_at_b (by omega) (by omega) hn)), e]
theorem tz_on_s {x on : Int32} {p : Nat → Bool} {i : Nat} (h : on = nI (tz_ct p i)) (hx : x = 0 ∨ x = 1) (hp : p i = decide (¬ x = 0)) : on + x = nI (tz_ct p (i + 1)) := by
  rcases hx with e | e <;> subst e
  · rw [tz_ct_n (by rw [hp]; decide), ← h]; exact Int32.add_zero _
  · rw [tz_ct_y (by rw [hp]; decide), h]; exact nI_1 _
theorem tz_ml_m {x : Int32} (h : -1 ≤ x) : x < 0 ↔ x = -1 := by
  have a := Int32.le_iff_toInt_le.mp h
  have z : (-1 : Int32).toInt = -1 := rfl
  have z0 : (0 : Int32).toInt = 0 := rfl
  rw [z] at a
  refine ⟨fun q => ?_, fun q => by rw [q]; decide⟩
  have b := Int32.lt_iff_toInt_lt.mp q
  rw [z0] at b
  exact Int32.toInt_inj.mp (by rw [z]; omega)
theorem tz_att {n k : Nat} {g : Nat → Int32} (hn : n ≤ 120) (hk : k < 2 ^ 31) : (0 ≤ nI k ∧ nI k < nI n) ↔ k < n := tz_has_iff hk (by omega)

abbrev rm_M_heard : Room := { frames := 8, cells := 0, slots := 0, locals := 189 }
set_option maxHeartbeats 4000000 in
set_option maxRecDepth 100000 in
theorem ct_M_heard {l : Launch} {A : Nat → Prop} {D : va_G} {cs : Nat → ClassId} {sz : Nat} {f : tz_PH} {M : Nat} {σ : tz_SG} (hX : tz_AM cs f M σ) (hW : tz_WF σ) {p w : Int32} : tz_CN l tyM_heard prog_13_method_54_code 6 (some (.int)) rm_M_heard 0 0 A D cs sz [.ref M, .int p, .int w] f (some (.int (sp_heard σ p w).1)) (fun f' => tz_AM cs f' M (sp_heard σ p w).2 ∧ ∀ q, (q < M ∨ M + 9 ≤ q) → f' q = f q) := by
  refine tz_C.ofB (lv0 := [(0, .ref M), (1, .int p), (2, .int w)]) (plainFor_of_name (by decide)) (Nat.le_of_ble_eq_true rfl) rfl ?_
  intro p_ e_ s_ m_ ar_ be_ me_ c_ Q_ C_ hr_ hk_ hnm_ hz_ hQ_
  obtain ⟨ms, ns, tg, nw, pa, bi, nu, sh, ro, ma, ca, hM, hE, hH, hQ⟩ := hX
  have hWT := hW.cur
  have hkp : σ.2.1 ≤ 20 := hW.1
  have hl8 := hWT.2.1
  refine tz_iload_n C_ 1 rfl rfl td_M_heard_0 ?_
  refine tz_rS C_ tmi_M_isPass tw_807 tw_806 (As := [.int p]) (by exact ct_M_isPass) rfl (rest := []) rfl (by decide) (Nat.le_of_ble_eq_true rfl) td_M_heard_1 (st1 := [.int (tz_p (0 ≤ p ∧ p < 4))]) rfl ?_
  refine tz_if_eq C_ td_M_heard_4 (fun h4 => ?_) (fun h4 => ?_)
  · skip
    replace h4 := tz_p0.mp h4
    have hpk4 := tz_pk_out h4
    refine tz_aload_n C_ 0 rfl rfl td_M_heard_16 ?_
    refine tz_ldc C_ tw_812 td_M_heard_17 ?_
    refine tz_cV C_ tmi_M_finding tw_800 tw_14 tw_798 hM.1 rfl (As := [.int (-100001)]) (by exact (ct_M_finding (v := -100001) hM.1)) rfl (rest := []) rfl (by decide) (Nat.le_of_ble_eq_true rfl) td_M_heard_19 (st1 := [.int (-100001)]) rfl (fun f1 hF1 => ?_)
    obtain ⟨hs2, hq2⟩ := hF1
    refine tz_riret C_ hr_ hk_ hQ_ rfl td_M_heard_22 ?_
    have k3 : f1 (M + 1) = some (tz_ints cs 532 nw) := ((hq2 _ (by omega)).trans hM.2.1)
    have k4 : f1 (M + 2) = some (tz_ints cs 10640 pa) := ((hq2 _ (by omega)).trans hM.2.2.1)
    have k5 : f1 (M + 3) = some (tz_ints cs 4 bi) := ((hq2 _ (by omega)).trans hM.2.2.2.1)
    have k6 : f1 (M + 4) = some (tz_ints cs 4 nu) := ((hq2 _ (by omega)).trans hM.2.2.2.2.1)
    have k7 : f1 (M + 5) = some (tz_ints cs 480 sh) := ((hq2 _ (by omega)).trans hM.2.2.2.2.2.1)
    have k8 : f1 (M + 6) = some (tz_ints cs 120 ro) := ((hq2 _ (by omega)).trans hM.2.2.2.2.2.2.1)
    have k9 : f1 (M + 7) = some (tz_ints cs 120 ma) := ((hq2 _ (by omega)).trans hM.2.2.2.2.2.2.2.1)
    have k10 : f1 (M + 8) = some (tz_ints cs 120 ca) := ((hq2 _ (by omega)).trans hM.2.2.2.2.2.2.2.2)
    have e9 : sp_heard σ p w = (-100001, tz_fnd σ) := by simp only [sp_heard, hpk4]; rw [tz_an_f (by decide)]
    rw [e9]
    exact ⟨rfl, ⟨_, _, _, _, _, _, _, _, _, _, _, ⟨hs2, k3, k4, k5, k6, k7, k8, k9, k10⟩, hE, hH, hQ⟩, (fun q hh => by rw [hq2 q (by omega)])⟩
  · skip
    replace h4 := tz_p1.mp h4
    obtain ⟨k, hk, ek⟩ := tz_pk_in h4
    subst ek
    have hpk4 := tz_pk_N hk
    have hnk : tz_ln σ k ≤ 120 := (hWT.1 k hk).1
    have hNk : ((tz_cur σ).1 k).1 ≤ 120 := (hWT.1 k hk).1
    refine tz_iload_n C_ 2 rfl rfl td_M_heard_7 ?_
    refine tz_iconst C_ (v := 0) (by decide) td_M_heard_8 ?_
    refine tz_iconst C_ (v := 2) (by decide) td_M_heard_9 ?_
    refine tz_rS C_ tmi_M_in tw_810 tw_809 (As := [.int w, .int 0, .int 2]) (by exact ct_M_in) rfl (rest := []) rfl (by decide) (Nat.le_of_ble_eq_true rfl) td_M_heard_10 (st1 := [.int (tz_p (0 ≤ w ∧ w ≤ 2))]) rfl ?_
    refine tz_if_ne C_ td_M_heard_13 (fun h13 => ?_) (fun h13 => ?_)
    · skip
      replace h13 := tz_p1.mp h13
      refine tz_aload_n C_ 0 rfl rfl td_M_heard_23 ?_
      refine tz_iload_n C_ 1 rfl rfl td_M_heard_24 ?_
      refine tz_cV C_ tmi_M_output tw_950 tw_28 tw_948 hM.1 rfl (As := [.int (nI k)]) (by exact (ct_M_output ⟨hM.1, hM.2.1, hM.2.2.1, hM.2.2.2.1, hM.2.2.2.2.1, hM.2.2.2.2.2.1, hM.2.2.2.2.2.2.1, hM.2.2.2.2.2.2.2.1, hM.2.2.2.2.2.2.2.2⟩ hE hWT (k := k) (by omega))) rfl (rest := []) rfl (by decide) (Nat.le_of_ble_eq_true rfl) td_M_heard_25 (st1 := []) rfl (fun f11 hF11 => ?_)
      obtain ⟨⟨roW, maW, nsW, tgW, hMW, herW⟩, hqW⟩ := hF11
      have hokW : tz_okr (tz_ou (tz_cur σ) k (-1)).1 (tz_ou (tz_cur σ) k (-1)).2.1 := (tz_rn_ok hWT hk (-1) _ (Nat.le_refl _)).1
      have hleW : (tz_ou (tz_cur σ) k (-1)).1 ≤ 120 := tz_ou_le hWT hk (-1)
      refine tz_iload_n C_ 2 rfl rfl td_M_heard_28 ?_
      refine tz_iconst C_ (v := 1) (by decide) td_M_heard_29 ?_
      refine tz_icmp_ne C_ td_M_heard_30 (fun h30 => ?_) (fun h30 => ?_)
      · skip
        refine tz_iconst C_ (v := 0) (by decide) td_M_heard_38 ?_
        refine tz_istore_n C_ (lv' := [(0, .ref M), (1, .int (nI k)), (2, .int w), (3, .int 0)]) [1, 2, 3, 0] rfl (by decide) rfl td_M_heard_39 ?_
        refine tz_iconst C_ (v := 0) (by decide) td_M_heard_40 ?_
        refine tz_istore C_ (lv' := [(0, .ref M), (1, .int (nI k)), (2, .int w), (3, .int 0), (4, .int 0)]) [1, 2, 3, 4, 0] (by decide) rfl td_M_heard_41 ?_
        refine tz_iconst C_ (v := 0) (by decide) td_M_heard_43 ?_
        refine tz_istore C_ (lv' := [(0, .ref M), (1, .int (nI k)), (2, .int w), (3, .int 0), (4, .int 0), (5, .int 0)]) [1, 2, 3, 4, 5, 0] (by decide) rfl td_M_heard_44 ?_
        have loop46 : ∀ (kk46 : Nat) (gr : Int32) (x : Nat) (i : Nat), (i ≤ (tz_ou (tz_cur σ) k (-1)).1) → (gr = tz_loud ((tz_ou (tz_cur σ) k (-1)).2.1) i) → (x = tz_ct (fun q => decide (¬ (q < tz_ln σ k ∧ (tz_ou (tz_cur σ) k (-1)).2.1 q = tz_sg σ k q))) i) → ((tz_ou (tz_cur σ) k (-1)).1 - i) < kk46 → tz_V p_ l e_ rm_M_heard s_ m_ ar_ be_ me_ c_ Q_ A D 6 f11 sz 0 0 46 [(0, .ref M), (1, .int (nI k)), (2, .int w), (3, .int gr), (4, .int (nI x)), (5, .int (nI i))] [] := by
          intro kk46
          induction kk46 with
          | zero => intro gr x i hi hg hx hm46; omega
          | succ kk46 ih46 =>
            intro gr x i hi hg hx hm46
            refine tz_iload C_ 5 rfl td_M_heard_46 ?_
            refine tz_aload_n C_ 0 rfl rfl td_M_heard_48 ?_
            refine tz_get C_ tci_M 7 (by decide) tw_760 hMW.1 rfl td_M_heard_49 ?_
            refine tz_icmp_ge C_ td_M_heard_52 (fun h52 => ?_) (fun h52 => ?_)
            · skip
              replace h52 := (nI_leI (a := (tz_ou (tz_cur σ) k (-1)).1) (b := i) (by omega) (by omega)).mp h52
              refine tz_iload_n C_ 2 rfl rfl td_M_heard_129 ?_
              refine tz_if_ne C_ td_M_heard_130 (fun h130 => ?_) (fun h130 => ?_)
              · skip
                refine tz_iload C_ 4 rfl td_M_heard_137 ?_
                refine tz_riret C_ hr_ hk_ hQ_ rfl td_M_heard_139 ?_
                have e9 : sp_heard σ (nI k) w = (nI x, σ) := by have e8 : i = (tz_ou (tz_cur σ) k (-1)).1 := (by omega); rw [e8] at hg hx; simp only [sp_heard, hpk4]; rw [if_neg h130, if_neg h30, if_pos (tz_02 h13 h130 h30), hx]; rfl
                rw [e9]
                exact ⟨rfl, ⟨_, _, _, _, _, _, _, _, _, _, _, ⟨hMW.1, hMW.2.1, hMW.2.2.1, hMW.2.2.2.1, hMW.2.2.2.2.1, hMW.2.2.2.2.2.1, hMW.2.2.2.2.2.2.1, hMW.2.2.2.2.2.2.2.1, hMW.2.2.2.2.2.2.2.2⟩, hE, hH, hQ⟩, (fun q hh => by rw [hqW q (by omega)])⟩
              · skip
                refine tz_iload_n C_ 3 rfl rfl td_M_heard_133 ?_
                refine tz_goto C_ td_M_heard_134 ?_
                refine tz_riret C_ hr_ hk_ hQ_ rfl td_M_heard_139 ?_
                have e9 : sp_heard σ (nI k) w = (gr, σ) := by have e8 : i = (tz_ou (tz_cur σ) k (-1)).1 := (by omega); rw [e8] at hg hx; simp only [sp_heard, hpk4]; rw [if_pos h130, hg]
                rw [e9]
                exact ⟨rfl, ⟨_, _, _, _, _, _, _, _, _, _, _, ⟨hMW.1, hMW.2.1, hMW.2.2.1, hMW.2.2.2.1, hMW.2.2.2.2.1, hMW.2.2.2.2.2.1, hMW.2.2.2.2.2.2.1, hMW.2.2.2.2.2.2.2.1, hMW.2.2.2.2.2.2.2.2⟩, hE, hH, hQ⟩, (fun q hh => by rw [hqW q (by omega)])⟩
            · skip
              replace h52 := mt (nI_leI (a := (tz_ou (tz_cur σ) k (-1)).1) (b := i) (by omega) (by omega)).mpr h52
              refine tz_aload_n C_ 0 rfl rfl td_M_heard_55 ?_
              refine tz_get C_ tci_M 8 (by decide) tw_761 hMW.1 rfl td_M_heard_56 ?_
              refine tz_iload C_ 5 rfl td_M_heard_59 ?_
              refine tz_ialdN C_ hMW.2.2.2.2.2.2.1 (by omega) (by decide) td_M_heard_61 ?_
              refine tz_ldc C_ tw_829 td_M_heard_62 ?_
              refine tz_icmp_ne C_ td_M_heard_64 (fun h64 => ?_) (fun h64 => ?_)
              · skip
                refine tz_iload_n C_ 3 rfl rfl td_M_heard_71 ?_
                refine tz_aload_n C_ 0 rfl rfl td_M_heard_72 ?_
                refine tz_get C_ tci_M 8 (by decide) tw_761 hMW.1 rfl td_M_heard_73 ?_
                refine tz_iload C_ 5 rfl td_M_heard_76 ?_
                refine tz_ialdN C_ hMW.2.2.2.2.2.2.1 (by omega) (by decide) td_M_heard_78 ?_
                refine tz_rS C_ tmi_J_abs tw_605 tw_983 (As := [.int (roW i)]) (by exact ct_J_abs) rfl (rest := [.int gr]) rfl (by decide) (Nat.le_of_ble_eq_true rfl) td_M_heard_79 (st1 := [.int (tz_ab (roW i)), .int gr]) rfl ?_
                refine tz_rS C_ tmi_J_max tw_318 tw_1011 (As := [.int gr, .int (tz_ab (roW i))]) (by exact ct_J_max) rfl (rest := []) rfl (by decide) (Nat.le_of_ble_eq_true rfl) td_M_heard_82 (st1 := [.int (tz_mx gr (tz_ab (roW i)))]) rfl ?_
                refine tz_istore_n C_ (lv' := [(0, .ref M), (1, .int (nI k)), (2, .int w), (3, .int (tz_mx gr (tz_ab (roW i)))), (4, .int (nI x)), (5, .int (nI i))]) [1, 2, 3, 0, 4, 5] rfl (by decide) rfl td_M_heard_85 ?_
                refine tz_iload C_ 4 rfl td_M_heard_86 ?_
                refine tz_aload_n C_ 0 rfl rfl td_M_heard_88 ?_
                refine tz_iload_n C_ 1 rfl rfl td_M_heard_89 ?_
                refine tz_iload C_ 5 rfl td_M_heard_90 ?_
                refine tz_rV C_ tmi_M_isSample tw_823 tw_16 tw_821 hMW.1 rfl (As := [.int (nI k), .int (nI i)]) (by exact (ct_M_isSample ⟨hMW.1, hMW.2.1, hMW.2.2.1, hMW.2.2.2.1, hMW.2.2.2.2.1, hMW.2.2.2.2.2.1, hMW.2.2.2.2.2.2.1, hMW.2.2.2.2.2.2.2.1, hMW.2.2.2.2.2.2.2.2⟩ hE hWT)) rfl (rest := [.int (nI x)]) rfl (by decide) (Nat.le_of_ble_eq_true rfl) td_M_heard_92 (st1 := [.int (tz_p (tz_has (tz_cur σ) (nI k) (nI i))), .int (nI x)]) rfl ?_
                refine tz_if_eq C_ td_M_heard_95 (fun h95 => ?_) (fun h95 => ?_)
                · skip
                  replace h95 := tz_p0.mp h95
                  rw [tz_hasN hk, tz_has_iff (by omega) (by omega)] at h95
                  refine tz_iconst C_ (v := 1) (by decide) td_M_heard_119 ?_
                  refine tz_iadd C_ td_M_heard_120 ?_
                  rw [show ((nI x) + 1 : Int32) = nI (x + 1) from nI_add (x) (1)]
                  refine tz_istore C_ (lv' := [(0, .ref M), (1, .int (nI k)), (2, .int w), (3, .int (tz_mx gr (tz_ab (roW i)))), (4, .int (nI (x + 1))), (5, .int (nI i))]) [1, 2, 3, 4, 0, 5] (by decide) rfl td_M_heard_121 ?_
                  refine tz_iinc C_ (k := 1) (v := nI (i + 1)) (lv' := [(0, .ref M), (1, .int (nI k)), (2, .int w), (3, .int (tz_mx gr (tz_ab (roW i)))), (4, .int (nI (x + 1))), (5, .int (nI (i + 1)))]) 5 rfl (nI_1 i) [1, 2, 3, 4, 5, 0] (by decide) rfl td_M_heard_123 ?_
                  refine tz_goto C_ td_M_heard_126 ?_
                  have hlo9 := tz_er_lo herW hokW (show i < (tz_ou (tz_cur σ) k (-1)).1 by omega)
                  exact ih46 (tz_mx gr (tz_ab (roW i))) (x + 1) (i + 1) (by omega) (by rw [tz_loud, if_neg (mt hlo9.mpr h64), ← hg, tz_er_v herW (show i < (tz_ou (tz_cur σ) k (-1)).1 by omega) (mt hlo9.mpr h64)]) (by rw [tz_ct_y (by simp only [decide_eq_true_eq]; exact fun z => h95 z.1), hx]) (by omega)
                · skip
                  replace h95 := tz_p1.mp h95
                  rw [tz_hasN hk, tz_has_iff (by omega) (by omega)] at h95
                  refine tz_aload_n C_ 0 rfl rfl td_M_heard_98 ?_
                  refine tz_iload_n C_ 1 rfl rfl td_M_heard_99 ?_
                  refine tz_iload C_ 5 rfl td_M_heard_100 ?_
                  refine tz_rV C_ tmi_M_at tw_827 tw_17 tw_825 hMW.1 rfl (As := [.int (nI k), .int (nI i)]) (by exact (ct_M_at ⟨hMW.1, hMW.2.1, hMW.2.2.1, hMW.2.2.2.1, hMW.2.2.2.2.1, hMW.2.2.2.2.2.1, hMW.2.2.2.2.2.2.1, hMW.2.2.2.2.2.2.2.1, hMW.2.2.2.2.2.2.2.2⟩ hE hWT (k := k) (j := i) (by omega) h95)) rfl (rest := [.int (nI x)]) rfl (by decide) (Nat.le_of_ble_eq_true rfl) td_M_heard_102 (st1 := [.int (tz_mo (((tz_cur σ).1 k).2 i)), .int (nI x)]) rfl ?_
                  refine tz_aload_n C_ 0 rfl rfl td_M_heard_105 ?_
                  refine tz_get C_ tci_M 8 (by decide) tw_761 hMW.1 rfl td_M_heard_106 ?_
                  refine tz_iload C_ 5 rfl td_M_heard_109 ?_
                  refine tz_ialdN C_ hMW.2.2.2.2.2.2.1 (by omega) (by decide) td_M_heard_111 ?_
                  refine tz_icmp_ne C_ td_M_heard_112 (fun h112 => ?_) (fun h112 => ?_)
                  · skip
                    refine tz_iconst C_ (v := 1) (by decide) td_M_heard_119 ?_
                    refine tz_iadd C_ td_M_heard_120 ?_
                    rw [show ((nI x) + 1 : Int32) = nI (x + 1) from nI_add (x) (1)]
                    refine tz_istore C_ (lv' := [(0, .ref M), (1, .int (nI k)), (2, .int w), (3, .int (tz_mx gr (tz_ab (roW i)))), (4, .int (nI (x + 1))), (5, .int (nI i))]) [1, 2, 3, 4, 0, 5] (by decide) rfl td_M_heard_121 ?_
                    refine tz_iinc C_ (k := 1) (v := nI (i + 1)) (lv' := [(0, .ref M), (1, .int (nI k)), (2, .int w), (3, .int (tz_mx gr (tz_ab (roW i)))), (4, .int (nI (x + 1))), (5, .int (nI (i + 1)))]) 5 rfl (nI_1 i) [1, 2, 3, 4, 5, 0] (by decide) rfl td_M_heard_123 ?_
                    refine tz_goto C_ td_M_heard_126 ?_
                    have hlo9 := tz_er_lo herW hokW (show i < (tz_ou (tz_cur σ) k (-1)).1 by omega)
                    have hj9 : i < tz_ln σ k := h95
                    have hro9 : roW i = tz_mo ((tz_ou (tz_cur σ) k (-1)).2.1 i) := herW i (by omega)
                    rw [hro9] at h112
                    have hin9 : tz_mo (((tz_cur σ).1 k).2 i) = tz_mo ((tz_ou (tz_cur σ) k (-1)).2.1 i) ↔ ((tz_cur σ).1 k).2 i = (tz_ou (tz_cur σ) k (-1)).2.1 i := tz_mo_inj ((hWT.1 k hk).2 i hj9) (hokW i (by omega))
                    exact ih46 (tz_mx gr (tz_ab (roW i))) (x + 1) (i + 1) (by omega) (by rw [tz_loud, if_neg (mt hlo9.mpr h64), ← hg, tz_er_v herW (show i < (tz_ou (tz_cur σ) k (-1)).1 by omega) (mt hlo9.mpr h64)]) (by rw [tz_ct_y (by simp only [decide_eq_true_eq]; exact fun z => h112 (hin9.mpr z.2.symm)), hx]) (by omega)
                  · skip
                    refine tz_iconst C_ (v := 0) (by decide) td_M_heard_115 ?_
                    refine tz_goto C_ td_M_heard_116 ?_
                    refine tz_iadd C_ td_M_heard_120 ?_
                    rw [show ((nI x) + 0 : Int32) = nI (x + 0) from nI_add (x) (0)]
                    refine tz_istore C_ (lv' := [(0, .ref M), (1, .int (nI k)), (2, .int w), (3, .int (tz_mx gr (tz_ab (roW i)))), (4, .int (nI (x + 0))), (5, .int (nI i))]) [1, 2, 3, 4, 0, 5] (by decide) rfl td_M_heard_121 ?_
                    refine tz_iinc C_ (k := 1) (v := nI (i + 1)) (lv' := [(0, .ref M), (1, .int (nI k)), (2, .int w), (3, .int (tz_mx gr (tz_ab (roW i)))), (4, .int (nI (x + 0))), (5, .int (nI (i + 1)))]) 5 rfl (nI_1 i) [1, 2, 3, 4, 5, 0] (by decide) rfl td_M_heard_123 ?_
                    refine tz_goto C_ td_M_heard_126 ?_
                    have hlo9 := tz_er_lo herW hokW (show i < (tz_ou (tz_cur σ) k (-1)).1 by omega)
                    have hj9 : i < tz_ln σ k := h95
                    have hro9 : roW i = tz_mo ((tz_ou (tz_cur σ) k (-1)).2.1 i) := herW i (by omega)
                    rw [hro9] at h112
                    have hin9 : tz_mo (((tz_cur σ).1 k).2 i) = tz_mo ((tz_ou (tz_cur σ) k (-1)).2.1 i) ↔ ((tz_cur σ).1 k).2 i = (tz_ou (tz_cur σ) k (-1)).2.1 i := tz_mo_inj ((hWT.1 k hk).2 i hj9) (hokW i (by omega))
                    exact ih46 (tz_mx gr (tz_ab (roW i))) (x + 0) (i + 1) (by omega) (by rw [tz_loud, if_neg (mt hlo9.mpr h64), ← hg, tz_er_v herW (show i < (tz_ou (tz_cur σ) k (-1)).1 by omega) (mt hlo9.mpr h64)]) (by rw [tz_ct_n (by simp only [decide_eq_false_iff_not]; exact fun z => z ⟨hj9, (hin9.mp h112).symm⟩), hx]; rfl) (by omega)
              · skip
                refine tz_iload_n C_ 3 rfl rfl td_M_heard_67 ?_
                refine tz_goto C_ td_M_heard_68 ?_
                refine tz_istore_n C_ (lv' := [(0, .ref M), (1, .int (nI k)), (2, .int w), (3, .int gr), (4, .int (nI x)), (5, .int (nI i))]) [1, 2, 3, 0, 4, 5] rfl (by decide) rfl td_M_heard_85 ?_
                refine tz_iload C_ 4 rfl td_M_heard_86 ?_
                refine tz_aload_n C_ 0 rfl rfl td_M_heard_88 ?_
                refine tz_iload_n C_ 1 rfl rfl td_M_heard_89 ?_
                refine tz_iload C_ 5 rfl td_M_heard_90 ?_
                refine tz_rV C_ tmi_M_isSample tw_823 tw_16 tw_821 hMW.1 rfl (As := [.int (nI k), .int (nI i)]) (by exact (ct_M_isSample ⟨hMW.1, hMW.2.1, hMW.2.2.1, hMW.2.2.2.1, hMW.2.2.2.2.1, hMW.2.2.2.2.2.1, hMW.2.2.2.2.2.2.1, hMW.2.2.2.2.2.2.2.1, hMW.2.2.2.2.2.2.2.2⟩ hE hWT)) rfl (rest := [.int (nI x)]) rfl (by decide) (Nat.le_of_ble_eq_true rfl) td_M_heard_92 (st1 := [.int (tz_p (tz_has (tz_cur σ) (nI k) (nI i))), .int (nI x)]) rfl ?_
                refine tz_if_eq C_ td_M_heard_95 (fun h95 => ?_) (fun h95 => ?_)
                · skip
                  replace h95 := tz_p0.mp h95
                  rw [tz_hasN hk, tz_has_iff (by omega) (by omega)] at h95
                  refine tz_iconst C_ (v := 1) (by decide) td_M_heard_119 ?_
                  refine tz_iadd C_ td_M_heard_120 ?_
                  rw [show ((nI x) + 1 : Int32) = nI (x + 1) from nI_add (x) (1)]
                  refine tz_istore C_ (lv' := [(0, .ref M), (1, .int (nI k)), (2, .int w), (3, .int gr), (4, .int (nI (x + 1))), (5, .int (nI i))]) [1, 2, 3, 4, 0, 5] (by decide) rfl td_M_heard_121 ?_
                  refine tz_iinc C_ (k := 1) (v := nI (i + 1)) (lv' := [(0, .ref M), (1, .int (nI k)), (2, .int w), (3, .int gr), (4, .int (nI (x + 1))), (5, .int (nI (i + 1)))]) 5 rfl (nI_1 i) [1, 2, 3, 4, 5, 0] (by decide) rfl td_M_heard_123 ?_
                  refine tz_goto C_ td_M_heard_126 ?_
                  have hlo9 := tz_er_lo herW hokW (show i < (tz_ou (tz_cur σ) k (-1)).1 by omega)
                  exact ih46 gr (x + 1) (i + 1) (by omega) (by rw [tz_loud, if_pos (hlo9.mp h64)]; exact hg) (by rw [tz_ct_y (by simp only [decide_eq_true_eq]; exact fun z => h95 z.1), hx]) (by omega)
                · skip
                  replace h95 := tz_p1.mp h95
                  rw [tz_hasN hk, tz_has_iff (by omega) (by omega)] at h95
                  refine tz_aload_n C_ 0 rfl rfl td_M_heard_98 ?_
                  refine tz_iload_n C_ 1 rfl rfl td_M_heard_99 ?_
                  refine tz_iload C_ 5 rfl td_M_heard_100 ?_
                  refine tz_rV C_ tmi_M_at tw_827 tw_17 tw_825 hMW.1 rfl (As := [.int (nI k), .int (nI i)]) (by exact (ct_M_at ⟨hMW.1, hMW.2.1, hMW.2.2.1, hMW.2.2.2.1, hMW.2.2.2.2.1, hMW.2.2.2.2.2.1, hMW.2.2.2.2.2.2.1, hMW.2.2.2.2.2.2.2.1, hMW.2.2.2.2.2.2.2.2⟩ hE hWT (k := k) (j := i) (by omega) h95)) rfl (rest := [.int (nI x)]) rfl (by decide) (Nat.le_of_ble_eq_true rfl) td_M_heard_102 (st1 := [.int (tz_mo (((tz_cur σ).1 k).2 i)), .int (nI x)]) rfl ?_
                  refine tz_aload_n C_ 0 rfl rfl td_M_heard_105 ?_
                  refine tz_get C_ tci_M 8 (by decide) tw_761 hMW.1 rfl td_M_heard_106 ?_
                  refine tz_iload C_ 5 rfl td_M_heard_109 ?_
                  refine tz_ialdN C_ hMW.2.2.2.2.2.2.1 (by omega) (by decide) td_M_heard_111 ?_
                  refine tz_icmp_ne C_ td_M_heard_112 (fun h112 => ?_) (fun h112 => ?_)
                  · skip
                    refine tz_iconst C_ (v := 1) (by decide) td_M_heard_119 ?_
                    refine tz_iadd C_ td_M_heard_120 ?_
                    rw [show ((nI x) + 1 : Int32) = nI (x + 1) from nI_add (x) (1)]
                    refine tz_istore C_ (lv' := [(0, .ref M), (1, .int (nI k)), (2, .int w), (3, .int gr), (4, .int (nI (x + 1))), (5, .int (nI i))]) [1, 2, 3, 4, 0, 5] (by decide) rfl td_M_heard_121 ?_
                    refine tz_iinc C_ (k := 1) (v := nI (i + 1)) (lv' := [(0, .ref M), (1, .int (nI k)), (2, .int w), (3, .int gr), (4, .int (nI (x + 1))), (5, .int (nI (i + 1)))]) 5 rfl (nI_1 i) [1, 2, 3, 4, 5, 0] (by decide) rfl td_M_heard_123 ?_
                    refine tz_goto C_ td_M_heard_126 ?_
                    have hlo9 := tz_er_lo herW hokW (show i < (tz_ou (tz_cur σ) k (-1)).1 by omega)
                    have hj9 : i < tz_ln σ k := h95
                    have hro9 : roW i = tz_mo ((tz_ou (tz_cur σ) k (-1)).2.1 i) := herW i (by omega)
                    rw [hro9] at h112
                    have hin9 : tz_mo (((tz_cur σ).1 k).2 i) = tz_mo ((tz_ou (tz_cur σ) k (-1)).2.1 i) ↔ ((tz_cur σ).1 k).2 i = (tz_ou (tz_cur σ) k (-1)).2.1 i := tz_mo_inj ((hWT.1 k hk).2 i hj9) (hokW i (by omega))
                    exact ih46 gr (x + 1) (i + 1) (by omega) (by rw [tz_loud, if_pos (hlo9.mp h64)]; exact hg) (by rw [tz_ct_y (by simp only [decide_eq_true_eq]; exact fun z => h112 (hin9.mpr z.2.symm)), hx]) (by omega)
                  · skip
                    refine tz_iconst C_ (v := 0) (by decide) td_M_heard_115 ?_
                    refine tz_goto C_ td_M_heard_116 ?_
                    refine tz_iadd C_ td_M_heard_120 ?_
                    rw [show ((nI x) + 0 : Int32) = nI (x + 0) from nI_add (x) (0)]
                    refine tz_istore C_ (lv' := [(0, .ref M), (1, .int (nI k)), (2, .int w), (3, .int gr), (4, .int (nI (x + 0))), (5, .int (nI i))]) [1, 2, 3, 4, 0, 5] (by decide) rfl td_M_heard_121 ?_
                    refine tz_iinc C_ (k := 1) (v := nI (i + 1)) (lv' := [(0, .ref M), (1, .int (nI k)), (2, .int w), (3, .int gr), (4, .int (nI (x + 0))), (5, .int (nI (i + 1)))]) 5 rfl (nI_1 i) [1, 2, 3, 4, 5, 0] (by decide) rfl td_M_heard_123 ?_
                    refine tz_goto C_ td_M_heard_126 ?_
                    have hlo9 := tz_er_lo herW hokW (show i < (tz_ou (tz_cur σ) k (-1)).1 by omega)
                    have hj9 : i < tz_ln σ k := h95
                    have hro9 : roW i = tz_mo ((tz_ou (tz_cur σ) k (-1)).2.1 i) := herW i (by omega)
                    rw [hro9] at h112
                    have hin9 : tz_mo (((tz_cur σ).1 k).2 i) = tz_mo ((tz_ou (tz_cur σ) k (-1)).2.1 i) ↔ ((tz_cur σ).1 k).2 i = (tz_ou (tz_cur σ) k (-1)).2.1 i := tz_mo_inj ((hWT.1 k hk).2 i hj9) (hokW i (by omega))
                    exact ih46 gr (x + 0) (i + 1) (by omega) (by rw [tz_loud, if_pos (hlo9.mp h64)]; exact hg) (by rw [tz_ct_n (by simp only [decide_eq_false_iff_not]; exact fun z => z ⟨hj9, (hin9.mp h112).symm⟩), hx]; rfl) (by omega)
        exact loop46 _ 0 0 0 (Nat.zero_le _) rfl rfl (Nat.lt_succ_self _)
      · skip
        refine tz_aload_n C_ 0 rfl rfl td_M_heard_33 ?_
        refine tz_rV C_ tmi_M_lostMany tw_849 tw_19 tw_847 hMW.1 rfl (As := []) (by exact (ct_M_lostMany ⟨hMW.1, hMW.2.1, hMW.2.2.1, hMW.2.2.2.1, hMW.2.2.2.2.1, hMW.2.2.2.2.2.1, hMW.2.2.2.2.2.2.1, hMW.2.2.2.2.2.2.2.1, hMW.2.2.2.2.2.2.2.2⟩ herW hokW hleW)) rfl (rest := []) rfl (by decide) (Nat.le_of_ble_eq_true rfl) td_M_heard_34 (st1 := [.int (nI (tz_lost (tz_ou (tz_cur σ) k (-1)).1 ((tz_ou (tz_cur σ) k (-1)).2.1)))]) rfl ?_
        refine tz_riret C_ hr_ hk_ hQ_ rfl td_M_heard_37 ?_
        have e9 : sp_heard σ (nI k) w = (nI (tz_lost (tz_ou (tz_cur σ) k (-1)).1 ((tz_ou (tz_cur σ) k (-1)).2.1)), σ) := by subst h30; simp only [sp_heard, hpk4]; rfl
        rw [e9]
        exact ⟨rfl, ⟨_, _, _, _, _, _, _, _, _, _, _, ⟨hMW.1, hMW.2.1, hMW.2.2.1, hMW.2.2.2.1, hMW.2.2.2.2.1, hMW.2.2.2.2.2.1, hMW.2.2.2.2.2.2.1, hMW.2.2.2.2.2.2.2.1, hMW.2.2.2.2.2.2.2.2⟩, hE, hH, hQ⟩, (fun q hh => by rw [hqW q (by omega)])⟩
    · skip
      replace h13 := tz_p0.mp h13
      refine tz_aload_n C_ 0 rfl rfl td_M_heard_16 ?_
      refine tz_ldc C_ tw_812 td_M_heard_17 ?_
      refine tz_cV C_ tmi_M_finding tw_800 tw_14 tw_798 hM.1 rfl (As := [.int (-100001)]) (by exact (ct_M_finding (v := -100001) hM.1)) rfl (rest := []) rfl (by decide) (Nat.le_of_ble_eq_true rfl) td_M_heard_19 (st1 := [.int (-100001)]) rfl (fun f12 hF12 => ?_)
      obtain ⟨hs13, hq13⟩ := hF12
      refine tz_riret C_ hr_ hk_ hQ_ rfl td_M_heard_22 ?_
      have k14 : f12 (M + 1) = some (tz_ints cs 532 nw) := ((hq13 _ (by omega)).trans hM.2.1)
      have k15 : f12 (M + 2) = some (tz_ints cs 10640 pa) := ((hq13 _ (by omega)).trans hM.2.2.1)
      have k16 : f12 (M + 3) = some (tz_ints cs 4 bi) := ((hq13 _ (by omega)).trans hM.2.2.2.1)
      have k17 : f12 (M + 4) = some (tz_ints cs 4 nu) := ((hq13 _ (by omega)).trans hM.2.2.2.2.1)
      have k18 : f12 (M + 5) = some (tz_ints cs 480 sh) := ((hq13 _ (by omega)).trans hM.2.2.2.2.2.1)
      have k19 : f12 (M + 6) = some (tz_ints cs 120 ro) := ((hq13 _ (by omega)).trans hM.2.2.2.2.2.2.1)
      have k20 : f12 (M + 7) = some (tz_ints cs 120 ma) := ((hq13 _ (by omega)).trans hM.2.2.2.2.2.2.2.1)
      have k21 : f12 (M + 8) = some (tz_ints cs 120 ca) := ((hq13 _ (by omega)).trans hM.2.2.2.2.2.2.2.2)
      have e9 : sp_heard σ (nI k) w = (-100001, tz_fnd σ) := by simp only [sp_heard, hpk4]; rw [if_neg (fun e => h13 (by rw [e]; decide)), if_neg (fun e => h13 (by rw [e]; decide)), if_neg (fun e => h13 (by rw [e]; decide)), tz_an_f (by decide)]
      rw [e9]
      exact ⟨rfl, ⟨_, _, _, _, _, _, _, _, _, _, _, ⟨hs13, k14, k15, k16, k17, k18, k19, k20, k21⟩, hE, hH, hQ⟩, (fun q hh => by rw [hq13 q (by omega)])⟩

abbrev rm_M_power : Room := { frames := 8, cells := 0, slots := 0, locals := 189 }
set_option maxHeartbeats 4000000 in
set_option maxRecDepth 100000 in
theorem ct_M_power {l : Launch} {A : Nat → Prop} {D : va_G} {cs : Nat → ClassId} {sz : Nat} {f : tz_PH} {M : Nat} {σ : tz_SG} (hX : tz_AM cs f M σ) (hW : tz_WF σ) {p : Int32} : tz_CN l tyM_power prog_13_method_55_code 5 (some (.long)) rm_M_power 0 0 A D cs sz [.ref M, .int p] f (some (.long (sp_power σ p).1)) (fun f' => tz_AM cs f' M (sp_power σ p).2 ∧ ∀ q, (q < M ∨ M + 9 ≤ q) → f' q = f q) := by
  refine tz_C.ofB (lv0 := [(0, .ref M), (1, .int p)]) (plainFor_of_name (by decide)) (Nat.le_of_ble_eq_true rfl) rfl ?_
  intro p_ e_ s_ m_ ar_ be_ me_ c_ Q_ C_ hr_ hk_ hnm_ hz_ hQ_
  obtain ⟨ms, ns, tg, nw, pa, bi, nu, sh, ro, ma, ca, hM, hE, hH, hQ⟩ := hX
  have hWT := hW.cur
  have hkp : σ.2.1 ≤ 20 := hW.1
  have hl8 := hWT.2.1
  refine tz_iload_n C_ 1 rfl rfl td_M_power_0 ?_
  refine tz_rS C_ tmi_M_isPass tw_807 tw_806 (As := [.int p]) (by exact ct_M_isPass) rfl (rest := []) rfl (by decide) (Nat.le_of_ble_eq_true rfl) td_M_power_1 (st1 := [.int (tz_p (0 ≤ p ∧ p < 4))]) rfl ?_
  refine tz_if_ne C_ td_M_power_4 (fun h4 => ?_) (fun h4 => ?_)
  · skip
    replace h4 := tz_p1.mp h4
    obtain ⟨k, hk, ek⟩ := tz_pk_in h4
    subst ek
    have hpk4 := tz_pk_N hk
    have hnk : tz_ln σ k ≤ 120 := (hWT.1 k hk).1
    have hNk : ((tz_cur σ).1 k).1 ≤ 120 := (hWT.1 k hk).1
    refine tz_aload_n C_ 0 rfl rfl td_M_power_15 ?_
    refine tz_iload_n C_ 1 rfl rfl td_M_power_16 ?_
    refine tz_cV C_ tmi_M_output tw_950 tw_28 tw_948 hM.1 rfl (As := [.int (nI k)]) (by exact (ct_M_output ⟨hM.1, hM.2.1, hM.2.2.1, hM.2.2.2.1, hM.2.2.2.2.1, hM.2.2.2.2.2.1, hM.2.2.2.2.2.2.1, hM.2.2.2.2.2.2.2.1, hM.2.2.2.2.2.2.2.2⟩ hE hWT (k := k) (by omega))) rfl (rest := []) rfl (by decide) (Nat.le_of_ble_eq_true rfl) td_M_power_17 (st1 := []) rfl (fun f1 hF1 => ?_)
    obtain ⟨⟨roW, maW, nsW, tgW, hMW, herW⟩, hqW⟩ := hF1
    have hokW : tz_okr (tz_ou (tz_cur σ) k (-1)).1 (tz_ou (tz_cur σ) k (-1)).2.1 := (tz_rn_ok hWT hk (-1) _ (Nat.le_refl _)).1
    have hleW : (tz_ou (tz_cur σ) k (-1)).1 ≤ 120 := tz_ou_le hWT hk (-1)
    refine tz_lconst C_ (v := 0) (by decide) td_M_power_20 ?_
    refine tz_lstore_n C_ (lv' := [(0, .ref M), (1, .int (nI k)), (2, .long 0)]) [1, 2, 0] rfl (by decide) rfl td_M_power_21 ?_
    refine tz_iconst C_ (v := 0) (by decide) td_M_power_22 ?_
    refine tz_istore C_ (lv' := [(0, .ref M), (1, .int (nI k)), (2, .long 0), (4, .int 0)]) [1, 2, 3, 0] (by decide) rfl td_M_power_23 ?_
    have loop25 : ∀ (kk25 : Nat) (s : Int64) (i : Nat), (i ≤ (tz_ou (tz_cur σ) k (-1)).1) → (s = tz_sq ((tz_ou (tz_cur σ) k (-1)).2.1) i) → ((tz_ou (tz_cur σ) k (-1)).1 - i) < kk25 → tz_V p_ l e_ rm_M_power s_ m_ ar_ be_ me_ c_ Q_ A D 5 f1 sz 0 0 25 [(0, .ref M), (1, .int (nI k)), (2, .long s), (4, .int (nI i))] [] := by
      intro kk25
      induction kk25 with
      | zero => intro s i hi hs hm25; omega
      | succ kk25 ih25 =>
        intro s i hi hs hm25
        refine tz_iload C_ 3 rfl td_M_power_25 ?_
        refine tz_aload_n C_ 0 rfl rfl td_M_power_27 ?_
        refine tz_get C_ tci_M 7 (by decide) tw_760 hMW.1 rfl td_M_power_28 ?_
        refine tz_icmp_ge C_ td_M_power_31 (fun h31 => ?_) (fun h31 => ?_)
        · skip
          replace h31 := (nI_leI (a := (tz_ou (tz_cur σ) k (-1)).1) (b := i) (by omega) (by omega)).mp h31
          refine tz_lload_n C_ 2 rfl rfl td_M_power_76 ?_
          refine tz_rlret C_ hr_ hk_ hQ_ rfl td_M_power_77 ?_
          have e9 : sp_power σ (nI k) = (s, σ) := by have e8 : i = (tz_ou (tz_cur σ) k (-1)).1 := (by omega); rw [e8] at hs; simp only [sp_power, hpk4]; rw [hs]
          rw [e9]
          exact ⟨rfl, ⟨_, _, _, _, _, _, _, _, _, _, _, ⟨hMW.1, hMW.2.1, hMW.2.2.1, hMW.2.2.2.1, hMW.2.2.2.2.1, hMW.2.2.2.2.2.1, hMW.2.2.2.2.2.2.1, hMW.2.2.2.2.2.2.2.1, hMW.2.2.2.2.2.2.2.2⟩, hE, hH, hQ⟩, (fun q hh => by rw [hqW q (by omega)])⟩
        · skip
          replace h31 := mt (nI_leI (a := (tz_ou (tz_cur σ) k (-1)).1) (b := i) (by omega) (by omega)).mpr h31
          refine tz_lload_n C_ 2 rfl rfl td_M_power_34 ?_
          refine tz_aload_n C_ 0 rfl rfl td_M_power_35 ?_
          refine tz_get C_ tci_M 8 (by decide) tw_761 hMW.1 rfl td_M_power_36 ?_
          refine tz_iload C_ 3 rfl td_M_power_39 ?_
          refine tz_ialdN C_ hMW.2.2.2.2.2.2.1 (by omega) (by decide) td_M_power_41 ?_
          refine tz_ldc C_ tw_829 td_M_power_42 ?_
          refine tz_icmp_ne C_ td_M_power_44 (fun h44 => ?_) (fun h44 => ?_)
          · skip
            refine tz_aload_n C_ 0 rfl rfl td_M_power_51 ?_
            refine tz_get C_ tci_M 8 (by decide) tw_761 hMW.1 rfl td_M_power_52 ?_
            refine tz_iload C_ 3 rfl td_M_power_55 ?_
            refine tz_ialdN C_ hMW.2.2.2.2.2.2.1 (by omega) (by decide) td_M_power_57 ?_
            refine tz_i2l C_ td_M_power_58 ?_
            refine tz_aload_n C_ 0 rfl rfl td_M_power_59 ?_
            refine tz_get C_ tci_M 8 (by decide) tw_761 hMW.1 rfl td_M_power_60 ?_
            refine tz_iload C_ 3 rfl td_M_power_63 ?_
            refine tz_ialdN C_ hMW.2.2.2.2.2.2.1 (by omega) (by decide) td_M_power_65 ?_
            refine tz_i2l C_ td_M_power_66 ?_
            refine tz_lmul C_ td_M_power_67 ?_
            refine tz_ladd C_ td_M_power_68 ?_
            refine tz_lstore_n C_ (lv' := [(0, .ref M), (1, .int (nI k)), (2, .long (s + ((Int32.toInt64 (roW i)) * (Int32.toInt64 (roW i))))), (4, .int (nI i))]) [1, 2, 0, 3] rfl (by decide) rfl td_M_power_69 ?_
            refine tz_iinc C_ (k := 1) (v := nI (i + 1)) (lv' := [(0, .ref M), (1, .int (nI k)), (2, .long (s + ((Int32.toInt64 (roW i)) * (Int32.toInt64 (roW i))))), (4, .int (nI (i + 1)))]) 3 rfl (nI_1 i) [1, 2, 3, 0] (by decide) rfl td_M_power_70 ?_
            refine tz_goto C_ td_M_power_73 ?_
            have hlo9 := tz_er_lo herW hokW (show i < (tz_ou (tz_cur σ) k (-1)).1 by omega)
            exact ih25 (s + ((Int32.toInt64 (roW i)) * (Int32.toInt64 (roW i)))) (i + 1) (by omega) (by rw [tz_sq, if_neg (mt hlo9.mpr h44), ← hs, tz_er_v herW (show i < (tz_ou (tz_cur σ) k (-1)).1 by omega) (mt hlo9.mpr h44)]) (by omega)
          · skip
            refine tz_lconst C_ (v := 0) (by decide) td_M_power_47 ?_
            refine tz_goto C_ td_M_power_48 ?_
            refine tz_ladd C_ td_M_power_68 ?_
            refine tz_lstore_n C_ (lv' := [(0, .ref M), (1, .int (nI k)), (2, .long (s + 0)), (4, .int (nI i))]) [1, 2, 0, 3] rfl (by decide) rfl td_M_power_69 ?_
            refine tz_iinc C_ (k := 1) (v := nI (i + 1)) (lv' := [(0, .ref M), (1, .int (nI k)), (2, .long (s + 0)), (4, .int (nI (i + 1)))]) 3 rfl (nI_1 i) [1, 2, 3, 0] (by decide) rfl td_M_power_70 ?_
            refine tz_goto C_ td_M_power_73 ?_
            have hlo9 := tz_er_lo herW hokW (show i < (tz_ou (tz_cur σ) k (-1)).1 by omega)
            exact ih25 (s + 0) (i + 1) (by omega) (by rw [tz_sq, if_pos (hlo9.mp h44), ← hs]; exact Int64.add_zero _) (by omega)
    exact loop25 _ 0 0 (Nat.zero_le _) rfl (Nat.lt_succ_self _)
  · skip
    replace h4 := tz_p0.mp h4
    have hpk4 := tz_pk_out h4
    refine tz_aload_n C_ 0 rfl rfl td_M_power_7 ?_
    refine tz_ldc C_ tw_812 td_M_power_8 ?_
    refine tz_cV C_ tmi_M_finding tw_800 tw_14 tw_798 hM.1 rfl (As := [.int (-100001)]) (by exact (ct_M_finding (v := -100001) hM.1)) rfl (rest := []) rfl (by decide) (Nat.le_of_ble_eq_true rfl) td_M_power_10 (st1 := [.int (-100001)]) rfl (fun f2 hF2 => ?_)
    obtain ⟨hs3, hq3⟩ := hF2
    refine tz_i2l C_ td_M_power_13 ?_
    refine tz_rlret C_ hr_ hk_ hQ_ rfl td_M_power_14 ?_
    have k4 : f2 (M + 1) = some (tz_ints cs 532 nw) := ((hq3 _ (by omega)).trans hM.2.1)
    have k5 : f2 (M + 2) = some (tz_ints cs 10640 pa) := ((hq3 _ (by omega)).trans hM.2.2.1)
    have k6 : f2 (M + 3) = some (tz_ints cs 4 bi) := ((hq3 _ (by omega)).trans hM.2.2.2.1)
    have k7 : f2 (M + 4) = some (tz_ints cs 4 nu) := ((hq3 _ (by omega)).trans hM.2.2.2.2.1)
    have k8 : f2 (M + 5) = some (tz_ints cs 480 sh) := ((hq3 _ (by omega)).trans hM.2.2.2.2.2.1)
    have k9 : f2 (M + 6) = some (tz_ints cs 120 ro) := ((hq3 _ (by omega)).trans hM.2.2.2.2.2.2.1)
    have k10 : f2 (M + 7) = some (tz_ints cs 120 ma) := ((hq3 _ (by omega)).trans hM.2.2.2.2.2.2.2.1)
    have k11 : f2 (M + 8) = some (tz_ints cs 120 ca) := ((hq3 _ (by omega)).trans hM.2.2.2.2.2.2.2.2)
    have e9 : sp_power σ p = (Int32.toInt64 (-100001), tz_fnd σ) := by simp only [sp_power, hpk4]; rw [tz_an_f (by decide)]
    rw [e9]
    exact ⟨rfl, ⟨_, _, _, _, _, _, _, _, _, _, _, ⟨hs3, k4, k5, k6, k7, k8, k9, k10, k11⟩, hE, hH, hQ⟩, (fun q hh => by rw [hq3 q (by omega)])⟩

abbrev rm_M_join : Room := { frames := 2, cells := 0, slots := 0, locals := 42 }
set_option maxHeartbeats 4000000 in
set_option maxRecDepth 100000 in
theorem ct_M_join {l : Launch} {A : Nat → Prop} {D : va_G} {cs : Nat → ClassId} {sz : Nat} {f : tz_PH} {M : Nat} {σ : tz_SG} (hX : tz_AM cs f M σ) (hW : tz_WF σ) {p q x r : Int32} : tz_CN l tyM_join prog_13_method_60_code 6 (some (.int)) rm_M_join 0 0 A D cs sz [.ref M, .int p, .int q, .int x, .int r] f (some (.int (sp_join σ p q x r).1)) (fun f' => tz_AM cs f' M (sp_join σ p q x r).2 ∧ ∀ q, (q < M ∨ M + 9 ≤ q) → f' q = f q) := by
  refine tz_C.ofB (lv0 := [(0, .ref M), (1, .int p), (2, .int q), (3, .int x), (4, .int r)]) (plainFor_of_name (by decide)) (Nat.le_of_ble_eq_true rfl) rfl ?_
  intro p_ e_ s_ m_ ar_ be_ me_ c_ Q_ C_ hr_ hk_ hnm_ hz_ hQ_
  obtain ⟨ms, ns, tg, nw, pa, bi, nu, sh, ro, ma, ca, hM, hE, hH, hQ⟩ := hX
  have hWT := hW.cur
  have hkp : σ.2.1 ≤ 20 := hW.1
  have hl8 := hWT.2.1
  refine tz_iload_n C_ 1 rfl rfl td_M_join_0 ?_
  refine tz_rS C_ tmi_M_isPass tw_807 tw_806 (As := [.int p]) (by exact ct_M_isPass) rfl (rest := []) rfl (by decide) (Nat.le_of_ble_eq_true rfl) td_M_join_1 (st1 := [.int (tz_p (0 ≤ p ∧ p < 4))]) rfl ?_
  refine tz_if_eq C_ td_M_join_4 (fun h4 => ?_) (fun h4 => ?_)
  · skip
    replace h4 := tz_p0.mp h4
    have hpk4 := tz_pk_out h4
    refine tz_aload_n C_ 0 rfl rfl td_M_join_38 ?_
    refine tz_ldc C_ tw_812 td_M_join_39 ?_
    refine tz_cV C_ tmi_M_finding tw_800 tw_14 tw_798 hM.1 rfl (As := [.int (-100001)]) (by exact (ct_M_finding (v := -100001) hM.1)) rfl (rest := []) rfl (by decide) (Nat.le_of_ble_eq_true rfl) td_M_join_41 (st1 := [.int (-100001)]) rfl (fun f1 hF1 => ?_)
    obtain ⟨hs2, hq2⟩ := hF1
    refine tz_riret C_ hr_ hk_ hQ_ rfl td_M_join_44 ?_
    have k3 : f1 (M + 1) = some (tz_ints cs 532 nw) := ((hq2 _ (by omega)).trans hM.2.1)
    have k4 : f1 (M + 2) = some (tz_ints cs 10640 pa) := ((hq2 _ (by omega)).trans hM.2.2.1)
    have k5 : f1 (M + 3) = some (tz_ints cs 4 bi) := ((hq2 _ (by omega)).trans hM.2.2.2.1)
    have k6 : f1 (M + 4) = some (tz_ints cs 4 nu) := ((hq2 _ (by omega)).trans hM.2.2.2.2.1)
    have k7 : f1 (M + 5) = some (tz_ints cs 480 sh) := ((hq2 _ (by omega)).trans hM.2.2.2.2.2.1)
    have k8 : f1 (M + 6) = some (tz_ints cs 120 ro) := ((hq2 _ (by omega)).trans hM.2.2.2.2.2.2.1)
    have k9 : f1 (M + 7) = some (tz_ints cs 120 ma) := ((hq2 _ (by omega)).trans hM.2.2.2.2.2.2.2.1)
    have k10 : f1 (M + 8) = some (tz_ints cs 120 ca) := ((hq2 _ (by omega)).trans hM.2.2.2.2.2.2.2.2)
    have e9 : sp_join σ p q x r = (-100001, tz_fnd σ) := by simp only [sp_join, hpk4]; rw [tz_an_f (by decide)]
    rw [e9]
    exact ⟨rfl, ⟨_, _, _, _, _, _, _, _, _, _, _, ⟨hs2, k3, k4, k5, k6, k7, k8, k9, k10⟩, hE, hH, hQ⟩, (fun q hh => by rw [hq2 q (by omega)])⟩
  · skip
    replace h4 := tz_p1.mp h4
    obtain ⟨a, ha, ea⟩ := tz_pk_in h4
    subst ea
    have hpk4 := tz_pk_N ha
    have hna : tz_ln σ a ≤ 120 := (hWT.1 a ha).1
    have hNa : ((tz_cur σ).1 a).1 ≤ 120 := (hWT.1 a ha).1
    refine tz_iload_n C_ 2 rfl rfl td_M_join_7 ?_
    refine tz_rS C_ tmi_M_isPass tw_807 tw_806 (As := [.int q]) (by exact ct_M_isPass) rfl (rest := []) rfl (by decide) (Nat.le_of_ble_eq_true rfl) td_M_join_8 (st1 := [.int (tz_p (0 ≤ q ∧ q < 4))]) rfl ?_
    refine tz_if_eq C_ td_M_join_11 (fun h11 => ?_) (fun h11 => ?_)
    · skip
      replace h11 := tz_p0.mp h11
      have hpk11 := tz_pk_out h11
      refine tz_aload_n C_ 0 rfl rfl td_M_join_38 ?_
      refine tz_ldc C_ tw_812 td_M_join_39 ?_
      refine tz_cV C_ tmi_M_finding tw_800 tw_14 tw_798 hM.1 rfl (As := [.int (-100001)]) (by exact (ct_M_finding (v := -100001) hM.1)) rfl (rest := []) rfl (by decide) (Nat.le_of_ble_eq_true rfl) td_M_join_41 (st1 := [.int (-100001)]) rfl (fun f11 hF11 => ?_)
      obtain ⟨hs12, hq12⟩ := hF11
      refine tz_riret C_ hr_ hk_ hQ_ rfl td_M_join_44 ?_
      have k13 : f11 (M + 1) = some (tz_ints cs 532 nw) := ((hq12 _ (by omega)).trans hM.2.1)
      have k14 : f11 (M + 2) = some (tz_ints cs 10640 pa) := ((hq12 _ (by omega)).trans hM.2.2.1)
      have k15 : f11 (M + 3) = some (tz_ints cs 4 bi) := ((hq12 _ (by omega)).trans hM.2.2.2.1)
      have k16 : f11 (M + 4) = some (tz_ints cs 4 nu) := ((hq12 _ (by omega)).trans hM.2.2.2.2.1)
      have k17 : f11 (M + 5) = some (tz_ints cs 480 sh) := ((hq12 _ (by omega)).trans hM.2.2.2.2.2.1)
      have k18 : f11 (M + 6) = some (tz_ints cs 120 ro) := ((hq12 _ (by omega)).trans hM.2.2.2.2.2.2.1)
      have k19 : f11 (M + 7) = some (tz_ints cs 120 ma) := ((hq12 _ (by omega)).trans hM.2.2.2.2.2.2.2.1)
      have k20 : f11 (M + 8) = some (tz_ints cs 120 ca) := ((hq12 _ (by omega)).trans hM.2.2.2.2.2.2.2.2)
      have e9 : sp_join σ (nI a) q x r = (-100001, tz_fnd σ) := by simp only [sp_join, hpk4, hpk11]; rw [tz_an_f (by decide)]
      rw [e9]
      exact ⟨rfl, ⟨_, _, _, _, _, _, _, _, _, _, _, ⟨hs12, k13, k14, k15, k16, k17, k18, k19, k20⟩, hE, hH, hQ⟩, (fun q hh => by rw [hq12 q (by omega)])⟩
    · skip
      replace h11 := tz_p1.mp h11
      obtain ⟨b, hb, eb⟩ := tz_pk_in h11
      subst eb
      have hpk11 := tz_pk_N hb
      have hnb : tz_ln σ b ≤ 120 := (hWT.1 b hb).1
      have hNb : ((tz_cur σ).1 b).1 ≤ 120 := (hWT.1 b hb).1
      refine tz_iload C_ 4 rfl td_M_join_14 ?_
      refine tz_rS C_ tmi_M_isPass tw_807 tw_806 (As := [.int r]) (by exact ct_M_isPass) rfl (rest := []) rfl (by decide) (Nat.le_of_ble_eq_true rfl) td_M_join_16 (st1 := [.int (tz_p (0 ≤ r ∧ r < 4))]) rfl ?_
      refine tz_if_eq C_ td_M_join_19 (fun h19 => ?_) (fun h19 => ?_)
      · skip
        replace h19 := tz_p0.mp h19
        have hpk19 := tz_pk_out h19
        refine tz_aload_n C_ 0 rfl rfl td_M_join_38 ?_
        refine tz_ldc C_ tw_812 td_M_join_39 ?_
        refine tz_cV C_ tmi_M_finding tw_800 tw_14 tw_798 hM.1 rfl (As := [.int (-100001)]) (by exact (ct_M_finding (v := -100001) hM.1)) rfl (rest := []) rfl (by decide) (Nat.le_of_ble_eq_true rfl) td_M_join_41 (st1 := [.int (-100001)]) rfl (fun f21 hF21 => ?_)
        obtain ⟨hs22, hq22⟩ := hF21
        refine tz_riret C_ hr_ hk_ hQ_ rfl td_M_join_44 ?_
        have k23 : f21 (M + 1) = some (tz_ints cs 532 nw) := ((hq22 _ (by omega)).trans hM.2.1)
        have k24 : f21 (M + 2) = some (tz_ints cs 10640 pa) := ((hq22 _ (by omega)).trans hM.2.2.1)
        have k25 : f21 (M + 3) = some (tz_ints cs 4 bi) := ((hq22 _ (by omega)).trans hM.2.2.2.1)
        have k26 : f21 (M + 4) = some (tz_ints cs 4 nu) := ((hq22 _ (by omega)).trans hM.2.2.2.2.1)
        have k27 : f21 (M + 5) = some (tz_ints cs 480 sh) := ((hq22 _ (by omega)).trans hM.2.2.2.2.2.1)
        have k28 : f21 (M + 6) = some (tz_ints cs 120 ro) := ((hq22 _ (by omega)).trans hM.2.2.2.2.2.2.1)
        have k29 : f21 (M + 7) = some (tz_ints cs 120 ma) := ((hq22 _ (by omega)).trans hM.2.2.2.2.2.2.2.1)
        have k30 : f21 (M + 8) = some (tz_ints cs 120 ca) := ((hq22 _ (by omega)).trans hM.2.2.2.2.2.2.2.2)
        have e9 : sp_join σ (nI a) (nI b) x r = (-100001, tz_fnd σ) := by simp only [sp_join, hpk4, hpk11, hpk19]; rw [tz_an_f (by decide)]
        rw [e9]
        exact ⟨rfl, ⟨_, _, _, _, _, _, _, _, _, _, _, ⟨hs22, k23, k24, k25, k26, k27, k28, k29, k30⟩, hE, hH, hQ⟩, (fun q hh => by rw [hq22 q (by omega)])⟩
      · skip
        replace h19 := tz_p1.mp h19
        obtain ⟨c, hc, ec⟩ := tz_pk_in h19
        subst ec
        have hpk19 := tz_pk_N hc
        have hnc : tz_ln σ c ≤ 120 := (hWT.1 c hc).1
        have hNc : ((tz_cur σ).1 c).1 ≤ 120 := (hWT.1 c hc).1
        refine tz_iload_n C_ 3 rfl rfl td_M_join_22 ?_
        refine tz_if_lt C_ td_M_join_23 (fun h23 => ?_) (fun h23 => ?_)
        · skip
          refine tz_aload_n C_ 0 rfl rfl td_M_join_38 ?_
          refine tz_ldc C_ tw_812 td_M_join_39 ?_
          refine tz_cV C_ tmi_M_finding tw_800 tw_14 tw_798 hM.1 rfl (As := [.int (-100001)]) (by exact (ct_M_finding (v := -100001) hM.1)) rfl (rest := []) rfl (by decide) (Nat.le_of_ble_eq_true rfl) td_M_join_41 (st1 := [.int (-100001)]) rfl (fun f31 hF31 => ?_)
          obtain ⟨hs32, hq32⟩ := hF31
          refine tz_riret C_ hr_ hk_ hQ_ rfl td_M_join_44 ?_
          have k33 : f31 (M + 1) = some (tz_ints cs 532 nw) := ((hq32 _ (by omega)).trans hM.2.1)
          have k34 : f31 (M + 2) = some (tz_ints cs 10640 pa) := ((hq32 _ (by omega)).trans hM.2.2.1)
          have k35 : f31 (M + 3) = some (tz_ints cs 4 bi) := ((hq32 _ (by omega)).trans hM.2.2.2.1)
          have k36 : f31 (M + 4) = some (tz_ints cs 4 nu) := ((hq32 _ (by omega)).trans hM.2.2.2.2.1)
          have k37 : f31 (M + 5) = some (tz_ints cs 480 sh) := ((hq32 _ (by omega)).trans hM.2.2.2.2.2.1)
          have k38 : f31 (M + 6) = some (tz_ints cs 120 ro) := ((hq32 _ (by omega)).trans hM.2.2.2.2.2.2.1)
          have k39 : f31 (M + 7) = some (tz_ints cs 120 ma) := ((hq32 _ (by omega)).trans hM.2.2.2.2.2.2.2.1)
          have k40 : f31 (M + 8) = some (tz_ints cs 120 ca) := ((hq32 _ (by omega)).trans hM.2.2.2.2.2.2.2.2)
          have e9 : sp_join σ (nI a) (nI b) x (nI c) = (-100001, tz_fnd σ) := by simp only [sp_join, hpk4, hpk11, hpk19]; rw [if_neg (fun z => tz_le_nlt z.1 h23), tz_an_f (by decide)]
          rw [e9]
          exact ⟨rfl, ⟨_, _, _, _, _, _, _, _, _, _, _, ⟨hs32, k33, k34, k35, k36, k37, k38, k39, k40⟩, hE, hH, hQ⟩, (fun q hh => by rw [hq32 q (by omega)])⟩
        · skip
          refine tz_iload_n C_ 3 rfl rfl td_M_join_26 ?_
          refine tz_aload_n C_ 0 rfl rfl td_M_join_27 ?_
          refine tz_get C_ tci_M 0 (by decide) tw_753 hM.1 rfl td_M_join_28 ?_
          refine tz_iconst C_ (v := 0) (by decide) td_M_join_31 ?_
          refine tz_iload_n C_ 1 rfl rfl td_M_join_32 ?_
          refine tz_iadd C_ td_M_join_33 ?_
          rw [show (0 + (nI a) : Int32) = nI a from Int32.zero_add _]
          refine tz_ialdN C_ hM.2.1 (by omega) (by decide) td_M_join_34 ?_
          rw [hE.1 a ha]
          refine tz_icmp_le C_ td_M_join_35 (fun h35 => ?_) (fun h35 => ?_)
          · skip
            obtain ⟨m, hm, em⟩ := tz_toN (m := ((tz_cur σ).1 a).1) h23 h35 (by omega)
            subst em
            have hmx : (max m ((tz_cur σ).1 b).1) ≤ 120 := Nat.max_le.mpr ⟨by omega, by omega⟩
            refine tz_aload_n C_ 0 rfl rfl td_M_join_45 ?_
            refine tz_cV C_ tmi_M_keep tw_815 tw_15 tw_813 hM.1 rfl (As := []) (by exact (ct_M_keep ⟨hM.1, hM.2.1, hM.2.2.1, hM.2.2.2.1, hM.2.2.2.2.1, hM.2.2.2.2.2.1, hM.2.2.2.2.2.2.1, hM.2.2.2.2.2.2.2.1, hM.2.2.2.2.2.2.2.2⟩ hH hE (fun j hj => hW.2.1 j hj) hkp)) rfl (rest := []) rfl (by decide) (Nat.le_of_ble_eq_true rfl) td_M_join_46 (st1 := []) rfl (fun f41 hF41 => ?_)
            obtain ⟨⟨paK, hMK, hHK⟩, hqK⟩ := hF41
            refine tz_aload_n C_ 0 rfl rfl td_M_join_49 ?_
            refine tz_iload_n C_ 3 rfl rfl td_M_join_50 ?_
            refine tz_aload_n C_ 0 rfl rfl td_M_join_51 ?_
            refine tz_get C_ tci_M 0 (by decide) tw_753 hMK.1 rfl td_M_join_52 ?_
            refine tz_iconst C_ (v := 0) (by decide) td_M_join_55 ?_
            refine tz_iload_n C_ 2 rfl rfl td_M_join_56 ?_
            refine tz_iadd C_ td_M_join_57 ?_
            rw [show (0 + (nI b) : Int32) = nI b from Int32.zero_add _]
            refine tz_ialdN C_ hMK.2.1 (by omega) (by decide) td_M_join_58 ?_
            rw [hE.1 b hb]
            refine tz_rS C_ tmi_J_max tw_318 tw_1011 (As := [.int (nI m), .int (nI ((tz_cur σ).1 b).1)]) (by exact ct_J_max) rfl (rest := [.ref M]) rfl (by decide) (Nat.le_of_ble_eq_true rfl) td_M_join_59 (st1 := [.int (tz_mx (nI m) (nI ((tz_cur σ).1 b).1)), .ref M]) rfl ?_
            rw [tz_mxN (a := m) (b := ((tz_cur σ).1 b).1) (by omega) (by omega)]
            refine tz_wput C_ tci_M 7 (by decide) tw_760 rfl hMK.1 (Nat.le_of_ble_eq_true rfl) ⟨rfl, rfl⟩ (fs' := [.ref (M + 1), .ref (M + 2), .int (nI (min (σ.2.1 + 1) 20)), .int σ.2.2.2, .ref (M + 3), .ref (M + 4), .ref (M + 5), .int (nI (max m ((tz_cur σ).1 b).1)), .ref (M + 6), .int ns, .ref (M + 7), .ref (M + 8), .int tg]) rfl td_M_join_62 (fun f42 hs42 hq42 => ?_)
            refine tz_iconst C_ (v := 0) (by decide) td_M_join_65 ?_
            refine tz_istore C_ (lv' := [(0, .ref M), (1, .int (nI a)), (2, .int (nI b)), (3, .int (nI m)), (4, .int (nI c)), (5, .int 0)]) [1, 2, 3, 4, 5, 0] (by decide) rfl td_M_join_66 ?_
            have k43 : f42 (M + 1) = some (tz_ints cs 532 nw) := ((hq42 _ (by omega)).trans hMK.2.1)
            have k44 : f42 (M + 2) = some (tz_ints cs 10640 paK) := ((hq42 _ (by omega)).trans hMK.2.2.1)
            have k45 : f42 (M + 3) = some (tz_ints cs 4 bi) := ((hq42 _ (by omega)).trans hMK.2.2.2.1)
            have k46 : f42 (M + 4) = some (tz_ints cs 4 nu) := ((hq42 _ (by omega)).trans hMK.2.2.2.2.1)
            have k47 : f42 (M + 5) = some (tz_ints cs 480 sh) := ((hq42 _ (by omega)).trans hMK.2.2.2.2.2.1)
            have k48 : f42 (M + 6) = some (tz_ints cs 120 ro) := ((hq42 _ (by omega)).trans hMK.2.2.2.2.2.2.1)
            have k49 : f42 (M + 7) = some (tz_ints cs 120 ma) := ((hq42 _ (by omega)).trans hMK.2.2.2.2.2.2.2.1)
            have k50 : f42 (M + 8) = some (tz_ints cs 120 ca) := ((hq42 _ (by omega)).trans hMK.2.2.2.2.2.2.2.2)
            have loop68 : ∀ (kk68 : Nat) (i : Nat) (fL : tz_PH), (tz_MB cs fL M (min (σ.2.1 + 1) 20) σ.2.2.2 (nI (max m ((tz_cur σ).1 b).1)) ns tg nw paK bi nu sh ((tz_fl (fun q => tz_mo ((tz_jn m (tz_sg σ a) (tz_sg σ b)) q)) ro i)) ma ca) → (∀ q, (q < M ∨ M + 9 ≤ q) → fL q = f q) → (i ≤ (max m ((tz_cur σ).1 b).1)) → ((max m ((tz_cur σ).1 b).1) - i) < kk68 → tz_V p_ l e_ rm_M_join s_ m_ ar_ be_ me_ c_ Q_ A D 6 fL sz 0 0 68 [(0, .ref M), (1, .int (nI a)), (2, .int (nI b)), (3, .int (nI m)), (4, .int (nI c)), (5, .int (nI i))] [] := by
              intro kk68
              induction kk68 with
              | zero => intro i fL hM1 hfr hi hm68; omega
              | succ kk68 ih68 =>
                intro i fL hM1 hfr hi hm68
                refine tz_iload C_ 5 rfl td_M_join_68 ?_
                refine tz_aload_n C_ 0 rfl rfl td_M_join_70 ?_
                refine tz_get C_ tci_M 7 (by decide) tw_760 hM1.1 rfl td_M_join_71 ?_
                refine tz_icmp_ge C_ td_M_join_74 (fun h74 => ?_) (fun h74 => ?_)
                · skip
                  replace h74 := (nI_leI (a := max m ((tz_cur σ).1 b).1) (b := i) (by omega) (by omega)).mp h74
                  have herJ : tz_er (tz_fl (fun q => tz_mo ((tz_jn m (tz_sg σ a) (tz_sg σ b)) q)) ro i) (max m ((tz_cur σ).1 b).1) (tz_jn m (tz_sg σ a) (tz_sg σ b)) := fun q hq => tz_fl_in (by omega)
                  refine tz_aload_n C_ 0 rfl rfl td_M_join_107 ?_
                  refine tz_iload C_ 4 rfl td_M_join_108 ?_
                  refine tz_cV C_ tmi_M_laysDown tw_898 tw_24 tw_896 hM1.1 rfl (As := [.int (nI c)]) (by exact (ct_M_laysDown ⟨hM1.1, hM1.2.1, hM1.2.2.1, hM1.2.2.2.1, hM1.2.2.2.2.1, hM1.2.2.2.2.2.1, hM1.2.2.2.2.2.2.1, hM1.2.2.2.2.2.2.2.1, hM1.2.2.2.2.2.2.2.2⟩ (k := c) (by omega) hmx)) rfl (rest := []) rfl (by decide) (Nat.le_of_ble_eq_true rfl) td_M_join_110 (st1 := []) rfl (fun f51 hF51 => ?_)
                  obtain ⟨hMD52, hq52⟩ := hF51
                  refine tz_aload_n C_ 0 rfl rfl td_M_join_113 ?_
                  refine tz_get C_ tci_M 7 (by decide) tw_760 hMD52.1 rfl td_M_join_114 ?_
                  refine tz_riret C_ hr_ hk_ hQ_ rfl td_M_join_117 ?_
                  have e9 : sp_join σ (nI a) (nI b) (nI m) (nI c) = (nI (max m ((tz_cur σ).1 b).1), tz_act σ (tz_sr (tz_cur σ) c ((max m ((tz_cur σ).1 b).1), (tz_jn m (tz_sg σ a) (tz_sg σ b))))) := by simp only [sp_join, hpk4, hpk11, hpk19]; rw [if_pos ⟨nI_pos' (by omega), h35⟩, nI_clamp (by omega)]
                  rw [e9]
                  exact ⟨rfl, tz_AM_act hW ⟨hMD52.1, hMD52.2.1, hMD52.2.2.1, hMD52.2.2.2.1, hMD52.2.2.2.2.1, hMD52.2.2.2.2.2.1, hMD52.2.2.2.2.2.2.1, hMD52.2.2.2.2.2.2.2.1, hMD52.2.2.2.2.2.2.2.2⟩ (tz_en_row hE hWT hc herJ hmx) hHK hQ, (fun q hh => by rw [hq52 q (by omega), hfr q (by omega)])⟩
                · skip
                  replace h74 := mt (nI_leI (a := max m ((tz_cur σ).1 b).1) (b := i) (by omega) (by omega)).mpr h74
                  refine tz_aload_n C_ 0 rfl rfl td_M_join_77 ?_
                  refine tz_get C_ tci_M 8 (by decide) tw_761 hM1.1 rfl td_M_join_78 ?_
                  refine tz_iload C_ 5 rfl td_M_join_81 ?_
                  refine tz_aload_n C_ 0 rfl rfl td_M_join_83 ?_
                  refine tz_iload C_ 5 rfl td_M_join_84 ?_
                  refine tz_iload_n C_ 3 rfl rfl td_M_join_86 ?_
                  refine tz_icmp_ge C_ td_M_join_87 (fun h87 => ?_) (fun h87 => ?_)
                  · skip
                    replace h87 := (nI_leI (a := m) (b := i) (by omega) (by omega)).mp h87
                    refine tz_iload_n C_ 2 rfl rfl td_M_join_94 ?_
                    refine tz_iload C_ 5 rfl td_M_join_95 ?_
                    refine tz_rV C_ tmi_M_at tw_827 tw_17 tw_825 hM1.1 rfl (As := [.int (nI b), .int (nI i)]) (by exact (ct_M_at ⟨hM1.1, hM1.2.1, hM1.2.2.1, hM1.2.2.2.1, hM1.2.2.2.2.1, hM1.2.2.2.2.2.1, hM1.2.2.2.2.2.2.1, hM1.2.2.2.2.2.2.2.1, hM1.2.2.2.2.2.2.2.2⟩ hE hWT (k := b) (j := i) (by omega) (by omega))) rfl (rest := [.int (nI i), .ref (M + 6)]) rfl (by decide) (Nat.le_of_ble_eq_true rfl) td_M_join_97 (st1 := [.int (tz_mo (((tz_cur σ).1 b).2 i)), .int (nI i), .ref (M + 6)]) rfl ?_
                    refine tz_wiastN C_ hM1.2.2.2.2.2.2.1 (by omega) (by decide) (g' := upd ((tz_fl (fun q => tz_mo ((tz_jn m (tz_sg σ a) (tz_sg σ b)) q)) ro i)) i (tz_mo (((tz_cur σ).1 b).2 i))) rfl td_M_join_100 (fun f53 hs53 hq53 => ?_)
                    refine tz_iinc C_ (k := 1) (v := nI (i + 1)) (lv' := [(0, .ref M), (1, .int (nI a)), (2, .int (nI b)), (3, .int (nI m)), (4, .int (nI c)), (5, .int (nI (i + 1)))]) 5 rfl (nI_1 i) [1, 2, 3, 4, 5, 0] (by decide) rfl td_M_join_101 ?_
                    refine tz_goto C_ td_M_join_104 ?_
                    have k54 : f53 M = some (tz_obj 11 [.ref (M + 1), .ref (M + 2), .int (nI (min (σ.2.1 + 1) 20)), .int σ.2.2.2, .ref (M + 3), .ref (M + 4), .ref (M + 5), .int (nI (max m ((tz_cur σ).1 b).1)), .ref (M + 6), .int ns, .ref (M + 7), .ref (M + 8), .int tg]) := ((hq53 _ (by omega)).trans hM1.1)
                    have k55 : f53 (M + 1) = some (tz_ints cs 532 nw) := ((hq53 _ (by omega)).trans hM1.2.1)
                    have k56 : f53 (M + 2) = some (tz_ints cs 10640 paK) := ((hq53 _ (by omega)).trans hM1.2.2.1)
                    have k57 : f53 (M + 3) = some (tz_ints cs 4 bi) := ((hq53 _ (by omega)).trans hM1.2.2.2.1)
                    have k58 : f53 (M + 4) = some (tz_ints cs 4 nu) := ((hq53 _ (by omega)).trans hM1.2.2.2.2.1)
                    have k59 : f53 (M + 5) = some (tz_ints cs 480 sh) := ((hq53 _ (by omega)).trans hM1.2.2.2.2.2.1)
                    have k60 : f53 (M + 7) = some (tz_ints cs 120 ma) := ((hq53 _ (by omega)).trans hM1.2.2.2.2.2.2.2.1)
                    have k61 : f53 (M + 8) = some (tz_ints cs 120 ca) := ((hq53 _ (by omega)).trans hM1.2.2.2.2.2.2.2.2)
                    exact ih68 (i + 1) f53 (⟨k54, k55, k56, k57, k58, k59, tz_flN hs53 (by show _ = tz_mo (tz_jn m (tz_sg σ a) (tz_sg σ b) i); unfold tz_jn; rw [if_neg (by omega)]), k60, k61⟩) (fun q hh => by rw [hq53 q (by omega), hfr q (by omega)]) (by omega) (by omega)
                  · skip
                    replace h87 := mt (nI_leI (a := m) (b := i) (by omega) (by omega)).mpr h87
                    refine tz_iload_n C_ 1 rfl rfl td_M_join_90 ?_
                    refine tz_goto C_ td_M_join_91 ?_
                    refine tz_iload C_ 5 rfl td_M_join_95 ?_
                    refine tz_rV C_ tmi_M_at tw_827 tw_17 tw_825 hM1.1 rfl (As := [.int (nI a), .int (nI i)]) (by exact (ct_M_at ⟨hM1.1, hM1.2.1, hM1.2.2.1, hM1.2.2.2.1, hM1.2.2.2.2.1, hM1.2.2.2.2.2.1, hM1.2.2.2.2.2.2.1, hM1.2.2.2.2.2.2.2.1, hM1.2.2.2.2.2.2.2.2⟩ hE hWT (k := a) (j := i) (by omega) (by omega))) rfl (rest := [.int (nI i), .ref (M + 6)]) rfl (by decide) (Nat.le_of_ble_eq_true rfl) td_M_join_97 (st1 := [.int (tz_mo (((tz_cur σ).1 a).2 i)), .int (nI i), .ref (M + 6)]) rfl ?_
                    refine tz_wiastN C_ hM1.2.2.2.2.2.2.1 (by omega) (by decide) (g' := upd ((tz_fl (fun q => tz_mo ((tz_jn m (tz_sg σ a) (tz_sg σ b)) q)) ro i)) i (tz_mo (((tz_cur σ).1 a).2 i))) rfl td_M_join_100 (fun f62 hs62 hq62 => ?_)
                    refine tz_iinc C_ (k := 1) (v := nI (i + 1)) (lv' := [(0, .ref M), (1, .int (nI a)), (2, .int (nI b)), (3, .int (nI m)), (4, .int (nI c)), (5, .int (nI (i + 1)))]) 5 rfl (nI_1 i) [1, 2, 3, 4, 5, 0] (by decide) rfl td_M_join_101 ?_
                    refine tz_goto C_ td_M_join_104 ?_
                    have k63 : f62 M = some (tz_obj 11 [.ref (M + 1), .ref (M + 2), .int (nI (min (σ.2.1 + 1) 20)), .int σ.2.2.2, .ref (M + 3), .ref (M + 4), .ref (M + 5), .int (nI (max m ((tz_cur σ).1 b).1)), .ref (M + 6), .int ns, .ref (M + 7), .ref (M + 8), .int tg]) := ((hq62 _ (by omega)).trans hM1.1)
                    have k64 : f62 (M + 1) = some (tz_ints cs 532 nw) := ((hq62 _ (by omega)).trans hM1.2.1)
                    have k65 : f62 (M + 2) = some (tz_ints cs 10640 paK) := ((hq62 _ (by omega)).trans hM1.2.2.1)
                    have k66 : f62 (M + 3) = some (tz_ints cs 4 bi) := ((hq62 _ (by omega)).trans hM1.2.2.2.1)
                    have k67 : f62 (M + 4) = some (tz_ints cs 4 nu) := ((hq62 _ (by omega)).trans hM1.2.2.2.2.1)
                    have k68 : f62 (M + 5) = some (tz_ints cs 480 sh) := ((hq62 _ (by omega)).trans hM1.2.2.2.2.2.1)
                    have k69 : f62 (M + 7) = some (tz_ints cs 120 ma) := ((hq62 _ (by omega)).trans hM1.2.2.2.2.2.2.2.1)
                    have k70 : f62 (M + 8) = some (tz_ints cs 120 ca) := ((hq62 _ (by omega)).trans hM1.2.2.2.2.2.2.2.2)
                    exact ih68 (i + 1) f62 (⟨k63, k64, k65, k66, k67, k68, tz_flN hs62 (by show _ = tz_mo (tz_jn m (tz_sg σ a) (tz_sg σ b) i); unfold tz_jn; rw [if_pos (by omega)]), k69, k70⟩) (fun q hh => by rw [hq62 q (by omega), hfr q (by omega)]) (by omega) (by omega)
            exact loop68 _ 0 f42 (⟨hs42, k43, k44, k45, k46, k47, by rw [tz_fl_0]; exact k48, k49, k50⟩) (fun q hh => by rw [hq42 q (by omega), hqK q (by omega)]) (Nat.zero_le _) (Nat.lt_succ_self _)
          · skip
            refine tz_aload_n C_ 0 rfl rfl td_M_join_38 ?_
            refine tz_ldc C_ tw_812 td_M_join_39 ?_
            refine tz_cV C_ tmi_M_finding tw_800 tw_14 tw_798 hM.1 rfl (As := [.int (-100001)]) (by exact (ct_M_finding (v := -100001) hM.1)) rfl (rest := []) rfl (by decide) (Nat.le_of_ble_eq_true rfl) td_M_join_41 (st1 := [.int (-100001)]) rfl (fun f71 hF71 => ?_)
            obtain ⟨hs72, hq72⟩ := hF71
            refine tz_riret C_ hr_ hk_ hQ_ rfl td_M_join_44 ?_
            have k73 : f71 (M + 1) = some (tz_ints cs 532 nw) := ((hq72 _ (by omega)).trans hM.2.1)
            have k74 : f71 (M + 2) = some (tz_ints cs 10640 pa) := ((hq72 _ (by omega)).trans hM.2.2.1)
            have k75 : f71 (M + 3) = some (tz_ints cs 4 bi) := ((hq72 _ (by omega)).trans hM.2.2.2.1)
            have k76 : f71 (M + 4) = some (tz_ints cs 4 nu) := ((hq72 _ (by omega)).trans hM.2.2.2.2.1)
            have k77 : f71 (M + 5) = some (tz_ints cs 480 sh) := ((hq72 _ (by omega)).trans hM.2.2.2.2.2.1)
            have k78 : f71 (M + 6) = some (tz_ints cs 120 ro) := ((hq72 _ (by omega)).trans hM.2.2.2.2.2.2.1)
            have k79 : f71 (M + 7) = some (tz_ints cs 120 ma) := ((hq72 _ (by omega)).trans hM.2.2.2.2.2.2.2.1)
            have k80 : f71 (M + 8) = some (tz_ints cs 120 ca) := ((hq72 _ (by omega)).trans hM.2.2.2.2.2.2.2.2)
            have e9 : sp_join σ (nI a) (nI b) x (nI c) = (-100001, tz_fnd σ) := by simp only [sp_join, hpk4, hpk11, hpk19]; rw [if_neg (fun z => h35 z.2), tz_an_f (by decide)]
            rw [e9]
            exact ⟨rfl, ⟨_, _, _, _, _, _, _, _, _, _, _, ⟨hs72, k73, k74, k75, k76, k77, k78, k79, k80⟩, hE, hH, hQ⟩, (fun q hh => by rw [hq72 q (by omega)])⟩

abbrev rm_M_mark : Room := { frames := 3, cells := 0, slots := 0, locals := 64 }
set_option maxHeartbeats 4000000 in
set_option maxRecDepth 100000 in
theorem ct_M_mark {l : Launch} {A : Nat → Prop} {D : va_G} {cs : Nat → ClassId} {sz : Nat} {f : tz_PH} {M : Nat} {σ : tz_SG} (hX : tz_AM cs f M σ) (hW : tz_WF σ) {m p i : Int32} : tz_CN l tyM_mark prog_13_method_61_code 4 (some (.int)) rm_M_mark 0 0 A D cs sz [.ref M, .int m, .int p, .int i] f (some (.int (sp_mark σ m p i).1)) (fun f' => tz_AM cs f' M (sp_mark σ m p i).2 ∧ ∀ q, (q < M ∨ M + 9 ≤ q) → f' q = f q) := by
  refine tz_C.ofB (lv0 := [(0, .ref M), (1, .int m), (2, .int p), (3, .int i)]) (plainFor_of_name (by decide)) (Nat.le_of_ble_eq_true rfl) rfl ?_
  intro p_ e_ s_ m_ ar_ be_ me_ c_ Q_ C_ hr_ hk_ hnm_ hz_ hQ_
  obtain ⟨ms, ns, tg, nw, pa, bi, nu, sh, ro, ma, ca, hM, hE, hH, hQ⟩ := hX
  have hWT := hW.cur
  have hkp : σ.2.1 ≤ 20 := hW.1
  have hl8 := hWT.2.1
  refine tz_iload_n C_ 1 rfl rfl td_M_mark_0 ?_
  refine tz_iconst C_ (v := 0) (by decide) td_M_mark_1 ?_
  refine tz_iconst C_ (v := 5) (by decide) td_M_mark_2 ?_
  refine tz_rS C_ tmi_M_in tw_810 tw_809 (As := [.int m, .int 0, .int 5]) (by exact ct_M_in) rfl (rest := []) rfl (by decide) (Nat.le_of_ble_eq_true rfl) td_M_mark_3 (st1 := [.int (tz_p (0 ≤ m ∧ m ≤ 5))]) rfl ?_
  refine tz_if_eq C_ td_M_mark_6 (fun h6 => ?_) (fun h6 => ?_)
  · skip
    replace h6 := tz_p0.mp h6
    refine tz_aload_n C_ 0 rfl rfl td_M_mark_30 ?_
    refine tz_ldc C_ tw_812 td_M_mark_31 ?_
    refine tz_cV C_ tmi_M_finding tw_800 tw_14 tw_798 hM.1 rfl (As := [.int (-100001)]) (by exact (ct_M_finding (v := -100001) hM.1)) rfl (rest := []) rfl (by decide) (Nat.le_of_ble_eq_true rfl) td_M_mark_33 (st1 := [.int (-100001)]) rfl (fun f1 hF1 => ?_)
    obtain ⟨hs2, hq2⟩ := hF1
    refine tz_riret C_ hr_ hk_ hQ_ rfl td_M_mark_36 ?_
    have k3 : f1 (M + 1) = some (tz_ints cs 532 nw) := ((hq2 _ (by omega)).trans hM.2.1)
    have k4 : f1 (M + 2) = some (tz_ints cs 10640 pa) := ((hq2 _ (by omega)).trans hM.2.2.1)
    have k5 : f1 (M + 3) = some (tz_ints cs 4 bi) := ((hq2 _ (by omega)).trans hM.2.2.2.1)
    have k6 : f1 (M + 4) = some (tz_ints cs 4 nu) := ((hq2 _ (by omega)).trans hM.2.2.2.2.1)
    have k7 : f1 (M + 5) = some (tz_ints cs 480 sh) := ((hq2 _ (by omega)).trans hM.2.2.2.2.2.1)
    have k8 : f1 (M + 6) = some (tz_ints cs 120 ro) := ((hq2 _ (by omega)).trans hM.2.2.2.2.2.2.1)
    have k9 : f1 (M + 7) = some (tz_ints cs 120 ma) := ((hq2 _ (by omega)).trans hM.2.2.2.2.2.2.2.1)
    have k10 : f1 (M + 8) = some (tz_ints cs 120 ca) := ((hq2 _ (by omega)).trans hM.2.2.2.2.2.2.2.2)
    have e9 : sp_mark σ m p i = (-100001, tz_fnd σ) := by rw [sp_mark, if_neg (fun z => h6 ⟨z.1, tz_le5.mpr z.2⟩), tz_an_f (by decide)]
    rw [e9]
    exact ⟨rfl, ⟨_, _, _, _, _, _, _, _, _, _, _, ⟨hs2, k3, k4, k5, k6, k7, k8, k9, k10⟩, hE, hH, hQ⟩, (fun q hh => by rw [hq2 q (by omega)])⟩
  · skip
    replace h6 := tz_p1.mp h6
    have h6b : 0 ≤ m ∧ m < 6 := ⟨h6.1, tz_le5.mp h6.2⟩
    obtain ⟨mm, hmm, emm⟩ := vp_in_of (x := m) (n := 6) (tz_inI (tz_le_nlt h6b.1) (show m < nI 6 from h6b.2) (by decide)) (by decide)
    subst emm
    refine tz_iload_n C_ 2 rfl rfl td_M_mark_9 ?_
    refine tz_rS C_ tmi_M_isPass tw_807 tw_806 (As := [.int p]) (by exact ct_M_isPass) rfl (rest := []) rfl (by decide) (Nat.le_of_ble_eq_true rfl) td_M_mark_10 (st1 := [.int (tz_p (0 ≤ p ∧ p < 4))]) rfl ?_
    refine tz_if_eq C_ td_M_mark_13 (fun h13 => ?_) (fun h13 => ?_)
    · skip
      replace h13 := tz_p0.mp h13
      have hpk13 := tz_pk_out h13
      refine tz_aload_n C_ 0 rfl rfl td_M_mark_30 ?_
      refine tz_ldc C_ tw_812 td_M_mark_31 ?_
      refine tz_cV C_ tmi_M_finding tw_800 tw_14 tw_798 hM.1 rfl (As := [.int (-100001)]) (by exact (ct_M_finding (v := -100001) hM.1)) rfl (rest := []) rfl (by decide) (Nat.le_of_ble_eq_true rfl) td_M_mark_33 (st1 := [.int (-100001)]) rfl (fun f11 hF11 => ?_)
      obtain ⟨hs12, hq12⟩ := hF11
      refine tz_riret C_ hr_ hk_ hQ_ rfl td_M_mark_36 ?_
      have k13 : f11 (M + 1) = some (tz_ints cs 532 nw) := ((hq12 _ (by omega)).trans hM.2.1)
      have k14 : f11 (M + 2) = some (tz_ints cs 10640 pa) := ((hq12 _ (by omega)).trans hM.2.2.1)
      have k15 : f11 (M + 3) = some (tz_ints cs 4 bi) := ((hq12 _ (by omega)).trans hM.2.2.2.1)
      have k16 : f11 (M + 4) = some (tz_ints cs 4 nu) := ((hq12 _ (by omega)).trans hM.2.2.2.2.1)
      have k17 : f11 (M + 5) = some (tz_ints cs 480 sh) := ((hq12 _ (by omega)).trans hM.2.2.2.2.2.1)
      have k18 : f11 (M + 6) = some (tz_ints cs 120 ro) := ((hq12 _ (by omega)).trans hM.2.2.2.2.2.2.1)
      have k19 : f11 (M + 7) = some (tz_ints cs 120 ma) := ((hq12 _ (by omega)).trans hM.2.2.2.2.2.2.2.1)
      have k20 : f11 (M + 8) = some (tz_ints cs 120 ca) := ((hq12 _ (by omega)).trans hM.2.2.2.2.2.2.2.2)
      have e9 : sp_mark σ (nI mm) p i = (-100001, tz_fnd σ) := by rw [sp_mark, if_pos h6b, hpk13]; simp only []; rw [tz_an_f (by decide)]
      rw [e9]
      exact ⟨rfl, ⟨_, _, _, _, _, _, _, _, _, _, _, ⟨hs12, k13, k14, k15, k16, k17, k18, k19, k20⟩, hE, hH, hQ⟩, (fun q hh => by rw [hq12 q (by omega)])⟩
    · skip
      replace h13 := tz_p1.mp h13
      obtain ⟨k, hk, ek⟩ := tz_pk_in h13
      subst ek
      have hpk13 := tz_pk_N hk
      have hnk : tz_ln σ k ≤ 120 := (hWT.1 k hk).1
      have hNk : ((tz_cur σ).1 k).1 ≤ 120 := (hWT.1 k hk).1
      refine tz_iload_n C_ 3 rfl rfl td_M_mark_16 ?_
      refine tz_iconst C_ (v := -1) (by decide) td_M_mark_17 ?_
      refine tz_icmp_eq C_ td_M_mark_18 (fun h18 => ?_) (fun h18 => ?_)
      · skip
        refine tz_aload_n C_ 0 rfl rfl td_M_mark_37 ?_
        refine tz_cV C_ tmi_M_keep tw_815 tw_15 tw_813 hM.1 rfl (As := []) (by exact (ct_M_keep ⟨hM.1, hM.2.1, hM.2.2.1, hM.2.2.2.1, hM.2.2.2.2.1, hM.2.2.2.2.2.1, hM.2.2.2.2.2.2.1, hM.2.2.2.2.2.2.2.1, hM.2.2.2.2.2.2.2.2⟩ hH hE (fun j hj => hW.2.1 j hj) hkp)) rfl (rest := []) rfl (by decide) (Nat.le_of_ble_eq_true rfl) td_M_mark_38 (st1 := []) rfl (fun f21 hF21 => ?_)
        obtain ⟨⟨paK, hMK, hHK⟩, hqK⟩ := hF21
        refine tz_aload_n C_ 0 rfl rfl td_M_mark_41 ?_
        refine tz_get C_ tci_M 0 (by decide) tw_753 hMK.1 rfl td_M_mark_42 ?_
        refine tz_sipush C_ (v := 520) (by decide) td_M_mark_45 ?_
        refine tz_iload_n C_ 1 rfl rfl td_M_mark_48 ?_
        refine tz_iadd C_ td_M_mark_49 ?_
        rw [show (520 + (nI mm) : Int32) = nI (520 + mm) from nI_add (520) (mm)]
        refine tz_iload_n C_ 2 rfl rfl td_M_mark_50 ?_
        refine tz_wiastN C_ hMK.2.1 (by omega) (by decide) (g' := upd nw ((520 + mm)) (nI k)) rfl td_M_mark_51 (fun f22 hs22 hq22 => ?_)
        refine tz_aload_n C_ 0 rfl rfl td_M_mark_52 ?_
        have k23 : f22 M = some (tz_obj 11 [.ref (M + 1), .ref (M + 2), .int (nI (min (σ.2.1 + 1) 20)), .int σ.2.2.2, .ref (M + 3), .ref (M + 4), .ref (M + 5), .int ms, .ref (M + 6), .int ns, .ref (M + 7), .ref (M + 8), .int tg]) := ((hq22 _ (by omega)).trans hMK.1)
        refine tz_get C_ tci_M 0 (by decide) tw_753 k23 rfl td_M_mark_53 ?_
        refine tz_sipush C_ (v := 526) (by decide) td_M_mark_56 ?_
        refine tz_iload_n C_ 1 rfl rfl td_M_mark_59 ?_
        refine tz_iadd C_ td_M_mark_60 ?_
        rw [show (526 + (nI mm) : Int32) = nI (526 + mm) from nI_add (526) (mm)]
        refine tz_iload_n C_ 3 rfl rfl td_M_mark_61 ?_
        refine tz_wiastN C_ hs22 (by omega) (by decide) (g' := upd (upd nw ((520 + mm)) (nI k)) ((526 + mm)) i) rfl td_M_mark_62 (fun f24 hs24 hq24 => ?_)
        refine tz_iconst C_ (v := 1) (by decide) td_M_mark_63 ?_
        refine tz_riret C_ hr_ hk_ hQ_ rfl td_M_mark_64 ?_
        have k25 : f24 M = some (tz_obj 11 [.ref (M + 1), .ref (M + 2), .int (nI (min (σ.2.1 + 1) 20)), .int σ.2.2.2, .ref (M + 3), .ref (M + 4), .ref (M + 5), .int ms, .ref (M + 6), .int ns, .ref (M + 7), .ref (M + 8), .int tg]) := ((hq24 _ (by omega)).trans k23)
        have k26 : f24 (M + 2) = some (tz_ints cs 10640 paK) := ((hq24 _ (by omega)).trans ((hq22 _ (by omega)).trans hMK.2.2.1))
        have k27 : f24 (M + 3) = some (tz_ints cs 4 bi) := ((hq24 _ (by omega)).trans ((hq22 _ (by omega)).trans hMK.2.2.2.1))
        have k28 : f24 (M + 4) = some (tz_ints cs 4 nu) := ((hq24 _ (by omega)).trans ((hq22 _ (by omega)).trans hMK.2.2.2.2.1))
        have k29 : f24 (M + 5) = some (tz_ints cs 480 sh) := ((hq24 _ (by omega)).trans ((hq22 _ (by omega)).trans hMK.2.2.2.2.2.1))
        have k30 : f24 (M + 6) = some (tz_ints cs 120 ro) := ((hq24 _ (by omega)).trans ((hq22 _ (by omega)).trans hMK.2.2.2.2.2.2.1))
        have k31 : f24 (M + 7) = some (tz_ints cs 120 ma) := ((hq24 _ (by omega)).trans ((hq22 _ (by omega)).trans hMK.2.2.2.2.2.2.2.1))
        have k32 : f24 (M + 8) = some (tz_ints cs 120 ca) := ((hq24 _ (by omega)).trans ((hq22 _ (by omega)).trans hMK.2.2.2.2.2.2.2.2))
        have e9 : sp_mark σ (nI mm) (nI k) i = (1, tz_act σ (tz_smk (tz_cur σ) (upd (tz_cur σ).2.2.2.1 mm (nI k)) (upd (tz_cur σ).2.2.2.2 mm i))) := by rw [sp_mark, if_pos h6b, hpk13]; simp only []; rw [if_pos (Or.inl h18), nI_clamp (by omega)]
        rw [e9]
        exact ⟨rfl, tz_AM_act hW ⟨k25, hs24, k26, k27, k28, k29, k30, k31, k32⟩ (tz_en_mark hE hWT hmm) hHK hQ, (fun q hh => by rw [hq24 q (by omega), hq22 q (by omega), hqK q (by omega)])⟩
      · skip
        refine tz_aload_n C_ 0 rfl rfl td_M_mark_21 ?_
        refine tz_iload_n C_ 2 rfl rfl td_M_mark_22 ?_
        refine tz_iload_n C_ 3 rfl rfl td_M_mark_23 ?_
        refine tz_rV C_ tmi_M_isSample tw_823 tw_16 tw_821 hM.1 rfl (As := [.int (nI k), .int i]) (by exact (ct_M_isSample ⟨hM.1, hM.2.1, hM.2.2.1, hM.2.2.2.1, hM.2.2.2.2.1, hM.2.2.2.2.2.1, hM.2.2.2.2.2.2.1, hM.2.2.2.2.2.2.2.1, hM.2.2.2.2.2.2.2.2⟩ hE hWT)) rfl (rest := []) rfl (by decide) (Nat.le_of_ble_eq_true rfl) td_M_mark_24 (st1 := [.int (tz_p (tz_has (tz_cur σ) (nI k) i))]) rfl ?_
        refine tz_if_ne C_ td_M_mark_27 (fun h27 => ?_) (fun h27 => ?_)
        · skip
          replace h27 := tz_p1.mp h27
          refine tz_aload_n C_ 0 rfl rfl td_M_mark_37 ?_
          refine tz_cV C_ tmi_M_keep tw_815 tw_15 tw_813 hM.1 rfl (As := []) (by exact (ct_M_keep ⟨hM.1, hM.2.1, hM.2.2.1, hM.2.2.2.1, hM.2.2.2.2.1, hM.2.2.2.2.2.1, hM.2.2.2.2.2.2.1, hM.2.2.2.2.2.2.2.1, hM.2.2.2.2.2.2.2.2⟩ hH hE (fun j hj => hW.2.1 j hj) hkp)) rfl (rest := []) rfl (by decide) (Nat.le_of_ble_eq_true rfl) td_M_mark_38 (st1 := []) rfl (fun f33 hF33 => ?_)
          obtain ⟨⟨paK, hMK, hHK⟩, hqK⟩ := hF33
          refine tz_aload_n C_ 0 rfl rfl td_M_mark_41 ?_
          refine tz_get C_ tci_M 0 (by decide) tw_753 hMK.1 rfl td_M_mark_42 ?_
          refine tz_sipush C_ (v := 520) (by decide) td_M_mark_45 ?_
          refine tz_iload_n C_ 1 rfl rfl td_M_mark_48 ?_
          refine tz_iadd C_ td_M_mark_49 ?_
          rw [show (520 + (nI mm) : Int32) = nI (520 + mm) from nI_add (520) (mm)]
          refine tz_iload_n C_ 2 rfl rfl td_M_mark_50 ?_
          refine tz_wiastN C_ hMK.2.1 (by omega) (by decide) (g' := upd nw ((520 + mm)) (nI k)) rfl td_M_mark_51 (fun f34 hs34 hq34 => ?_)
          refine tz_aload_n C_ 0 rfl rfl td_M_mark_52 ?_
          have k35 : f34 M = some (tz_obj 11 [.ref (M + 1), .ref (M + 2), .int (nI (min (σ.2.1 + 1) 20)), .int σ.2.2.2, .ref (M + 3), .ref (M + 4), .ref (M + 5), .int ms, .ref (M + 6), .int ns, .ref (M + 7), .ref (M + 8), .int tg]) := ((hq34 _ (by omega)).trans hMK.1)
          refine tz_get C_ tci_M 0 (by decide) tw_753 k35 rfl td_M_mark_53 ?_
          refine tz_sipush C_ (v := 526) (by decide) td_M_mark_56 ?_
          refine tz_iload_n C_ 1 rfl rfl td_M_mark_59 ?_
          refine tz_iadd C_ td_M_mark_60 ?_
          rw [show (526 + (nI mm) : Int32) = nI (526 + mm) from nI_add (526) (mm)]
          refine tz_iload_n C_ 3 rfl rfl td_M_mark_61 ?_
          refine tz_wiastN C_ hs34 (by omega) (by decide) (g' := upd (upd nw ((520 + mm)) (nI k)) ((526 + mm)) i) rfl td_M_mark_62 (fun f36 hs36 hq36 => ?_)
          refine tz_iconst C_ (v := 1) (by decide) td_M_mark_63 ?_
          refine tz_riret C_ hr_ hk_ hQ_ rfl td_M_mark_64 ?_
          have k37 : f36 M = some (tz_obj 11 [.ref (M + 1), .ref (M + 2), .int (nI (min (σ.2.1 + 1) 20)), .int σ.2.2.2, .ref (M + 3), .ref (M + 4), .ref (M + 5), .int ms, .ref (M + 6), .int ns, .ref (M + 7), .ref (M + 8), .int tg]) := ((hq36 _ (by omega)).trans k35)
          have k38 : f36 (M + 2) = some (tz_ints cs 10640 paK) := ((hq36 _ (by omega)).trans ((hq34 _ (by omega)).trans hMK.2.2.1))
          have k39 : f36 (M + 3) = some (tz_ints cs 4 bi) := ((hq36 _ (by omega)).trans ((hq34 _ (by omega)).trans hMK.2.2.2.1))
          have k40 : f36 (M + 4) = some (tz_ints cs 4 nu) := ((hq36 _ (by omega)).trans ((hq34 _ (by omega)).trans hMK.2.2.2.2.1))
          have k41 : f36 (M + 5) = some (tz_ints cs 480 sh) := ((hq36 _ (by omega)).trans ((hq34 _ (by omega)).trans hMK.2.2.2.2.2.1))
          have k42 : f36 (M + 6) = some (tz_ints cs 120 ro) := ((hq36 _ (by omega)).trans ((hq34 _ (by omega)).trans hMK.2.2.2.2.2.2.1))
          have k43 : f36 (M + 7) = some (tz_ints cs 120 ma) := ((hq36 _ (by omega)).trans ((hq34 _ (by omega)).trans hMK.2.2.2.2.2.2.2.1))
          have k44 : f36 (M + 8) = some (tz_ints cs 120 ca) := ((hq36 _ (by omega)).trans ((hq34 _ (by omega)).trans hMK.2.2.2.2.2.2.2.2))
          have e9 : sp_mark σ (nI mm) (nI k) i = (1, tz_act σ (tz_smk (tz_cur σ) (upd (tz_cur σ).2.2.2.1 mm (nI k)) (upd (tz_cur σ).2.2.2.2 mm i))) := by rw [sp_mark, if_pos h6b, hpk13]; simp only []; rw [if_pos (Or.inr ((tz_hasN hk).mp h27)), nI_clamp (by omega)]
          rw [e9]
          exact ⟨rfl, tz_AM_act hW ⟨k37, hs36, k38, k39, k40, k41, k42, k43, k44⟩ (tz_en_mark hE hWT hmm) hHK hQ, (fun q hh => by rw [hq36 q (by omega), hq34 q (by omega), hqK q (by omega)])⟩
        · skip
          replace h27 := tz_p0.mp h27
          refine tz_aload_n C_ 0 rfl rfl td_M_mark_30 ?_
          refine tz_ldc C_ tw_812 td_M_mark_31 ?_
          refine tz_cV C_ tmi_M_finding tw_800 tw_14 tw_798 hM.1 rfl (As := [.int (-100001)]) (by exact (ct_M_finding (v := -100001) hM.1)) rfl (rest := []) rfl (by decide) (Nat.le_of_ble_eq_true rfl) td_M_mark_33 (st1 := [.int (-100001)]) rfl (fun f45 hF45 => ?_)
          obtain ⟨hs46, hq46⟩ := hF45
          refine tz_riret C_ hr_ hk_ hQ_ rfl td_M_mark_36 ?_
          have k47 : f45 (M + 1) = some (tz_ints cs 532 nw) := ((hq46 _ (by omega)).trans hM.2.1)
          have k48 : f45 (M + 2) = some (tz_ints cs 10640 pa) := ((hq46 _ (by omega)).trans hM.2.2.1)
          have k49 : f45 (M + 3) = some (tz_ints cs 4 bi) := ((hq46 _ (by omega)).trans hM.2.2.2.1)
          have k50 : f45 (M + 4) = some (tz_ints cs 4 nu) := ((hq46 _ (by omega)).trans hM.2.2.2.2.1)
          have k51 : f45 (M + 5) = some (tz_ints cs 480 sh) := ((hq46 _ (by omega)).trans hM.2.2.2.2.2.1)
          have k52 : f45 (M + 6) = some (tz_ints cs 120 ro) := ((hq46 _ (by omega)).trans hM.2.2.2.2.2.2.1)
          have k53 : f45 (M + 7) = some (tz_ints cs 120 ma) := ((hq46 _ (by omega)).trans hM.2.2.2.2.2.2.2.1)
          have k54 : f45 (M + 8) = some (tz_ints cs 120 ca) := ((hq46 _ (by omega)).trans hM.2.2.2.2.2.2.2.2)
          have e9 : sp_mark σ (nI mm) (nI k) i = (-100001, tz_fnd σ) := by rw [sp_mark, if_pos h6b, hpk13]; simp only []; rw [if_neg (fun z => z.elim (fun e => h18 e) (fun e => h27 ((tz_hasN hk).mpr e))), tz_an_f (by decide)]
          rw [e9]
          exact ⟨rfl, ⟨_, _, _, _, _, _, _, _, _, _, _, ⟨hs46, k47, k48, k49, k50, k51, k52, k53, k54⟩, hE, hH, hQ⟩, (fun q hh => by rw [hq46 q (by omega)])⟩

abbrev rm_M_undo : Room := { frames := 1, cells := 0, slots := 0, locals := 21 }
set_option maxHeartbeats 4000000 in
set_option maxRecDepth 100000 in
theorem ct_M_undo {l : Launch} {A : Nat → Prop} {D : va_G} {cs : Nat → ClassId} {sz : Nat} {f : tz_PH} {M : Nat} {σ : tz_SG} (hX : tz_AM cs f M σ) (hW : tz_WF σ) : tz_CN l tyM_undo prog_13_method_8_code 2 (some (.int)) rm_M_undo 0 0 A D cs sz [.ref M] f (some (.int (sp_undo σ).1)) (fun f' => tz_AM cs f' M (sp_undo σ ).2 ∧ ∀ q, (q < M ∨ M + 9 ≤ q) → f' q = f q) := by
  refine tz_C.ofB (lv0 := [(0, .ref M)]) (plainFor_of_name (by decide)) (Nat.le_of_ble_eq_true rfl) rfl ?_
  intro p_ e_ s_ m_ ar_ be_ me_ c_ Q_ C_ hr_ hk_ hnm_ hz_ hQ_
  obtain ⟨ms, ns, tg, nw, pa, bi, nu, sh, ro, ma, ca, hM, hE, hH, hQ⟩ := hX
  have hWT := hW.cur
  have hkp : σ.2.1 ≤ 20 := hW.1
  have hl8 := hWT.2.1
  refine tz_aload_n C_ 0 rfl rfl td_M_undo_0 ?_
  refine tz_get C_ tci_M 2 (by decide) tw_755 hM.1 rfl td_M_undo_1 ?_
  refine tz_if_ne C_ td_M_undo_4 (fun h4 => ?_) (fun h4 => ?_)
  · skip
    replace h4 := mt (nI_eq (a := σ.2.1) (b := 0) (by omega) (by omega)).mpr h4
    refine tz_aload_n C_ 0 rfl rfl td_M_undo_14 ?_
    refine tz_dup C_ rfl td_M_undo_15 ?_
    refine tz_get C_ tci_M 2 (by decide) tw_755 hM.1 rfl td_M_undo_16 ?_
    refine tz_iconst C_ (v := 1) (by decide) td_M_undo_19 ?_
    refine tz_isub C_ td_M_undo_20 ?_
    rw [show ((nI σ.2.1) - 1 : Int32) = nI (σ.2.1 - 1) from pk_sub (a := σ.2.1) (b := 1) (by omega)]
    refine tz_wput C_ tci_M 2 (by decide) tw_755 rfl hM.1 (Nat.le_of_ble_eq_true rfl) ⟨rfl, rfl⟩ (fs' := [.ref (M + 1), .ref (M + 2), .int (nI (σ.2.1 - 1)), .int σ.2.2.2, .ref (M + 3), .ref (M + 4), .ref (M + 5), .int ms, .ref (M + 6), .int ns, .ref (M + 7), .ref (M + 8), .int tg]) rfl td_M_undo_21 (fun f1 hs1 hq1 => ?_)
    refine tz_iconst C_ (v := 0) (by decide) td_M_undo_24 ?_
    refine tz_istore_n C_ (lv' := [(0, .ref M), (1, .int 0)]) [1, 0] rfl (by decide) rfl td_M_undo_25 ?_
    have k2 : f1 (M + 1) = some (tz_ints cs 532 nw) := ((hq1 _ (by omega)).trans hM.2.1)
    have k3 : f1 (M + 2) = some (tz_ints cs 10640 pa) := ((hq1 _ (by omega)).trans hM.2.2.1)
    have k4 : f1 (M + 3) = some (tz_ints cs 4 bi) := ((hq1 _ (by omega)).trans hM.2.2.2.1)
    have k5 : f1 (M + 4) = some (tz_ints cs 4 nu) := ((hq1 _ (by omega)).trans hM.2.2.2.2.1)
    have k6 : f1 (M + 5) = some (tz_ints cs 480 sh) := ((hq1 _ (by omega)).trans hM.2.2.2.2.2.1)
    have k7 : f1 (M + 6) = some (tz_ints cs 120 ro) := ((hq1 _ (by omega)).trans hM.2.2.2.2.2.2.1)
    have k8 : f1 (M + 7) = some (tz_ints cs 120 ma) := ((hq1 _ (by omega)).trans hM.2.2.2.2.2.2.2.1)
    have k9 : f1 (M + 8) = some (tz_ints cs 120 ca) := ((hq1 _ (by omega)).trans hM.2.2.2.2.2.2.2.2)
    have loop26 : ∀ (kk26 : Nat) (i : Nat) (fL : tz_PH), (tz_MB cs fL M (σ.2.1 - 1) σ.2.2.2 ms ns tg ((tz_fl (fun q => pa ((σ.2.1 - 1) * 532 + q)) nw i)) pa bi nu sh ro ma ca) → (∀ q, (q < M ∨ M + 9 ≤ q) → fL q = f q) → (i ≤ 532) → (532 - i) < kk26 → tz_V p_ l e_ rm_M_undo s_ m_ ar_ be_ me_ c_ Q_ A D 2 fL sz 0 0 26 [(0, .ref M), (1, .int (nI i))] [] := by
      intro kk26
      induction kk26 with
      | zero => intro i fL hM1 hfr hi hm26; omega
      | succ kk26 ih26 =>
        intro i fL hM1 hfr hi hm26
        refine tz_iload_n C_ 1 rfl rfl td_M_undo_26 ?_
        refine tz_sipush C_ (v := 532) (by decide) td_M_undo_27 ?_
        refine tz_icmp_ge C_ td_M_undo_30 (fun h30 => ?_) (fun h30 => ?_)
        · skip
          replace h30 := (nI_leI (a := 532) (b := i) (by omega) (by omega)).mp h30
          refine tz_aload_n C_ 0 rfl rfl td_M_undo_60 ?_
          refine tz_get C_ tci_M 2 (by decide) tw_755 hM1.1 rfl td_M_undo_61 ?_
          refine tz_riret C_ hr_ hk_ hQ_ rfl td_M_undo_64 ?_
          have e9 : sp_undo σ = (nI (σ.2.1 - 1), (σ.1, σ.2.1 - 1, σ.2.2)) := by rw [sp_undo, if_neg h4, tz_an_n (tz_nI_big (by omega))]
          rw [e9]
          have e8 : i = 532 := by omega
          exact ⟨rfl, ⟨_, _, _, _, _, _, _, _, _, _, _, ⟨hM1.1, hM1.2.1, hM1.2.2.1, hM1.2.2.2.1, hM1.2.2.2.2.1, hM1.2.2.2.2.2.1, hM1.2.2.2.2.2.2.1, hM1.2.2.2.2.2.2.2.1, hM1.2.2.2.2.2.2.2.2⟩, (hH (σ.2.1 - 1) (by omega)).cg (hW.2.1 (σ.2.1 - 1) (by omega)) (fun q hq => by rw [tz_fl_in (by omega), Nat.mul_comm]), fun j hj => hH j (Nat.lt_of_lt_of_le hj (Nat.sub_le _ _)), hQ⟩, (fun q hh => by rw [hfr q (by omega)])⟩
        · skip
          replace h30 := mt (nI_leI (a := 532) (b := i) (by omega) (by omega)).mpr h30
          refine tz_aload_n C_ 0 rfl rfl td_M_undo_33 ?_
          refine tz_get C_ tci_M 0 (by decide) tw_753 hM1.1 rfl td_M_undo_34 ?_
          refine tz_iload_n C_ 1 rfl rfl td_M_undo_37 ?_
          refine tz_aload_n C_ 0 rfl rfl td_M_undo_38 ?_
          refine tz_get C_ tci_M 1 (by decide) tw_754 hM1.1 rfl td_M_undo_39 ?_
          refine tz_aload_n C_ 0 rfl rfl td_M_undo_42 ?_
          refine tz_get C_ tci_M 2 (by decide) tw_755 hM1.1 rfl td_M_undo_43 ?_
          refine tz_sipush C_ (v := 532) (by decide) td_M_undo_46 ?_
          refine tz_imul C_ td_M_undo_49 ?_
          rw [show ((nI (σ.2.1 - 1)) * 532 : Int32) = nI ((σ.2.1 - 1) * 532) from pk_mul (σ.2.1 - 1) (532)]
          refine tz_iload_n C_ 1 rfl rfl td_M_undo_50 ?_
          refine tz_iadd C_ td_M_undo_51 ?_
          rw [show ((nI ((σ.2.1 - 1) * 532)) + (nI i) : Int32) = nI ((σ.2.1 - 1) * 532 + i) from nI_add ((σ.2.1 - 1) * 532) (i)]
          refine tz_ialdN C_ hM1.2.2.1 (by omega) (by decide) td_M_undo_52 ?_
          refine tz_wiastN C_ hM1.2.1 (by omega) (by decide) (g' := upd ((tz_fl (fun q => pa ((σ.2.1 - 1) * 532 + q)) nw i)) i (pa (((σ.2.1 - 1) * 532 + i)))) rfl td_M_undo_53 (fun f10 hs10 hq10 => ?_)
          refine tz_iinc C_ (k := 1) (v := nI (i + 1)) (lv' := [(0, .ref M), (1, .int (nI (i + 1)))]) 1 rfl (nI_1 i) [1, 0] (by decide) rfl td_M_undo_54 ?_
          refine tz_goto C_ td_M_undo_57 ?_
          have k11 : f10 M = some (tz_obj 11 [.ref (M + 1), .ref (M + 2), .int (nI (σ.2.1 - 1)), .int σ.2.2.2, .ref (M + 3), .ref (M + 4), .ref (M + 5), .int ms, .ref (M + 6), .int ns, .ref (M + 7), .ref (M + 8), .int tg]) := ((hq10 _ (by omega)).trans hM1.1)
          have k12 : f10 (M + 2) = some (tz_ints cs 10640 pa) := ((hq10 _ (by omega)).trans hM1.2.2.1)
          have k13 : f10 (M + 3) = some (tz_ints cs 4 bi) := ((hq10 _ (by omega)).trans hM1.2.2.2.1)
          have k14 : f10 (M + 4) = some (tz_ints cs 4 nu) := ((hq10 _ (by omega)).trans hM1.2.2.2.2.1)
          have k15 : f10 (M + 5) = some (tz_ints cs 480 sh) := ((hq10 _ (by omega)).trans hM1.2.2.2.2.2.1)
          have k16 : f10 (M + 6) = some (tz_ints cs 120 ro) := ((hq10 _ (by omega)).trans hM1.2.2.2.2.2.2.1)
          have k17 : f10 (M + 7) = some (tz_ints cs 120 ma) := ((hq10 _ (by omega)).trans hM1.2.2.2.2.2.2.2.1)
          have k18 : f10 (M + 8) = some (tz_ints cs 120 ca) := ((hq10 _ (by omega)).trans hM1.2.2.2.2.2.2.2.2)
          exact ih26 (i + 1) f10 (⟨k11, tz_flN hs10 rfl, k12, k13, k14, k15, k16, k17, k18⟩) (fun q hh => by rw [hq10 q (by omega), hfr q (by omega)]) (by omega) (by omega)
    exact loop26 _ 0 f1 (⟨hs1, by rw [tz_fl_0]; exact k2, k3, k4, k5, k6, k7, k8, k9⟩) (fun q hh => by rw [hq1 q (by omega)]) (Nat.zero_le _) (Nat.lt_succ_self _)
  · skip
    replace h4 := (nI_eq (a := σ.2.1) (b := 0) (by omega) (by omega)).mp h4
    refine tz_aload_n C_ 0 rfl rfl td_M_undo_7 ?_
    refine tz_ldc C_ tw_797 td_M_undo_8 ?_
    refine tz_cV C_ tmi_M_finding tw_800 tw_14 tw_798 hM.1 rfl (As := [.int (-100006)]) (by exact (ct_M_finding (v := -100006) hM.1)) rfl (rest := []) rfl (by decide) (Nat.le_of_ble_eq_true rfl) td_M_undo_10 (st1 := [.int (-100006)]) rfl (fun f19 hF19 => ?_)
    obtain ⟨hs20, hq20⟩ := hF19
    refine tz_riret C_ hr_ hk_ hQ_ rfl td_M_undo_13 ?_
    have k21 : f19 (M + 1) = some (tz_ints cs 532 nw) := ((hq20 _ (by omega)).trans hM.2.1)
    have k22 : f19 (M + 2) = some (tz_ints cs 10640 pa) := ((hq20 _ (by omega)).trans hM.2.2.1)
    have k23 : f19 (M + 3) = some (tz_ints cs 4 bi) := ((hq20 _ (by omega)).trans hM.2.2.2.1)
    have k24 : f19 (M + 4) = some (tz_ints cs 4 nu) := ((hq20 _ (by omega)).trans hM.2.2.2.2.1)
    have k25 : f19 (M + 5) = some (tz_ints cs 480 sh) := ((hq20 _ (by omega)).trans hM.2.2.2.2.2.1)
    have k26 : f19 (M + 6) = some (tz_ints cs 120 ro) := ((hq20 _ (by omega)).trans hM.2.2.2.2.2.2.1)
    have k27 : f19 (M + 7) = some (tz_ints cs 120 ma) := ((hq20 _ (by omega)).trans hM.2.2.2.2.2.2.2.1)
    have k28 : f19 (M + 8) = some (tz_ints cs 120 ca) := ((hq20 _ (by omega)).trans hM.2.2.2.2.2.2.2.2)
    have e9 : sp_undo σ  = (-100006, tz_fnd σ) := by rw [sp_undo, if_pos h4, tz_an_f (by decide)]
    rw [e9]
    exact ⟨rfl, ⟨_, _, _, _, _, _, _, _, _, _, _, ⟨hs20, k21, k22, k23, k24, k25, k26, k27, k28⟩, hE, hH, hQ⟩, (fun q hh => by rw [hq20 q (by omega)])⟩

abbrev rm_M_count : Room := { frames := 1, cells := 0, slots := 0, locals := 22 }
set_option maxHeartbeats 4000000 in
set_option maxRecDepth 100000 in
theorem ct_M_count {l : Launch} {A : Nat → Prop} {D : va_G} {cs : Nat → ClassId} {sz : Nat} {f : tz_PH} {M : Nat} {σ : tz_SG} (hX : tz_AM cs f M σ) (hW : tz_WF σ) {w : Int32} : tz_CN l tyM_count prog_13_method_64_code 5 (some (.int)) rm_M_count 0 0 A D cs sz [.ref M, .int w] f (some (.int (sp_count σ w).1)) (fun f' => tz_AM cs f' M (sp_count σ w).2 ∧ ∀ q, (q < M ∨ M + 9 ≤ q) → f' q = f q) := by
  refine tz_C.ofB (lv0 := [(0, .ref M), (1, .int w)]) (plainFor_of_name (by decide)) (Nat.le_of_ble_eq_true rfl) rfl ?_
  intro p_ e_ s_ m_ ar_ be_ me_ c_ Q_ C_ hr_ hk_ hnm_ hz_ hQ_
  obtain ⟨ms, ns, tg, nw, pa, bi, nu, sh, ro, ma, ca, hM, hE, hH, hQ⟩ := hX
  have hWT := hW.cur
  have hkp : σ.2.1 ≤ 20 := hW.1
  have hl8 := hWT.2.1
  refine tz_iload_n C_ 1 rfl rfl td_M_count_0 ?_
  refine tz_iconst C_ (v := 0) (by decide) td_M_count_1 ?_
  refine tz_iconst C_ (v := 3) (by decide) td_M_count_2 ?_
  refine tz_rS C_ tmi_M_in tw_810 tw_809 (As := [.int w, .int 0, .int 3]) (by exact ct_M_in) rfl (rest := []) rfl (by decide) (Nat.le_of_ble_eq_true rfl) td_M_count_3 (st1 := [.int (tz_p (0 ≤ w ∧ w ≤ 3))]) rfl ?_
  refine tz_if_ne C_ td_M_count_6 (fun h6 => ?_) (fun h6 => ?_)
  · skip
    replace h6 := tz_p1.mp h6
    refine tz_iconst C_ (v := 0) (by decide) td_M_count_16 ?_
    refine tz_istore_n C_ (lv' := [(0, .ref M), (1, .int w), (2, .int 0)]) [1, 2, 0] rfl (by decide) rfl td_M_count_17 ?_
    refine tz_iconst C_ (v := 0) (by decide) td_M_count_18 ?_
    refine tz_istore_n C_ (lv' := [(0, .ref M), (1, .int w), (2, .int 0), (3, .int 0)]) [1, 2, 3, 0] rfl (by decide) rfl td_M_count_19 ?_
    have loop20 : ∀ (kk20 : Nat) (on : Int32) (i : Nat), (i ≤ (tz_cur σ).2.1) → (on = nI (tz_ct (fun k => decide (¬ (tz_lyr σ k).2.2.2 = 0)) i)) → ((tz_cur σ).2.1 - i) < kk20 → tz_V p_ l e_ rm_M_count s_ m_ ar_ be_ me_ c_ Q_ A D 5 f sz 0 0 20 [(0, .ref M), (1, .int w), (2, .int on), (3, .int (nI i))] [] := by
      intro kk20
      induction kk20 with
      | zero => intro on i hi hon9 hm20; omega
      | succ kk20 ih20 =>
        intro on i hi hon9 hm20
        refine tz_iload_n C_ 3 rfl rfl td_M_count_20 ?_
        refine tz_aload_n C_ 0 rfl rfl td_M_count_21 ?_
        refine tz_get C_ tci_M 0 (by decide) tw_753 hM.1 rfl td_M_count_22 ?_
        refine tz_sipush C_ (v := nI 484) (by decide) td_M_count_25 ?_
        refine tz_ialdN C_ hM.2.1 (by omega) (by decide) td_M_count_28 ?_
        rw [hE.2.2.1]
        refine tz_icmp_ge C_ td_M_count_29 (fun h29 => ?_) (fun h29 => ?_)
        · skip
          replace h29 := (nI_leI (a := (tz_cur σ).2.1) (b := i) (by omega) (by omega)).mp h29
          refine tz_iconst C_ (v := 0) (by decide) td_M_count_51 ?_
          refine tz_istore_n C_ (lv' := [(0, .ref M), (1, .int w), (2, .int on), (3, .int 0)]) [1, 2, 3, 0] rfl (by decide) rfl td_M_count_52 ?_
          refine tz_iconst C_ (v := 0) (by decide) td_M_count_53 ?_
          refine tz_istore C_ (lv' := [(0, .ref M), (1, .int w), (2, .int on), (3, .int 0), (4, .int 0)]) [1, 2, 3, 4, 0] (by decide) rfl td_M_count_54 ?_
          have loop56 : ∀ (kk56 : Nat) (x : Nat) (j : Nat), (j ≤ 6) → (x = tz_ct (fun k => decide (¬ (tz_cur σ).2.2.2.2 k = -1)) j) → (6 - j) < kk56 → tz_V p_ l e_ rm_M_count s_ m_ ar_ be_ me_ c_ Q_ A D 5 f sz 0 0 56 [(0, .ref M), (1, .int w), (2, .int on), (3, .int (nI x)), (4, .int (nI j))] [] := by
            intro kk56
            induction kk56 with
            | zero => intro x j hj hx hm56; omega
            | succ kk56 ih56 =>
              intro x j hj hx hm56
              refine tz_iload C_ 4 rfl td_M_count_56 ?_
              refine tz_bipush C_ (v := 6) (by decide) td_M_count_58 ?_
              refine tz_icmp_ge C_ td_M_count_60 (fun h60 => ?_) (fun h60 => ?_)
              · skip
                replace h60 := (nI_leI (a := 6) (b := j) (by omega) (by omega)).mp h60
                refine tz_iload_n C_ 1 rfl rfl td_M_count_91 ?_
                refine tz_if_ne C_ td_M_count_92 (fun h92 => ?_) (fun h92 => ?_)
                · skip
                  refine tz_iload_n C_ 1 rfl rfl td_M_count_106 ?_
                  refine tz_iconst C_ (v := 1) (by decide) td_M_count_107 ?_
                  refine tz_icmp_ne C_ td_M_count_108 (fun h108 => ?_) (fun h108 => ?_)
                  · skip
                    refine tz_iload_n C_ 1 rfl rfl td_M_count_115 ?_
                    refine tz_iconst C_ (v := 2) (by decide) td_M_count_116 ?_
                    refine tz_icmp_ne C_ td_M_count_117 (fun h117 => ?_) (fun h117 => ?_)
                    · skip
                      refine tz_aload_n C_ 0 rfl rfl td_M_count_124 ?_
                      refine tz_get C_ tci_M 3 (by decide) tw_756 hM.1 rfl td_M_count_125 ?_
                      refine tz_riret C_ hr_ hk_ hQ_ rfl td_M_count_128 ?_
                      have e9 : sp_count σ w = (σ.2.2.2, σ) := by rw [sp_count, if_neg h92, if_neg h108, if_neg h117, if_pos ((((tz_03 h6).resolve_left h92).resolve_left h108).resolve_left h117)]
                      rw [e9]
                      exact ⟨rfl, ⟨_, _, _, _, _, _, _, _, _, _, _, ⟨hM.1, hM.2.1, hM.2.2.1, hM.2.2.2.1, hM.2.2.2.2.1, hM.2.2.2.2.2.1, hM.2.2.2.2.2.2.1, hM.2.2.2.2.2.2.2.1, hM.2.2.2.2.2.2.2.2⟩, hE, hH, hQ⟩, (fun q hh => rfl)⟩
                    · skip
                      refine tz_iload_n C_ 3 rfl rfl td_M_count_120 ?_
                      refine tz_goto C_ td_M_count_121 ?_
                      refine tz_riret C_ hr_ hk_ hQ_ rfl td_M_count_128 ?_
                      have e9 : sp_count σ w = (nI x, σ) := by have e8 : j = 6 := (by omega); rw [e8] at hx; rw [sp_count, if_neg h92, if_neg h108, if_pos h117, hx]
                      rw [e9]
                      exact ⟨rfl, ⟨_, _, _, _, _, _, _, _, _, _, _, ⟨hM.1, hM.2.1, hM.2.2.1, hM.2.2.2.1, hM.2.2.2.2.1, hM.2.2.2.2.2.1, hM.2.2.2.2.2.2.1, hM.2.2.2.2.2.2.2.1, hM.2.2.2.2.2.2.2.2⟩, hE, hH, hQ⟩, (fun q hh => rfl)⟩
                  · skip
                    refine tz_iload_n C_ 2 rfl rfl td_M_count_111 ?_
                    refine tz_goto C_ td_M_count_112 ?_
                    refine tz_riret C_ hr_ hk_ hQ_ rfl td_M_count_128 ?_
                    have e9 : sp_count σ w = (on, σ) := by have e8 : i = (tz_cur σ).2.1 := (by omega); rw [e8] at hon9; rw [sp_count, if_neg h92, if_pos h108, hon9]
                    rw [e9]
                    exact ⟨rfl, ⟨_, _, _, _, _, _, _, _, _, _, _, ⟨hM.1, hM.2.1, hM.2.2.1, hM.2.2.2.1, hM.2.2.2.2.1, hM.2.2.2.2.2.1, hM.2.2.2.2.2.2.1, hM.2.2.2.2.2.2.2.1, hM.2.2.2.2.2.2.2.2⟩, hE, hH, hQ⟩, (fun q hh => rfl)⟩
                · skip
                  refine tz_aload_n C_ 0 rfl rfl td_M_count_95 ?_
                  refine tz_get C_ tci_M 0 (by decide) tw_753 hM.1 rfl td_M_count_96 ?_
                  refine tz_sipush C_ (v := nI 484) (by decide) td_M_count_99 ?_
                  refine tz_ialdN C_ hM.2.1 (by omega) (by decide) td_M_count_102 ?_
                  rw [hE.2.2.1]
                  refine tz_goto C_ td_M_count_103 ?_
                  refine tz_riret C_ hr_ hk_ hQ_ rfl td_M_count_128 ?_
                  have e9 : sp_count σ w = (nI (tz_cur σ).2.1, σ) := by rw [sp_count, if_pos h92]
                  rw [e9]
                  exact ⟨rfl, ⟨_, _, _, _, _, _, _, _, _, _, _, ⟨hM.1, hM.2.1, hM.2.2.1, hM.2.2.2.1, hM.2.2.2.2.1, hM.2.2.2.2.2.1, hM.2.2.2.2.2.2.1, hM.2.2.2.2.2.2.2.1, hM.2.2.2.2.2.2.2.2⟩, hE, hH, hQ⟩, (fun q hh => rfl)⟩
              · skip
                replace h60 := mt (nI_leI (a := 6) (b := j) (by omega) (by omega)).mpr h60
                refine tz_iload_n C_ 3 rfl rfl td_M_count_63 ?_
                refine tz_aload_n C_ 0 rfl rfl td_M_count_64 ?_
                refine tz_get C_ tci_M 0 (by decide) tw_753 hM.1 rfl td_M_count_65 ?_
                refine tz_sipush C_ (v := 526) (by decide) td_M_count_68 ?_
                refine tz_iload C_ 4 rfl td_M_count_71 ?_
                refine tz_iadd C_ td_M_count_73 ?_
                rw [show (526 + (nI j) : Int32) = nI (526 + j) from nI_add (526) (j)]
                refine tz_ialdN C_ hM.2.1 (by omega) (by decide) td_M_count_74 ?_
                refine tz_if_lt C_ td_M_count_75 (fun h75 => ?_) (fun h75 => ?_)
                · skip
                  refine tz_iconst C_ (v := 0) (by decide) td_M_count_82 ?_
                  refine tz_iadd C_ td_M_count_83 ?_
                  rw [show ((nI x) + 0 : Int32) = nI (x + 0) from nI_add (x) (0)]
                  refine tz_istore_n C_ (lv' := [(0, .ref M), (1, .int w), (2, .int on), (3, .int (nI (x + 0))), (4, .int (nI j))]) [1, 2, 3, 0, 4] rfl (by decide) rfl td_M_count_84 ?_
                  refine tz_iinc C_ (k := 1) (v := nI (j + 1)) (lv' := [(0, .ref M), (1, .int w), (2, .int on), (3, .int (nI (x + 0))), (4, .int (nI (j + 1)))]) 4 rfl (nI_1 j) [1, 2, 3, 4, 0] (by decide) rfl td_M_count_85 ?_
                  refine tz_goto C_ td_M_count_88 ?_
                  have hm9 := tz_ml_m (hWT.2.2.2 j (by omega)).2.1
                  rw [(hE.2.2.2.2 j (by omega)).2] at h75
                  exact ih56 (x + 0) (j + 1) (by omega) (by rw [tz_ct_n (by simp only [decide_eq_false_iff_not]; exact fun z => z (hm9.mp h75)), hx]; rfl) (by omega)
                · skip
                  refine tz_iconst C_ (v := 1) (by decide) td_M_count_78 ?_
                  refine tz_goto C_ td_M_count_79 ?_
                  refine tz_iadd C_ td_M_count_83 ?_
                  rw [show ((nI x) + 1 : Int32) = nI (x + 1) from nI_add (x) (1)]
                  refine tz_istore_n C_ (lv' := [(0, .ref M), (1, .int w), (2, .int on), (3, .int (nI (x + 1))), (4, .int (nI j))]) [1, 2, 3, 0, 4] rfl (by decide) rfl td_M_count_84 ?_
                  refine tz_iinc C_ (k := 1) (v := nI (j + 1)) (lv' := [(0, .ref M), (1, .int w), (2, .int on), (3, .int (nI (x + 1))), (4, .int (nI (j + 1)))]) 4 rfl (nI_1 j) [1, 2, 3, 4, 0] (by decide) rfl td_M_count_85 ?_
                  refine tz_goto C_ td_M_count_88 ?_
                  have hm9 := tz_ml_m (hWT.2.2.2 j (by omega)).2.1
                  rw [(hE.2.2.2.2 j (by omega)).2] at h75
                  exact ih56 (x + 1) (j + 1) (by omega) (by rw [tz_ct_y (by simp only [decide_eq_true_eq]; exact fun z => h75 (hm9.mpr z)), hx]) (by omega)
          exact loop56 _ 0 0 (Nat.zero_le _) rfl (Nat.lt_succ_self _)
        · skip
          replace h29 := mt (nI_leI (a := (tz_cur σ).2.1) (b := i) (by omega) (by omega)).mpr h29
          refine tz_iload_n C_ 2 rfl rfl td_M_count_32 ?_
          refine tz_aload_n C_ 0 rfl rfl td_M_count_33 ?_
          refine tz_get C_ tci_M 0 (by decide) tw_753 hM.1 rfl td_M_count_34 ?_
          refine tz_sipush C_ (v := 512) (by decide) td_M_count_37 ?_
          refine tz_iload_n C_ 3 rfl rfl td_M_count_40 ?_
          refine tz_iadd C_ td_M_count_41 ?_
          rw [show (512 + (nI i) : Int32) = nI (512 + i) from nI_add (512) (i)]
          refine tz_ialdN C_ hM.2.1 (by omega) (by decide) td_M_count_42 ?_
          refine tz_iadd C_ td_M_count_43 ?_
          refine tz_istore_n C_ (lv' := [(0, .ref M), (1, .int w), (2, .int (on + (nw ((512 + i))))), (3, .int (nI i))]) [1, 2, 0, 3] rfl (by decide) rfl td_M_count_44 ?_
          refine tz_iinc C_ (k := 1) (v := nI (i + 1)) (lv' := [(0, .ref M), (1, .int w), (2, .int (on + (nw ((512 + i))))), (3, .int (nI (i + 1)))]) 3 rfl (nI_1 i) [1, 2, 3, 0] (by decide) rfl td_M_count_45 ?_
          refine tz_goto C_ td_M_count_48 ?_
          exact ih20 (on + (nw ((512 + i)))) (i + 1) (by omega) (tz_on_s hon9 (by rw [(hE.2.2.2.1 i (by omega)).2.2.2]; exact (hWT.2.2.1 i (by omega)).2) (by rw [(hE.2.2.2.1 i (by omega)).2.2.2])) (by omega)
    exact loop20 _ 0 0 (Nat.zero_le _) rfl (Nat.lt_succ_self _)
  · skip
    replace h6 := tz_p0.mp h6
    refine tz_aload_n C_ 0 rfl rfl td_M_count_9 ?_
    refine tz_ldc C_ tw_812 td_M_count_10 ?_
    refine tz_cV C_ tmi_M_finding tw_800 tw_14 tw_798 hM.1 rfl (As := [.int (-100001)]) (by exact (ct_M_finding (v := -100001) hM.1)) rfl (rest := []) rfl (by decide) (Nat.le_of_ble_eq_true rfl) td_M_count_12 (st1 := [.int (-100001)]) rfl (fun f1 hF1 => ?_)
    obtain ⟨hs2, hq2⟩ := hF1
    refine tz_riret C_ hr_ hk_ hQ_ rfl td_M_count_15 ?_
    have k3 : f1 (M + 1) = some (tz_ints cs 532 nw) := ((hq2 _ (by omega)).trans hM.2.1)
    have k4 : f1 (M + 2) = some (tz_ints cs 10640 pa) := ((hq2 _ (by omega)).trans hM.2.2.1)
    have k5 : f1 (M + 3) = some (tz_ints cs 4 bi) := ((hq2 _ (by omega)).trans hM.2.2.2.1)
    have k6 : f1 (M + 4) = some (tz_ints cs 4 nu) := ((hq2 _ (by omega)).trans hM.2.2.2.2.1)
    have k7 : f1 (M + 5) = some (tz_ints cs 480 sh) := ((hq2 _ (by omega)).trans hM.2.2.2.2.2.1)
    have k8 : f1 (M + 6) = some (tz_ints cs 120 ro) := ((hq2 _ (by omega)).trans hM.2.2.2.2.2.2.1)
    have k9 : f1 (M + 7) = some (tz_ints cs 120 ma) := ((hq2 _ (by omega)).trans hM.2.2.2.2.2.2.2.1)
    have k10 : f1 (M + 8) = some (tz_ints cs 120 ca) := ((hq2 _ (by omega)).trans hM.2.2.2.2.2.2.2.2)
    have e9 : sp_count σ w = (-100001, tz_fnd σ) := by rw [sp_count, if_neg (fun e => h6 (by rw [e]; decide)), if_neg (fun e => h6 (by rw [e]; decide)), if_neg (fun e => h6 (by rw [e]; decide)), if_neg (fun e => h6 (by rw [e]; decide)), tz_an_f (by decide)]
    rw [e9]
    exact ⟨rfl, ⟨_, _, _, _, _, _, _, _, _, _, _, ⟨hs2, k3, k4, k5, k6, k7, k8, k9, k10⟩, hE, hH, hQ⟩, (fun q hh => by rw [hq2 q (by omega)])⟩
