
theorem tz_prv_ne {g : Nat → Int32} : ∀ i, 0 < tz_prv g i → ¬ g (tz_prv g i - 1) = tz_LO := by
  intro i
  induction i with
  | zero => intro h; rw [tz_prv] at h; omega
  | succ i ih =>
    intro h
    rw [tz_prv] at h ⊢
    by_cases e : g i = tz_LO
    · rw [if_pos e] at h ⊢; exact ih h
    · rw [if_neg e]; exact e
theorem tz_nxd_ne {g : Nat → Int32} {n : Nat} : ∀ d, d ≤ n → tz_nxd g n d < n → ¬ g (tz_nxd g n d) = tz_LO ∧ n - d ≤ tz_nxd g n d := by
  intro d
  induction d with
  | zero => intro _ h; rw [tz_nxd] at h; omega
  | succ d ih =>
    intro hd h
    rw [tz_nxd] at h ⊢
    by_cases e : g (n - (d + 1)) = tz_LO
    · rw [if_pos e] at h ⊢
      obtain ⟨a, b⟩ := ih (by omega) h
      exact ⟨a, by omega⟩
    · rw [if_neg e]; exact ⟨e, Nat.le_refl _⟩
theorem tz_okv_r {v : Int32} (h : -10000 ≤ v ∧ v ≤ 10000) : tz_okv v := Or.inr h
theorem tz_fx_ok {v : tz_V4} {R : tz_RR} {n : Nat} {g : Nat → Int32} (hk : tz_okr n g) (hn : n ≤ 120) (hc : tz_can v.1 v.2.1 v.2.2.1) (hR : ∀ p, p < 4 → (R p).1 ≤ 120 ∧ ∀ j, j < (R p).1 → tz_okv ((R p).2 j)) : tz_okr (tz_fx v R n g).1 (tz_fx v R n g).2 := by
  intro j
  unfold tz_fx
  by_cases h0 : v.1 = 0
  · rw [if_pos h0]
    intro hj
    show tz_okv (tz_gn v.2.1 (g j))
    unfold tz_gn
    by_cases e : g j = tz_LO
    · rw [if_pos e]; exact Or.inl rfl
    · rw [if_neg e, (tz_top_eq _).1]; exact Or.inr (tz_top_eq _).2.2
  rw [if_neg h0]
  by_cases h1 : v.1 = 1
  · rw [if_pos h1]
    intro hj
    show tz_okv (tz_md n g v.2.1 j)
    have hj' : j < n := hj
    unfold tz_md
    by_cases e : tz_click n g (nI j) v.2.1
    · rw [if_pos e]
      obtain ⟨⟨c1, c2⟩, c3, c4, c5, -⟩ := (tz_click_N hn hj').mp e
      rw [show (nI j - 1 : Int32) = nI (j - 1) from pk_sub (a := j) (b := 1) (by omega), show (nI j + 1 : Int32) = nI (j + 1) from nI_1 j, tz_at_N hn c2, tz_at_N hn (show j - 1 < n by omega)]
      exact Or.inr (tz_avg (hk _ (by omega)) (hk _ c2) c3 c5).1
    · rw [if_neg e]; exact hk j hj'
  rw [if_neg h1]
  by_cases h2 : v.1 = 2
  · rw [if_pos h2]
    intro hj
    obtain ⟨p, w, hp, hw, e1, e2⟩ := tz_can2 hc h2
    rw [e1, e2, nI_clamp (by omega), nI_clamp (by omega)]
    show tz_okv (tz_fi g n (R p).1 (R p).2 w j)
    unfold tz_fi
    split
    · exact hk j hj
    · split
      · unfold tz_at
        split
        · rename_i h
          obtain ⟨q, hq, e⟩ := vp_in_of (tz_inI (tz_le_nlt h.1) h.2 (by have := (hR p hp).1; omega)) (by have := (hR p hp).1; omega)
          rw [e, nI_clamp (by have := (hR p hp).1; omega)]
          exact (hR p hp).2 q hq
        · exact Or.inl rfl
      · exact hk j hj
  rw [if_neg h2]
  by_cases h3 : v.1 = 3
  · rw [if_pos h3]
    intro hj
    have hj' : j < n := hj
    show tz_okv (tz_br n g v.2.1 j)
    unfold tz_br
    by_cases e : g j = tz_LO
    · rw [if_pos e]
      split
      · rename_i h
        have a1 := tz_prv_ne j h.1
        have a2 := tz_prv_le g j
        obtain ⟨b1, b2⟩ := tz_nxd_ne (g := g) (n - j) (by omega) h.2.1
        have b3 : j ≤ tz_nx g n j := by unfold tz_nx; omega
        exact Or.inr (tz_spv_rg hk a1 b1 (by omega) b3 h.2.1 (by omega) hn).1
      · exact Or.inl rfl
    · rw [if_neg e]; exact hk j hj'
  rw [if_neg h3]
  by_cases h4 : v.1 = 4
  · rw [if_pos h4]
    obtain ⟨u, hu, e1⟩ := tz_can4 hc h4
    rw [e1, nI_clamp (by omega)]
    show j < tz_wn n g u → tz_okv (tz_wg n g u j)
    unfold tz_wn tz_wg
    by_cases hT : tz_T n g < 2
    · rw [if_pos hT, if_pos hT]; exact hk j
    · rw [if_neg hT, if_neg hT]
      intro hj
      obtain ⟨q0, q1, q2⟩ := tz_wpf hn hu hT hj
      by_cases hm : j % u = 0
      · rw [tz_wv_A hn hu q0 q1 hm]; exact hk _ (tz_F_in q1)
      · obtain ⟨w1, w2, w3, w4⟩ := tz_wpg hn hu (q2 hm)
        rw [tz_wv_B hn hu q0 (q2 hm) hm rfl rfl]
        split
        · exact hk _ (by omega)
        · split
          · exact Or.inl rfl
          · rename_i h5 h6
            exact Or.inr (tz_wv_rg hk (by omega) (fun z => h6 (Or.inl z)) (fun z => h6 (Or.inr z)) (Nat.mod_lt _ (by omega)) hu.2).1
  rw [if_neg h4]
  by_cases h5 : v.1 = 5
  · rw [if_pos h5]
    intro hj
    exact hk _ (tz_nth_in _ hj).1
  rw [if_neg h5]
  intro hj
  have hj' : j < n := hj
  show tz_okv (tz_fa g v.2.1 j)
  unfold tz_fa
  by_cases e : ¬ g j = tz_LO ∧ nI j < v.2.1
  · rw [if_pos e]
    exact Or.inr (tz_fade_rg (hk j hj') e.1 (tz_can6 hc h0 h1 h2 h3 h4 h5).2 e.2 (by omega)).1
  · rw [if_neg e]; exact hk j hj'
theorem tz_rn_ok {t : tz_TS} (hW : tz_WT t) {k : Nat} (hk : k < 4) (fo : Int32) : ∀ i, i ≤ t.2.1 → tz_okr (tz_rn t.2.2.1 t.1 (t.1 k).1 (t.1 k).2 fo i).1 (tz_rn t.2.2.1 t.1 (t.1 k).1 (t.1 k).2 fo i).2.1 ∧ (tz_rn t.2.2.1 t.1 (t.1 k).1 (t.1 k).2 fo i).1 ≤ 120 := by
  intro i
  induction i with
  | zero => intro _; exact ⟨(hW.1 k hk).2, (hW.1 k hk).1⟩
  | succ i ih =>
    intro hi
    obtain ⟨a, b⟩ := ih (by omega)
    simp only [tz_rn]
    split
    · exact ⟨a, b⟩
    · exact ⟨tz_fx_ok a b (hW.2.2.1 i (by omega)).1 hW.1, tz_fx_le b⟩

abbrev rm_M_output : Room := { frames := 7, cells := 0, slots := 0, locals := 167 }
set_option maxHeartbeats 4000000 in
set_option maxRecDepth 100000 in
theorem ct_M_output {l : Launch} {A : Nat → Prop} {D : va_G} {cs : Nat → ClassId} {sz : Nat} {f : tz_PH} {M kp : Nat} {fn ms ns tg : Int32} {nw pa bi nu sh ro ma ca : Nat → Int32} (hM : tz_MB cs f M kp fn ms ns tg nw pa bi nu sh ro ma ca) {t : tz_TS} (hE : tz_en nw t) (hW : tz_WT t) {k : Nat} (hk4 : k < 4) : tz_CN l tyM_output prog_13_method_51_code 3 (none) rm_M_output 0 0 A D cs sz [.ref M, .int (nI k)] f (none) (fun f' => (∃ (ro' ma' : Nat → Int32) (ns' tg' : Int32), tz_MB cs f' M kp fn (nI ((tz_ou t k (-1)).1)) (ns') (tg') nw pa bi nu sh (ro') (ma') ca ∧ tz_er ro' ((tz_ou t k (-1)).1) ((tz_ou t k (-1)).2.1)) ∧ ∀ q, (q < M ∨ M + 9 ≤ q) → f' q = f q) := by
  refine tz_C.ofB (lv0 := [(0, .ref M), (1, .int (nI k))]) (plainFor_of_name (by decide)) (Nat.le_of_ble_eq_true rfl) rfl ?_
  intro p_ e_ s_ m_ ar_ be_ me_ c_ Q_ C_ hr_ hk_ hnm_ hz_ hQ_
  have hl8 := hW.2.1
  refine tz_aload_n C_ 0 rfl rfl td_M_output_0 ?_
  refine tz_iload_n C_ 1 rfl rfl td_M_output_1 ?_
  refine tz_cV C_ tmi_M_takePass tw_845 tw_18 tw_843 hM.1 rfl (As := [.int (nI k)]) (by exact (ct_M_takePass ⟨hM.1, hM.2.1, hM.2.2.1, hM.2.2.2.1, hM.2.2.2.2.1, hM.2.2.2.2.2.1, hM.2.2.2.2.2.2.1, hM.2.2.2.2.2.2.2.1, hM.2.2.2.2.2.2.2.2⟩ hE hW (k := k) (by omega))) rfl (rest := []) rfl (by decide) (Nat.le_of_ble_eq_true rfl) td_M_output_2 (st1 := []) rfl (fun f1 hF1 => ?_)
  obtain ⟨⟨roT, hMT, herT⟩, hqT⟩ := hF1
  refine tz_iconst C_ (v := 0) (by decide) td_M_output_5 ?_
  refine tz_istore_n C_ (lv' := [(0, .ref M), (1, .int (nI k)), (2, .int 0)]) [1, 2, 0] rfl (by decide) rfl td_M_output_6 ?_
  have loop7 : ∀ (kk7 : Nat) (roL : Nat → Int32) (maL : Nat → Int32) (nsL : Int32) (tgL : Int32) (i : Nat) (fL : tz_PH), (tz_MB cs fL M kp fn (nI (tz_rn t.2.2.1 t.1 (t.1 k).1 (t.1 k).2 (-1) i).1) nsL tgL nw pa bi nu sh roL maL ca) → (∀ q, (q < M ∨ M + 9 ≤ q) → fL q = f q) → (i ≤ t.2.1) → (tz_er roL (tz_rn t.2.2.1 t.1 (t.1 k).1 (t.1 k).2 (-1) i).1 (tz_rn t.2.2.1 t.1 (t.1 k).1 (t.1 k).2 (-1) i).2.1) → (t.2.1 - i) < kk7 → tz_V p_ l e_ rm_M_output s_ m_ ar_ be_ me_ c_ Q_ A D 3 fL sz 0 0 7 [(0, .ref M), (1, .int (nI k)), (2, .int (nI i))] [] := by
    intro kk7
    induction kk7 with
    | zero => intro roL maL nsL tgL i fL hM1 hfr hi her hm7; omega
    | succ kk7 ih7 =>
      intro roL maL nsL tgL i fL hM1 hfr hi her hm7
      have hok := tz_rn_ok hW hk4 (-1) i hi
      refine tz_iload_n C_ 2 rfl rfl td_M_output_7 ?_
      refine tz_aload_n C_ 0 rfl rfl td_M_output_8 ?_
      refine tz_get C_ tci_M 0 (by decide) tw_753 hM1.1 rfl td_M_output_9 ?_
      refine tz_sipush C_ (v := nI 484) (by decide) td_M_output_12 ?_
      refine tz_ialdN C_ hM1.2.1 (by omega) (by decide) td_M_output_15 ?_
      rw [hE.2.2.1]
      refine tz_icmp_ge C_ td_M_output_16 (fun h16 => ?_) (fun h16 => ?_)
      · skip
        replace h16 := (nI_leI (a := t.2.1) (b := i) (by omega) (by omega)).mp h16
        refine tz_rvret C_ hr_ hk_ hQ_ rfl td_M_output_44 ?_
        have e9 : t.2.1 = i := by omega
        unfold tz_ou
        rw [e9]
        exact ⟨rfl, ⟨_, _, _, _, ⟨hM1.1, hM1.2.1, hM1.2.2.1, hM1.2.2.2.1, hM1.2.2.2.2.1, hM1.2.2.2.2.2.1, hM1.2.2.2.2.2.2.1, hM1.2.2.2.2.2.2.2.1, hM1.2.2.2.2.2.2.2.2⟩, her⟩, (fun q hh => by rw [hfr q (by omega)])⟩
      · skip
        replace h16 := mt (nI_leI (a := t.2.1) (b := i) (by omega) (by omega)).mpr h16
        refine tz_aload_n C_ 0 rfl rfl td_M_output_19 ?_
        refine tz_get C_ tci_M 0 (by decide) tw_753 hM1.1 rfl td_M_output_20 ?_
        refine tz_sipush C_ (v := 512) (by decide) td_M_output_23 ?_
        refine tz_iload_n C_ 2 rfl rfl td_M_output_26 ?_
        refine tz_iadd C_ td_M_output_27 ?_
        rw [show (512 + (nI i) : Int32) = nI (512 + i) from nI_add (512) (i)]
        refine tz_ialdN C_ hM1.2.1 (by omega) (by decide) td_M_output_28 ?_
        rw [(hE.2.2.2.1 i (by omega)).2.2.2]
        have hon := (hW.2.2.1 i (by omega)).2
        refine tz_iconst C_ (v := 1) (by decide) td_M_output_29 ?_
        refine tz_icmp_ne C_ td_M_output_30 (fun h30 => ?_) (fun h30 => ?_)
        · skip
          refine tz_iinc C_ (k := 1) (v := nI (i + 1)) (lv' := [(0, .ref M), (1, .int (nI k)), (2, .int (nI (i + 1)))]) 2 rfl (nI_1 i) [1, 2, 0] (by decide) rfl td_M_output_38 ?_
          refine tz_goto C_ td_M_output_41 ?_
          exact ih7 roL maL nsL tgL (i + 1) fL (by rw [(show tz_rn t.2.2.1 t.1 (t.1 k).1 (t.1 k).2 (-1) (i + 1) = (tz_rn t.2.2.1 t.1 (t.1 k).1 (t.1 k).2 (-1) i) from by simp only [tz_rn]; rw [if_pos (hon.resolve_right h30)])]; exact ⟨hM1.1, hM1.2.1, hM1.2.2.1, hM1.2.2.2.1, hM1.2.2.2.2.1, hM1.2.2.2.2.2.1, hM1.2.2.2.2.2.2.1, hM1.2.2.2.2.2.2.2.1, hM1.2.2.2.2.2.2.2.2⟩) (fun q hh => by rw [hfr q (by omega)]) (by omega) (by rw [(show tz_rn t.2.2.1 t.1 (t.1 k).1 (t.1 k).2 (-1) (i + 1) = (tz_rn t.2.2.1 t.1 (t.1 k).1 (t.1 k).2 (-1) i) from by simp only [tz_rn]; rw [if_pos (hon.resolve_right h30)])]; exact her) (by omega)
        · skip
          refine tz_aload_n C_ 0 rfl rfl td_M_output_33 ?_
          refine tz_iload_n C_ 2 rfl rfl td_M_output_34 ?_
          refine tz_cV C_ tmi_M_work tw_954 tw_29 tw_952 hM1.1 rfl (As := [.int (nI i)]) (by exact (ct_M_work ⟨hM1.1, hM1.2.1, hM1.2.2.1, hM1.2.2.2.1, hM1.2.2.2.2.1, hM1.2.2.2.2.2.1, hM1.2.2.2.2.2.2.1, hM1.2.2.2.2.2.2.2.1, hM1.2.2.2.2.2.2.2.2⟩ her hok.1 hok.2 hE hW (q := i) (by omega))) rfl (rest := []) rfl (by decide) (Nat.le_of_ble_eq_true rfl) td_M_output_35 (st1 := []) rfl (fun f2 hF2 => ?_)
          obtain ⟨⟨roW, maW, nsW, tgW, hMW, herW⟩, hqW⟩ := hF2
          refine tz_iinc C_ (k := 1) (v := nI (i + 1)) (lv' := [(0, .ref M), (1, .int (nI k)), (2, .int (nI (i + 1)))]) 2 rfl (nI_1 i) [1, 2, 0] (by decide) rfl td_M_output_38 ?_
          refine tz_goto C_ td_M_output_41 ?_
          exact ih7 roW maW nsW tgW (i + 1) f2 (by rw [(show tz_rn t.2.2.1 t.1 (t.1 k).1 (t.1 k).2 (-1) (i + 1) = ((tz_fx (t.2.2.1 i) t.1 (tz_rn t.2.2.1 t.1 (t.1 k).1 (t.1 k).2 (-1) i).1 (tz_rn t.2.2.1 t.1 (t.1 k).1 (t.1 k).2 (-1) i).2.1).1, (tz_fx (t.2.2.1 i) t.1 (tz_rn t.2.2.1 t.1 (t.1 k).1 (t.1 k).2 (-1) i).1 (tz_rn t.2.2.1 t.1 (t.1 k).1 (t.1 k).2 (-1) i).2.1).2, tz_ff (t.2.2.1 i) (tz_rn t.2.2.1 t.1 (t.1 k).1 (t.1 k).2 (-1) i).1 (tz_rn t.2.2.1 t.1 (t.1 k).1 (t.1 k).2 (-1) i).2.1 (tz_rn t.2.2.1 t.1 (t.1 k).1 (t.1 k).2 (-1) i).2.2) from by simp only [tz_rn]; rw [if_neg (by rw [h30]; decide)])]; exact ⟨hMW.1, hMW.2.1, hMW.2.2.1, hMW.2.2.2.1, hMW.2.2.2.2.1, hMW.2.2.2.2.2.1, hMW.2.2.2.2.2.2.1, hMW.2.2.2.2.2.2.2.1, hMW.2.2.2.2.2.2.2.2⟩) (fun q hh => by rw [hqW q (by omega), hfr q (by omega)]) (by omega) (by rw [(show tz_rn t.2.2.1 t.1 (t.1 k).1 (t.1 k).2 (-1) (i + 1) = ((tz_fx (t.2.2.1 i) t.1 (tz_rn t.2.2.1 t.1 (t.1 k).1 (t.1 k).2 (-1) i).1 (tz_rn t.2.2.1 t.1 (t.1 k).1 (t.1 k).2 (-1) i).2.1).1, (tz_fx (t.2.2.1 i) t.1 (tz_rn t.2.2.1 t.1 (t.1 k).1 (t.1 k).2 (-1) i).1 (tz_rn t.2.2.1 t.1 (t.1 k).1 (t.1 k).2 (-1) i).2.1).2, tz_ff (t.2.2.1 i) (tz_rn t.2.2.1 t.1 (t.1 k).1 (t.1 k).2 (-1) i).1 (tz_rn t.2.2.1 t.1 (t.1 k).1 (t.1 k).2 (-1) i).2.1 (tz_rn t.2.2.1 t.1 (t.1 k).1 (t.1 k).2 (-1) i).2.2) from by simp only [tz_rn]; rw [if_neg (by rw [h30]; decide)])]; exact herW) (by omega)
  exact loop7 _ roT ma ns tg 0 f1 (⟨hMT.1, hMT.2.1, hMT.2.2.1, hMT.2.2.2.1, hMT.2.2.2.2.1, hMT.2.2.2.2.2.1, hMT.2.2.2.2.2.2.1, hMT.2.2.2.2.2.2.2.1, hMT.2.2.2.2.2.2.2.2⟩) (fun q hh => by rw [hqT q (by omega)]) (Nat.zero_le _) herT (Nat.lt_succ_self _)
