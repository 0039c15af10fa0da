abbrev rm_M_work : Room := { frames := 6, cells := 0, slots := 0, locals := 145 }
set_option maxHeartbeats 4000000 in
set_option maxRecDepth 100000 in
theorem ct_M_work {l : Launch} {A : Nat → Prop} {D : va_G} {cs : Nat → ClassId} {sz : Nat} {f : tz_PH} {M kp n : Nat} {fn ns tg : Int32} {nw pa bi nu sh ro ma ca : Nat → Int32} (hM : tz_MB cs f M kp fn (nI n) ns tg nw pa bi nu sh ro ma ca) {g : Nat → Int32} (hr : tz_er ro n g) (hk : tz_okr n g) (hn : n ≤ 120) {t : tz_TS} (hE : tz_en nw t) (hW : tz_WT t) {q : Nat} (hq : q < t.2.1) : tz_CN l tyM_work prog_13_method_50_code 3 (none) rm_M_work 0 0 A D cs sz [.ref M, .int (nI q)] f (none) (fun f' => (∃ (ro' ma' : Nat → Int32) (ns' tg' : Int32), tz_MB cs f' M kp fn (nI ((tz_fx (t.2.2.1 q) t.1 n g).1)) (ns') (tg') nw pa bi nu sh (ro') (ma') ca ∧ tz_er ro' ((tz_fx (t.2.2.1 q) t.1 n g).1) ((tz_fx (t.2.2.1 q) t.1 n g).2)) ∧ ∀ q, (q < M ∨ M + 9 ≤ q) → f' q = f q) := by
  refine tz_C.ofB (lv0 := [(0, .ref M), (1, .int (nI q))]) (plainFor_of_name (by decide)) (Nat.le_of_ble_eq_true rfl) rfl ?_
  intro p_ e_ s_ m_ ar_ be_ me_ c_ Q_ C_ hr_ hk_ hnm_ hz_ hQ_
  have hE4 := hE.2.2.2.1 q hq
  have hc := (hW.2.2.1 q hq).1
  have hl8 := hW.2.1
  refine tz_aload_n C_ 0 rfl rfl td_M_work_0 ?_
  refine tz_get C_ tci_M 0 (by decide) tw_753 hM.1 rfl td_M_work_1 ?_
  refine tz_sipush C_ (v := 496) (by decide) td_M_work_4 ?_
  refine tz_iload_n C_ 1 rfl rfl td_M_work_7 ?_
  refine tz_iadd C_ td_M_work_8 ?_
  rw [show (496 + (nI q) : Int32) = nI (496 + q) from nI_add (496) (q)]
  refine tz_ialdN C_ hM.2.1 (by omega) (by decide) td_M_work_9 ?_
  rw [hE4.2.1]
  refine tz_istore_n C_ (lv' := [(0, .ref M), (1, .int (nI q)), (2, .int ((t.2.2.1 q).2.1))]) [1, 2, 0] rfl (by decide) rfl td_M_work_10 ?_
  refine tz_aload_n C_ 0 rfl rfl td_M_work_11 ?_
  refine tz_get C_ tci_M 0 (by decide) tw_753 hM.1 rfl td_M_work_12 ?_
  refine tz_sipush C_ (v := 488) (by decide) td_M_work_15 ?_
  refine tz_iload_n C_ 1 rfl rfl td_M_work_18 ?_
  refine tz_iadd C_ td_M_work_19 ?_
  rw [show (488 + (nI q) : Int32) = nI (488 + q) from nI_add (488) (q)]
  refine tz_ialdN C_ hM.2.1 (by omega) (by decide) td_M_work_20 ?_
  rw [hE4.1]
  by_cases h21_0 : (t.2.2.1 q).1 = 0
  · skip
    refine tz_tableIn C_ td_M_work_21 (off := 39) (tgt := 60) (by rw [h21_0]; decide) (by decide) ?_
    refine tz_aload_n C_ 0 rfl rfl td_M_work_60 ?_
    refine tz_iload_n C_ 2 rfl rfl td_M_work_61 ?_
    refine tz_cV C_ tmi_M_gain tw_958 tw_30 tw_956 hM.1 rfl (As := [.int ((t.2.2.1 q).2.1)]) (by exact (ct_M_gain ⟨hM.1, hM.2.1, hM.2.2.1, hM.2.2.2.1, hM.2.2.2.2.1, hM.2.2.2.2.2.1, hM.2.2.2.2.2.2.1, hM.2.2.2.2.2.2.2.1, hM.2.2.2.2.2.2.2.2⟩ hr hk hn )) rfl (rest := []) rfl (by decide) (Nat.le_of_ble_eq_true rfl) td_M_work_62 (st1 := []) rfl (fun f1 hF1 => ?_)
    obtain ⟨⟨roW, maW, nsW, tgW, hMW, herW⟩, hqW⟩ := hF1
    refine tz_goto C_ td_M_work_65 ?_
    refine tz_rvret C_ hr_ hk_ hQ_ rfl td_M_work_133 ?_
    have e9 : tz_fx (t.2.2.1 q) t.1 n g = (n, fun j => tz_gn (t.2.2.1 q).2.1 (g j)) := by unfold tz_fx; rw [if_pos h21_0]
    rw [e9]
    exact ⟨rfl, ⟨roW, maW, nsW, tgW, hMW, herW⟩, (fun q hh => by rw [hqW q (by omega)])⟩
  by_cases h21_1 : (t.2.2.1 q).1 = 1
  · skip
    refine tz_tableIn C_ td_M_work_21 (off := 47) (tgt := 68) (by rw [h21_1]; decide) (by decide) ?_
    refine tz_aload_n C_ 0 rfl rfl td_M_work_68 ?_
    refine tz_iload_n C_ 2 rfl rfl td_M_work_69 ?_
    refine tz_cV C_ tmi_M_mend tw_965 tw_31 tw_963 hM.1 rfl (As := [.int ((t.2.2.1 q).2.1)]) (by exact (ct_M_mend ⟨hM.1, hM.2.1, hM.2.2.1, hM.2.2.2.1, hM.2.2.2.2.1, hM.2.2.2.2.2.1, hM.2.2.2.2.2.2.1, hM.2.2.2.2.2.2.2.1, hM.2.2.2.2.2.2.2.2⟩ hr hk hn )) rfl (rest := []) rfl (by decide) (Nat.le_of_ble_eq_true rfl) td_M_work_70 (st1 := []) rfl (fun f2 hF2 => ?_)
    obtain ⟨⟨roW, maW, nsW, tgW, hMW, herW⟩, hqW⟩ := hF2
    refine tz_goto C_ td_M_work_73 ?_
    refine tz_rvret C_ hr_ hk_ hQ_ rfl td_M_work_133 ?_
    have e9 : tz_fx (t.2.2.1 q) t.1 n g = (n, tz_md n g (t.2.2.1 q).2.1) := by unfold tz_fx; rw [if_neg h21_0, if_pos h21_1]
    rw [e9]
    exact ⟨rfl, ⟨roW, maW, nsW, tgW, hMW, herW⟩, (fun q hh => by rw [hqW q (by omega)])⟩
  by_cases h21_2 : (t.2.2.1 q).1 = 2
  · skip
    refine tz_tableIn C_ td_M_work_21 (off := 55) (tgt := 76) (by rw [h21_2]; decide) (by decide) ?_
    refine tz_aload_n C_ 0 rfl rfl td_M_work_76 ?_
    refine tz_iload_n C_ 2 rfl rfl td_M_work_77 ?_
    refine tz_aload_n C_ 0 rfl rfl td_M_work_78 ?_
    refine tz_get C_ tci_M 0 (by decide) tw_753 hM.1 rfl td_M_work_79 ?_
    refine tz_sipush C_ (v := 504) (by decide) td_M_work_82 ?_
    refine tz_iload_n C_ 1 rfl rfl td_M_work_85 ?_
    refine tz_iadd C_ td_M_work_86 ?_
    rw [show (504 + (nI q) : Int32) = nI (504 + q) from nI_add (504) (q)]
    refine tz_ialdN C_ hM.2.1 (by omega) (by decide) td_M_work_87 ?_
    obtain ⟨pp, ww, hpp, hww, epp, eww⟩ := tz_can2 hc h21_2
    rw [hE4.2.2.1, epp, eww]
    refine tz_cV C_ tmi_M_fill tw_973 tw_33 tw_971 hM.1 rfl (As := [.int (nI pp), .int (nI ww)]) (by exact (ct_M_fill ⟨hM.1, hM.2.1, hM.2.2.1, hM.2.2.2.1, hM.2.2.2.2.1, hM.2.2.2.2.2.1, hM.2.2.2.2.2.2.1, hM.2.2.2.2.2.2.2.1, hM.2.2.2.2.2.2.2.2⟩ hr hk hn hE hW (k := pp) (by omega) (w := ww) (by omega))) rfl (rest := []) rfl (by decide) (Nat.le_of_ble_eq_true rfl) td_M_work_88 (st1 := []) rfl (fun f3 hF3 => ?_)
    obtain ⟨⟨roW, maW, nsW, tgW, hMW, herW⟩, hqW⟩ := hF3
    refine tz_goto C_ td_M_work_91 ?_
    refine tz_rvret C_ hr_ hk_ hQ_ rfl td_M_work_133 ?_
    have e9 : tz_fx (t.2.2.1 q) t.1 n g = (n, tz_fi g n (t.1 pp).1 (t.1 pp).2 ww) := by unfold tz_fx; rw [if_neg h21_0, if_neg h21_1, if_pos h21_2]; rw [epp, eww, nI_clamp (by omega), nI_clamp (by omega)]
    rw [e9]
    exact ⟨rfl, ⟨roW, maW, nsW, tgW, hMW, herW⟩, (fun q hh => by rw [hqW q (by omega)])⟩
  by_cases h21_3 : (t.2.2.1 q).1 = 3
  · skip
    refine tz_tableIn C_ td_M_work_21 (off := 73) (tgt := 94) (by rw [h21_3]; decide) (by decide) ?_
    refine tz_aload_n C_ 0 rfl rfl td_M_work_94 ?_
    refine tz_iload_n C_ 2 rfl rfl td_M_work_95 ?_
    refine tz_cV C_ tmi_M_bridge tw_987 tw_36 tw_985 hM.1 rfl (As := [.int ((t.2.2.1 q).2.1)]) (by exact (ct_M_bridge ⟨hM.1, hM.2.1, hM.2.2.1, hM.2.2.2.1, hM.2.2.2.2.1, hM.2.2.2.2.2.1, hM.2.2.2.2.2.2.1, hM.2.2.2.2.2.2.2.1, hM.2.2.2.2.2.2.2.2⟩ hr hk hn )) rfl (rest := []) rfl (by decide) (Nat.le_of_ble_eq_true rfl) td_M_work_96 (st1 := []) rfl (fun f4 hF4 => ?_)
    obtain ⟨⟨roW, maW, nsW, tgW, hMW, herW⟩, hqW⟩ := hF4
    refine tz_goto C_ td_M_work_99 ?_
    refine tz_rvret C_ hr_ hk_ hQ_ rfl td_M_work_133 ?_
    have e9 : tz_fx (t.2.2.1 q) t.1 n g = (n, tz_br n g (t.2.2.1 q).2.1) := by unfold tz_fx; rw [if_neg h21_0, if_neg h21_1, if_neg h21_2, if_pos h21_3]
    rw [e9]
    exact ⟨rfl, ⟨roW, maW, nsW, tgW, hMW, herW⟩, (fun q hh => by rw [hqW q (by omega)])⟩
  by_cases h21_4 : (t.2.2.1 q).1 = 4
  · skip
    refine tz_tableIn C_ td_M_work_21 (off := 81) (tgt := 102) (by rw [h21_4]; decide) (by decide) ?_
    refine tz_aload_n C_ 0 rfl rfl td_M_work_102 ?_
    refine tz_iload_n C_ 2 rfl rfl td_M_work_103 ?_
    obtain ⟨vv, hvv, evv⟩ := tz_can4 hc h21_4
    rw [evv]
    refine tz_cV C_ tmi_M_warp tw_992 tw_37 tw_990 hM.1 rfl (As := [.int (nI vv)]) (by exact (ct_M_warp ⟨hM.1, hM.2.1, hM.2.2.1, hM.2.2.2.1, hM.2.2.2.2.1, hM.2.2.2.2.2.1, hM.2.2.2.2.2.2.1, hM.2.2.2.2.2.2.2.1, hM.2.2.2.2.2.2.2.2⟩ hr hk hn (v := vv) hvv)) rfl (rest := []) rfl (by decide) (Nat.le_of_ble_eq_true rfl) td_M_work_104 (st1 := []) rfl (fun f5 hF5 => ?_)
    obtain ⟨⟨roW, maW, nsW, tgW, hMW, herW⟩, hqW⟩ := hF5
    refine tz_goto C_ td_M_work_107 ?_
    refine tz_rvret C_ hr_ hk_ hQ_ rfl td_M_work_133 ?_
    have e9 : tz_fx (t.2.2.1 q) t.1 n g = (tz_wn n g vv, tz_wg n g vv) := by unfold tz_fx; rw [if_neg h21_0, if_neg h21_1, if_neg h21_2, if_neg h21_3, if_pos h21_4]; rw [evv, nI_clamp (by omega)]
    rw [e9]
    exact ⟨rfl, ⟨roW, maW, nsW, tgW, hMW, herW⟩, (fun q hh => by rw [hqW q (by omega)])⟩
  by_cases h21_5 : (t.2.2.1 q).1 = 5
  · skip
    refine tz_tableIn C_ td_M_work_21 (off := 89) (tgt := 110) (by rw [h21_5]; decide) (by decide) ?_
    refine tz_aload_n C_ 0 rfl rfl td_M_work_110 ?_
    refine tz_iload_n C_ 2 rfl rfl td_M_work_111 ?_
    refine tz_aload_n C_ 0 rfl rfl td_M_work_112 ?_
    refine tz_get C_ tci_M 0 (by decide) tw_753 hM.1 rfl td_M_work_113 ?_
    refine tz_sipush C_ (v := 504) (by decide) td_M_work_116 ?_
    refine tz_iload_n C_ 1 rfl rfl td_M_work_119 ?_
    refine tz_iadd C_ td_M_work_120 ?_
    rw [show (504 + (nI q) : Int32) = nI (504 + q) from nI_add (504) (q)]
    refine tz_ialdN C_ hM.2.1 (by omega) (by decide) td_M_work_121 ?_
    rw [hE4.2.2.1]
    refine tz_cV C_ tmi_M_cut tw_997 tw_38 tw_995 hM.1 rfl (As := [.int ((t.2.2.1 q).2.1), .int ((t.2.2.1 q).2.2.1)]) (by exact (ct_M_cut ⟨hM.1, hM.2.1, hM.2.2.1, hM.2.2.2.1, hM.2.2.2.2.1, hM.2.2.2.2.2.1, hM.2.2.2.2.2.2.1, hM.2.2.2.2.2.2.2.1, hM.2.2.2.2.2.2.2.2⟩ hr hk hn )) rfl (rest := []) rfl (by decide) (Nat.le_of_ble_eq_true rfl) td_M_work_122 (st1 := []) rfl (fun f6 hF6 => ?_)
    obtain ⟨⟨roW, maW, nsW, tgW, hMW, herW⟩, hqW⟩ := hF6
    refine tz_goto C_ td_M_work_125 ?_
    refine tz_rvret C_ hr_ hk_ hQ_ rfl td_M_work_133 ?_
    have e9 : tz_fx (t.2.2.1 q) t.1 n g = (tz_ct (tz_kp (t.2.2.1 q).2.1 (t.2.2.1 q).2.2.1) n, fun j => g (tz_nth (tz_kp (t.2.2.1 q).2.1 (t.2.2.1 q).2.2.1) n j)) := by unfold tz_fx; rw [if_neg h21_0, if_neg h21_1, if_neg h21_2, if_neg h21_3, if_neg h21_4, if_pos h21_5]
    rw [e9]
    exact ⟨rfl, ⟨roW, maW, nsW, tgW, hMW, herW⟩, (fun q hh => by rw [hqW q (by omega)])⟩
  refine tz_tableOut C_ td_M_work_21 (tgt := 128) (by decide) ?_ ?_
  · skip
    have := lv_neT h21_0 (show (0 : Int32).toInt = 0 by decide)
    have := lv_neT h21_1 (show (1 : Int32).toInt = 1 by decide)
    have := lv_neT h21_2 (show (2 : Int32).toInt = 2 by decide)
    have := lv_neT h21_3 (show (3 : Int32).toInt = 3 by decide)
    have := lv_neT h21_4 (show (4 : Int32).toInt = 4 by decide)
    have := lv_neT h21_5 (show (5 : Int32).toInt = 5 by decide)
    omega
  refine tz_aload_n C_ 0 rfl rfl td_M_work_128 ?_
  refine tz_iload_n C_ 2 rfl rfl td_M_work_129 ?_
  refine tz_cV C_ tmi_M_fade tw_1001 tw_39 tw_999 hM.1 rfl (As := [.int ((t.2.2.1 q).2.1)]) (by exact (ct_M_fade ⟨hM.1, hM.2.1, hM.2.2.1, hM.2.2.2.1, hM.2.2.2.2.1, hM.2.2.2.2.2.1, hM.2.2.2.2.2.2.1, hM.2.2.2.2.2.2.2.1, hM.2.2.2.2.2.2.2.2⟩ hr hk hn (tz_can6 hc h21_0 h21_1 h21_2 h21_3 h21_4 h21_5).2)) rfl (rest := []) rfl (by decide) (Nat.le_of_ble_eq_true rfl) td_M_work_130 (st1 := []) rfl (fun f7 hF7 => ?_)
  obtain ⟨⟨roW, maW, nsW, tgW, hMW, herW⟩, hqW⟩ := hF7
  refine tz_rvret C_ hr_ hk_ hQ_ rfl td_M_work_133 ?_
  have e9 : tz_fx (t.2.2.1 q) t.1 n g = (n, tz_fa g (t.2.2.1 q).2.1) := by unfold tz_fx; rw [if_neg h21_0, if_neg h21_1, if_neg h21_2, if_neg h21_3, if_neg h21_4, if_neg h21_5]
  rw [e9]
  exact ⟨rfl, ⟨roW, maW, nsW, tgW, hMW, herW⟩, (fun q hh => by rw [hqW q (by omega)])⟩
