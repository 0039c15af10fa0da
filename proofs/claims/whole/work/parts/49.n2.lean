abbrev rm_M_warp : Room := { frames := 2, cells := 0, slots := 0, locals := 44 }
set_option maxHeartbeats 4000000 in
set_option maxRecDepth 100000 in
theorem ct_M_warp {l : Launch} {A : Nat → Prop} {D : va_G} {cs : Nat → ClassId} {sz : Nat} {f : tz_PH} {M kp n : Nat} {fn ns tg : Int32} {nw pa bi nu sh ro ma ca : Nat → Int32} (hM : tz_MB cs f M kp fn (nI n) ns tg nw pa bi nu sh ro ma ca) {g : Nat → Int32} (hr : tz_er ro n g) (hk : tz_okr n g) (hn : n ≤ 120) {v : Nat} (hv : 1 ≤ v ∧ v ≤ 30) : tz_CN l tyM_warp prog_13_method_47_code 9 (none) rm_M_warp 0 0 A D cs sz [.ref M, .int (nI v)] f (none) (fun f' => (∃ (ro' ma' : Nat → Int32) (ns' tg' : Int32), tz_MB cs f' M kp fn (nI ((tz_wn n g v))) (ns') (tg') nw pa bi nu sh (ro') (ma') ca ∧ tz_er ro' ((tz_wn n g v)) ((tz_wg n g v))) ∧ ∀ q, (q < M ∨ M + 9 ≤ q) → f' q = f q) := by
  refine tz_C.ofB (lv0 := [(0, .ref M), (1, .int (nI v))]) (plainFor_of_name (by decide)) (Nat.le_of_ble_eq_true rfl) rfl ?_
  intro p_ e_ s_ m_ ar_ be_ me_ c_ Q_ C_ hr_ hk_ hnm_ hz_ hQ_
  have hv0 : ¬ (nI v = 0) := fun z => absurd ((nI_eq (a := v) (b := 0) (by omega) (by omega)).mp z) (by omega)
  have hTn : tz_T n g ≤ n := tz_ct_le (tz_tp n g) n
  have hwl := tz_wl_le (n := n) (g := g) (v := v)
  refine tz_aload_n C_ 0 rfl rfl td_M_warp_0 ?_
  refine tz_rV C_ tmi_M_turns tw_853 tw_20 tw_851 hM.1 rfl (As := []) (by exact (ct_M_turns ⟨hM.1, hM.2.1, hM.2.2.1, hM.2.2.2.1, hM.2.2.2.2.1, hM.2.2.2.2.2.1, hM.2.2.2.2.2.2.1, hM.2.2.2.2.2.2.2.1, hM.2.2.2.2.2.2.2.2⟩ hr hk hn)) rfl (rest := []) rfl (by decide) (Nat.le_of_ble_eq_true rfl) td_M_warp_1 (st1 := [.int (nI (tz_T n g))]) rfl ?_
  refine tz_istore_n C_ (lv' := [(0, .ref M), (1, .int (nI v)), (2, .int (nI (tz_T n g)))]) [1, 2, 0] rfl (by decide) rfl td_M_warp_4 ?_
  refine tz_iload_n C_ 2 rfl rfl td_M_warp_5 ?_
  refine tz_iconst C_ (v := 2) (by decide) td_M_warp_6 ?_
  refine tz_icmp_ge C_ td_M_warp_7 (fun h7 => ?_) (fun h7 => ?_)
  · skip
    replace h7 := (nI_leI (a := 2) (b := tz_T n g) (by omega) (by omega)).mp h7
    replace h7 := Nat.not_lt.mpr h7
    refine tz_aload_n C_ 0 rfl rfl td_M_warp_11 ?_
    refine tz_bipush C_ (v := 120) (by decide) td_M_warp_12 ?_
    refine tz_iload_n C_ 1 rfl rfl td_M_warp_14 ?_
    refine tz_iload_n C_ 2 rfl rfl td_M_warp_15 ?_
    refine tz_iconst C_ (v := 1) (by decide) td_M_warp_16 ?_
    refine tz_isub C_ td_M_warp_17 ?_
    refine tz_imul C_ td_M_warp_18 ?_
    refine tz_iconst C_ (v := 1) (by decide) td_M_warp_19 ?_
    refine tz_iadd C_ td_M_warp_20 ?_
    refine tz_rS C_ tmi_J_min tw_305 tw_994 (As := [.int 120, .int (((nI v) * ((nI (tz_T n g)) - 1)) + 1)]) (by exact ct_J_min) rfl (rest := [.ref M]) rfl (by decide) (Nat.le_of_ble_eq_true rfl) td_M_warp_21 (st1 := [.int (tz_mn 120 (((nI v) * ((nI (tz_T n g)) - 1)) + 1)), .ref M]) rfl ?_
    rw [show tz_mn 120 ((((nI v) * ((nI (tz_T n g)) - 1)) + 1)) = nI (tz_wl n g v) from by rw [Int32.mul_comm]; exact tz_len_eq hn hv.2 h7]
    refine tz_wput C_ tci_M 9 (by decide) tw_762 rfl hM.1 (Nat.le_of_ble_eq_true rfl) ⟨rfl, rfl⟩ (fs' := [.ref (M + 1), .ref (M + 2), .int (nI kp), .int fn, .ref (M + 3), .ref (M + 4), .ref (M + 5), .int (nI n), .ref (M + 6), .int (nI (tz_wl n g v)), .ref (M + 7), .ref (M + 8), .int tg]) rfl td_M_warp_24 (fun f1 hs1 hq1 => ?_)
    refine tz_iconst C_ (v := 0) (by decide) td_M_warp_27 ?_
    refine tz_istore_n C_ (lv' := [(0, .ref M), (1, .int (nI v)), (2, .int (nI (tz_T n g))), (3, .int 0)]) [1, 2, 3, 0] rfl (by decide) rfl td_M_warp_28 ?_
    have k2 : f1 (M + 1) = some (tz_ints cs 532 nw) := ((hq1 _ (by omega)).trans hM.2.1)
    have k3 : f1 (M + 2) = some (tz_ints cs 10640 pa) := ((hq1 _ (by omega)).trans hM.2.2.1)
    have k4 : f1 (M + 3) = some (tz_ints cs 4 bi) := ((hq1 _ (by omega)).trans hM.2.2.2.1)
    have k5 : f1 (M + 4) = some (tz_ints cs 4 nu) := ((hq1 _ (by omega)).trans hM.2.2.2.2.1)
    have k6 : f1 (M + 5) = some (tz_ints cs 480 sh) := ((hq1 _ (by omega)).trans hM.2.2.2.2.2.1)
    have k7 : f1 (M + 6) = some (tz_ints cs 120 ro) := ((hq1 _ (by omega)).trans hM.2.2.2.2.2.2.1)
    have k8 : f1 (M + 7) = some (tz_ints cs 120 ma) := ((hq1 _ (by omega)).trans hM.2.2.2.2.2.2.2.1)
    have k9 : f1 (M + 8) = some (tz_ints cs 120 ca) := ((hq1 _ (by omega)).trans hM.2.2.2.2.2.2.2.2)
    have loop29 : ∀ (kk29 : Nat) (tt : Nat) (fL : tz_PH), (tz_MB cs fL M kp fn (nI n) (nI (tz_wl n g v)) tg nw pa bi nu sh ro ((tz_fl (fun j => tz_mo (tz_wv n g (tz_T n g) (tz_tg n g) (nI j) (nI v))) ma tt)) ca) → (∀ q, (q < M ∨ M + 9 ≤ q) → fL q = f q) → (tt ≤ tz_wl n g v) → (tz_wl n g v - tt) < kk29 → tz_V p_ l e_ rm_M_warp s_ m_ ar_ be_ me_ c_ Q_ A D 9 fL sz 0 0 29 [(0, .ref M), (1, .int (nI v)), (2, .int (nI (tz_T n g))), (3, .int (nI tt))] [] := by
      intro kk29
      induction kk29 with
      | zero => intro tt fL hM1 hfr hi hm29; omega
      | succ kk29 ih29 =>
        intro tt fL hM1 hfr hi hm29
        refine tz_iload_n C_ 3 rfl rfl td_M_warp_29 ?_
        refine tz_aload_n C_ 0 rfl rfl td_M_warp_30 ?_
        refine tz_get C_ tci_M 9 (by decide) tw_762 hM1.1 rfl td_M_warp_31 ?_
        refine tz_icmp_ge C_ td_M_warp_34 (fun h34 => ?_) (fun h34 => ?_)
        · skip
          replace h34 := (nI_leI (a := tz_wl n g v) (b := tt) (by omega) (by omega)).mp h34
          refine tz_aload_n C_ 0 rfl rfl td_M_warp_194 ?_
          refine tz_cV C_ tmi_M_takeMade tw_969 tw_32 tw_967 hM1.1 rfl (As := []) (by exact (ct_M_takeMade ⟨hM1.1, hM1.2.1, hM1.2.2.1, hM1.2.2.2.1, hM1.2.2.2.2.1, hM1.2.2.2.2.2.1, hM1.2.2.2.2.2.2.1, hM1.2.2.2.2.2.2.2.1, hM1.2.2.2.2.2.2.2.2⟩ (by omega))) rfl (rest := []) rfl (by decide) (Nat.le_of_ble_eq_true rfl) td_M_warp_195 (st1 := []) rfl (fun f10 hF10 => ?_)
          obtain ⟨hT11, hq11⟩ := hF10
          refine tz_rvret C_ hr_ hk_ hQ_ rfl td_M_warp_198 ?_
          have e9 : tt = tz_wl n g v := by omega
          have e8 : tz_wn n g v = tz_wl n g v := by unfold tz_wn; rw [if_neg h7]
          rw [e8]
          exact ⟨rfl, ⟨_, _, _, _, ⟨hT11.1, hT11.2.1, hT11.2.2.1, hT11.2.2.2.1, hT11.2.2.2.2.1, hT11.2.2.2.2.2.1, hT11.2.2.2.2.2.2.1, hT11.2.2.2.2.2.2.2.1, hT11.2.2.2.2.2.2.2.2⟩, fun j hj => by rw [tz_fl_in hj, tz_fl_in (by omega)]; unfold tz_wg; rw [if_neg h7]⟩, (fun q hh => by rw [hq11 q (by omega), hfr q (by omega)])⟩
        · skip
          replace h34 := mt (nI_leI (a := tz_wl n g v) (b := tt) (by omega) (by omega)).mpr h34
          refine tz_iload_n C_ 3 rfl rfl td_M_warp_37 ?_
          refine tz_iload_n C_ 1 rfl rfl td_M_warp_38 ?_
          refine tz_idiv C_ hv0 td_M_warp_39 ?_
          rw [show ((nI tt) / (nI v) : Int32) = nI (tt / v) from pk_div (a := tt) (d := v) (by omega) (by omega) (by omega)]
          refine tz_istore C_ (lv' := [(0, .ref M), (1, .int (nI v)), (2, .int (nI (tz_T n g))), (3, .int (nI tt)), (4, .int (nI (tt / v)))]) [1, 2, 3, 4, 0] (by decide) rfl td_M_warp_40 ?_
          obtain ⟨h120, hq1, hq2⟩ := tz_wpf hn hv h7 (show tt < tz_wl n g v by omega)
          have hmod : tt % v < v := Nat.mod_lt _ (by omega)
          have hF0 := tz_F_in hq1
          have hq0 : tt / v ≤ tt := Nat.div_le_self _ _
          refine tz_aload_n C_ 0 rfl rfl td_M_warp_42 ?_
          refine tz_iload C_ 4 rfl td_M_warp_43 ?_
          refine tz_rV C_ tmi_M_turnAt tw_869 tw_23 tw_867 hM1.1 rfl (As := [.int (nI (tt / v))]) (by exact (ct_M_turnAt ⟨hM1.1, hM1.2.1, hM1.2.2.1, hM1.2.2.2.1, hM1.2.2.2.2.1, hM1.2.2.2.2.2.1, hM1.2.2.2.2.2.2.1, hM1.2.2.2.2.2.2.2.1, hM1.2.2.2.2.2.2.2.2⟩ hr hk hn (w := (tt / v)) (by omega))) rfl (rest := []) rfl (by decide) (Nat.le_of_ble_eq_true rfl) td_M_warp_45 (st1 := [.int (tz_tua n g (tt / v))]) rfl ?_
          rw [tz_tua_N hq1]
          refine tz_istore C_ (lv' := [(0, .ref M), (1, .int (nI v)), (2, .int (nI (tz_T n g))), (3, .int (nI tt)), (4, .int (nI (tt / v))), (5, .int (nI (tz_F n g (tt / v))))]) [1, 2, 3, 4, 5, 0] (by decide) rfl td_M_warp_48 ?_
          refine tz_iload_n C_ 3 rfl rfl td_M_warp_50 ?_
          refine tz_iload_n C_ 1 rfl rfl td_M_warp_51 ?_
          refine tz_irem C_ hv0 td_M_warp_52 ?_
          rw [show ((nI tt) - (nI tt) / (nI v) * (nI v) : Int32) = nI (tt % v) from pk_rem (a := tt) (d := v) (by omega) (by omega) (by omega)]
          refine tz_if_ne C_ td_M_warp_53 (fun h53 => ?_) (fun h53 => ?_)
          · skip
            replace h53 := mt (nI_eq (a := tt % v) (b := 0) (by omega) (by omega)).mpr h53
            obtain ⟨w1, w2, w3, w4⟩ := tz_wpg hn hv (hq2 h53)
            have hwv := tz_wv_B (g := g) hn hv h120 (hq2 h53) h53 rfl rfl
            have hmw : (tt % v * ((tz_F n g (tt / v + 1)) - (tz_F n g (tt / v)))) % v < v := Nat.mod_lt _ (by omega)
            refine tz_iload_n C_ 3 rfl rfl td_M_warp_60 ?_
            refine tz_iload_n C_ 1 rfl rfl td_M_warp_61 ?_
            refine tz_irem C_ hv0 td_M_warp_62 ?_
            rw [show ((nI tt) - (nI tt) / (nI v) * (nI v) : Int32) = nI (tt % v) from pk_rem (a := tt) (d := v) (by omega) (by omega) (by omega)]
            refine tz_aload_n C_ 0 rfl rfl td_M_warp_63 ?_
            refine tz_iload C_ 4 rfl td_M_warp_64 ?_
            refine tz_iconst C_ (v := 1) (by decide) td_M_warp_66 ?_
            refine tz_iadd C_ td_M_warp_67 ?_
            rw [show ((nI (tt / v)) + 1 : Int32) = nI (tt / v + 1) from nI_add (tt / v) (1)]
            refine tz_rV C_ tmi_M_turnAt tw_869 tw_23 tw_867 hM1.1 rfl (As := [.int (nI (tt / v + 1))]) (by exact (ct_M_turnAt ⟨hM1.1, hM1.2.1, hM1.2.2.1, hM1.2.2.2.1, hM1.2.2.2.2.1, hM1.2.2.2.2.2.1, hM1.2.2.2.2.2.2.1, hM1.2.2.2.2.2.2.2.1, hM1.2.2.2.2.2.2.2.2⟩ hr hk hn (w := (tt / v + 1)) (by omega))) rfl (rest := [.int (nI (tt % v))]) rfl (by decide) (Nat.le_of_ble_eq_true rfl) td_M_warp_68 (st1 := [.int (tz_tua n g (tt / v + 1)), .int (nI (tt % v))]) rfl ?_
            rw [tz_tua_N (hq2 h53)]
            refine tz_iload C_ 5 rfl td_M_warp_71 ?_
            refine tz_isub C_ td_M_warp_73 ?_
            rw [show ((nI (tz_F n g (tt / v + 1))) - (nI (tz_F n g (tt / v))) : Int32) = nI (tz_F n g (tt / v + 1) - (tz_F n g (tt / v))) from pk_sub (a := tz_F n g (tt / v + 1)) (b := tz_F n g (tt / v)) (by omega)]
            refine tz_imul C_ td_M_warp_74 ?_
            rw [show ((nI (tt % v)) * (nI (tz_F n g (tt / v + 1) - (tz_F n g (tt / v)))) : Int32) = nI ((tt % v) * (tz_F n g (tt / v + 1) - (tz_F n g (tt / v)))) from pk_mul (tt % v) (tz_F n g (tt / v + 1) - (tz_F n g (tt / v)))]
            refine tz_istore C_ (lv' := [(0, .ref M), (1, .int (nI v)), (2, .int (nI (tz_T n g))), (3, .int (nI tt)), (4, .int (nI (tt / v))), (5, .int (nI (tz_F n g (tt / v)))), (6, .int (nI ((tt % v) * (tz_F n g (tt / v + 1) - (tz_F n g (tt / v))))))]) [1, 2, 3, 4, 5, 6, 0] (by decide) rfl td_M_warp_75 ?_
            refine tz_iload C_ 5 rfl td_M_warp_77 ?_
            refine tz_iload C_ 6 rfl td_M_warp_79 ?_
            refine tz_iload_n C_ 1 rfl rfl td_M_warp_81 ?_
            refine tz_idiv C_ hv0 td_M_warp_82 ?_
            rw [show ((nI ((tt % v) * (tz_F n g (tt / v + 1) - (tz_F n g (tt / v))))) / (nI v) : Int32) = nI (((tt % v) * (tz_F n g (tt / v + 1) - (tz_F n g (tt / v)))) / v) from pk_div (a := (tt % v) * (tz_F n g (tt / v + 1) - (tz_F n g (tt / v)))) (d := v) (by omega) (by omega) (by omega)]
            refine tz_iadd C_ td_M_warp_83 ?_
            rw [show ((nI (tz_F n g (tt / v))) + (nI (((tt % v) * (tz_F n g (tt / v + 1) - (tz_F n g (tt / v)))) / v)) : Int32) = nI (tz_F n g (tt / v) + (((tt % v) * (tz_F n g (tt / v + 1) - (tz_F n g (tt / v)))) / v)) from nI_add (tz_F n g (tt / v)) (((tt % v) * (tz_F n g (tt / v + 1) - (tz_F n g (tt / v)))) / v)]
            refine tz_istore C_ (lv' := [(0, .ref M), (1, .int (nI v)), (2, .int (nI (tz_T n g))), (3, .int (nI tt)), (4, .int (nI (tt / v))), (5, .int (nI (tz_F n g (tt / v)))), (6, .int (nI ((tt % v) * (tz_F n g (tt / v + 1) - (tz_F n g (tt / v)))))), (7, .int (nI (tz_F n g (tt / v) + (((tt % v) * (tz_F n g (tt / v + 1) - (tz_F n g (tt / v)))) / v))))]) [1, 2, 3, 4, 5, 6, 7, 0] (by decide) rfl td_M_warp_84 ?_
            refine tz_iload C_ 6 rfl td_M_warp_86 ?_
            refine tz_iload_n C_ 1 rfl rfl td_M_warp_88 ?_
            refine tz_irem C_ hv0 td_M_warp_89 ?_
            rw [show ((nI ((tt % v) * (tz_F n g (tt / v + 1) - (tz_F n g (tt / v))))) - (nI ((tt % v) * (tz_F n g (tt / v + 1) - (tz_F n g (tt / v))))) / (nI v) * (nI v) : Int32) = nI (((tt % v) * (tz_F n g (tt / v + 1) - (tz_F n g (tt / v)))) % v) from pk_rem (a := (tt % v) * (tz_F n g (tt / v + 1) - (tz_F n g (tt / v)))) (d := v) (by omega) (by omega) (by omega)]
            refine tz_istore C_ (lv' := [(0, .ref M), (1, .int (nI v)), (2, .int (nI (tz_T n g))), (3, .int (nI tt)), (4, .int (nI (tt / v))), (5, .int (nI (tz_F n g (tt / v)))), (6, .int (nI ((tt % v) * (tz_F n g (tt / v + 1) - (tz_F n g (tt / v)))))), (7, .int (nI (tz_F n g (tt / v) + (((tt % v) * (tz_F n g (tt / v + 1) - (tz_F n g (tt / v)))) / v)))), (8, .int (nI (((tt % v) * (tz_F n g (tt / v + 1) - (tz_F n g (tt / v)))) % v)))]) [1, 2, 3, 4, 5, 6, 7, 8, 0] (by decide) rfl td_M_warp_90 ?_
            refine tz_iload C_ 8 rfl td_M_warp_92 ?_
            refine tz_if_ne C_ td_M_warp_94 (fun h94 => ?_) (fun h94 => ?_)
            · skip
              replace h94 := mt (nI_eq (a := ((tt % v) * (tz_F n g (tt / v + 1) - (tz_F n g (tt / v)))) % v) (b := 0) (by omega) (by omega)).mpr h94
              refine tz_aload_n C_ 0 rfl rfl td_M_warp_113 ?_
              refine tz_get C_ tci_M 8 (by decide) tw_761 hM1.1 rfl td_M_warp_114 ?_
              refine tz_iload C_ 7 rfl td_M_warp_117 ?_
              refine tz_ialdN C_ hM1.2.2.2.2.2.2.1 (by omega) (by decide) td_M_warp_119 ?_
              refine tz_ldc C_ tw_829 td_M_warp_120 ?_
              refine tz_icmp_eq C_ td_M_warp_122 (fun h122 => ?_) (fun h122 => ?_)
              · skip
                refine tz_aload_n C_ 0 rfl rfl td_M_warp_139 ?_
                refine tz_get C_ tci_M 10 (by decide) tw_763 hM1.1 rfl td_M_warp_140 ?_
                refine tz_iload_n C_ 3 rfl rfl td_M_warp_143 ?_
                refine tz_ldc C_ tw_829 td_M_warp_144 ?_
                refine tz_wiastN C_ hM1.2.2.2.2.2.2.2.1 (by omega) (by decide) (g' := upd ((tz_fl (fun j => tz_mo (tz_wv n g (tz_T n g) (tz_tg n g) (nI j) (nI v))) ma tt)) tt 1000000) rfl td_M_warp_146 (fun f12 hs12 hq12 => ?_)
                refine tz_goto C_ td_M_warp_147 ?_
                refine tz_iinc C_ (k := 1) (v := nI (tt + 1)) (lv' := [(0, .ref M), (1, .int (nI v)), (2, .int (nI (tz_T n g))), (3, .int (nI (tt + 1))), (4, .int (nI (tt / v))), (5, .int (nI (tz_F n g (tt / v)))), (6, .int (nI ((tt % v) * (tz_F n g (tt / v + 1) - (tz_F n g (tt / v)))))), (7, .int (nI (tz_F n g (tt / v) + (((tt % v) * (tz_F n g (tt / v + 1) - (tz_F n g (tt / v)))) / v)))), (8, .int (nI (((tt % v) * (tz_F n g (tt / v + 1) - (tz_F n g (tt / v)))) % v)))]) 3 rfl (nI_1 tt) [1, 2, 3, 0, 4, 5, 6, 7, 8] (by decide) rfl td_M_warp_188 ?_
                refine tz_goto C_ td_M_warp_191 ?_
                have k13 : f12 M = some (tz_obj 11 [.ref (M + 1), .ref (M + 2), .int (nI kp), .int fn, .ref (M + 3), .ref (M + 4), .ref (M + 5), .int (nI n), .ref (M + 6), .int (nI (tz_wl n g v)), .ref (M + 7), .ref (M + 8), .int tg]) := ((hq12 _ (by omega)).trans hM1.1)
                have k14 : f12 (M + 1) = some (tz_ints cs 532 nw) := ((hq12 _ (by omega)).trans hM1.2.1)
                have k15 : f12 (M + 2) = some (tz_ints cs 10640 pa) := ((hq12 _ (by omega)).trans hM1.2.2.1)
                have k16 : f12 (M + 3) = some (tz_ints cs 4 bi) := ((hq12 _ (by omega)).trans hM1.2.2.2.1)
                have k17 : f12 (M + 4) = some (tz_ints cs 4 nu) := ((hq12 _ (by omega)).trans hM1.2.2.2.2.1)
                have k18 : f12 (M + 5) = some (tz_ints cs 480 sh) := ((hq12 _ (by omega)).trans hM1.2.2.2.2.2.1)
                have k19 : f12 (M + 6) = some (tz_ints cs 120 ro) := ((hq12 _ (by omega)).trans hM1.2.2.2.2.2.2.1)
                have k20 : f12 (M + 8) = some (tz_ints cs 120 ca) := ((hq12 _ (by omega)).trans hM1.2.2.2.2.2.2.2.2)
                refine tz_lvs [0, 1, 2, 3] rfl ?_
                exact ih29 (tt + 1) f12 (⟨k13, k14, k15, k16, k17, k18, k19, tz_flN hs12 (by rw [hwv, if_neg h94, if_pos (Or.inl ((tz_er_lo hr hk (by omega)).mp h122)), tz_mo, if_pos rfl]), k20⟩) (fun q hh => by rw [hq12 q (by omega), hfr q (by omega)]) (by omega) (by omega)
              · skip
                refine tz_aload_n C_ 0 rfl rfl td_M_warp_125 ?_
                refine tz_get C_ tci_M 8 (by decide) tw_761 hM1.1 rfl td_M_warp_126 ?_
                refine tz_iload C_ 7 rfl td_M_warp_129 ?_
                refine tz_iconst C_ (v := 1) (by decide) td_M_warp_131 ?_
                refine tz_iadd C_ td_M_warp_132 ?_
                rw [show ((nI (tz_F n g (tt / v) + (((tt % v) * (tz_F n g (tt / v + 1) - (tz_F n g (tt / v)))) / v))) + 1 : Int32) = nI (tz_F n g (tt / v) + (((tt % v) * (tz_F n g (tt / v + 1) - (tz_F n g (tt / v)))) / v) + 1) from nI_add (tz_F n g (tt / v) + (((tt % v) * (tz_F n g (tt / v + 1) - (tz_F n g (tt / v)))) / v)) (1)]
                refine tz_ialdN C_ hM1.2.2.2.2.2.2.1 (by omega) (by decide) td_M_warp_133 ?_
                refine tz_ldc C_ tw_829 td_M_warp_134 ?_
                refine tz_icmp_ne C_ td_M_warp_136 (fun h136 => ?_) (fun h136 => ?_)
                · skip
                  refine tz_aload_n C_ 0 rfl rfl td_M_warp_150 ?_
                  refine tz_get C_ tci_M 10 (by decide) tw_763 hM1.1 rfl td_M_warp_151 ?_
                  refine tz_iload_n C_ 3 rfl rfl td_M_warp_154 ?_
                  refine tz_aload_n C_ 0 rfl rfl td_M_warp_155 ?_
                  refine tz_get C_ tci_M 8 (by decide) tw_761 hM1.1 rfl td_M_warp_156 ?_
                  refine tz_iload C_ 7 rfl td_M_warp_159 ?_
                  refine tz_ialdN C_ hM1.2.2.2.2.2.2.1 (by omega) (by decide) td_M_warp_161 ?_
                  refine tz_iload C_ 8 rfl td_M_warp_162 ?_
                  refine tz_aload_n C_ 0 rfl rfl td_M_warp_164 ?_
                  refine tz_get C_ tci_M 8 (by decide) tw_761 hM1.1 rfl td_M_warp_165 ?_
                  refine tz_iload C_ 7 rfl td_M_warp_168 ?_
                  refine tz_iconst C_ (v := 1) (by decide) td_M_warp_170 ?_
                  refine tz_iadd C_ td_M_warp_171 ?_
                  rw [show ((nI (tz_F n g (tt / v) + (((tt % v) * (tz_F n g (tt / v + 1) - (tz_F n g (tt / v)))) / v))) + 1 : Int32) = nI (tz_F n g (tt / v) + (((tt % v) * (tz_F n g (tt / v + 1) - (tz_F n g (tt / v)))) / v) + 1) from nI_add (tz_F n g (tt / v) + (((tt % v) * (tz_F n g (tt / v + 1) - (tz_F n g (tt / v)))) / v)) (1)]
                  refine tz_ialdN C_ hM1.2.2.2.2.2.2.1 (by omega) (by decide) td_M_warp_172 ?_
                  refine tz_aload_n C_ 0 rfl rfl td_M_warp_173 ?_
                  refine tz_get C_ tci_M 8 (by decide) tw_761 hM1.1 rfl td_M_warp_174 ?_
                  refine tz_iload C_ 7 rfl td_M_warp_177 ?_
                  refine tz_ialdN C_ hM1.2.2.2.2.2.2.1 (by omega) (by decide) td_M_warp_179 ?_
                  refine tz_isub C_ td_M_warp_180 ?_
                  refine tz_imul C_ td_M_warp_181 ?_
                  refine tz_iload_n C_ 1 rfl rfl td_M_warp_182 ?_
                  refine tz_rS C_ tmi_J_floorDiv tw_618 tw_989 (As := [.int ((nI (((tt % v) * (tz_F n g (tt / v + 1) - (tz_F n g (tt / v)))) % v)) * ((ro ((tz_F n g (tt / v) + (((tt % v) * (tz_F n g (tt / v + 1) - (tz_F n g (tt / v)))) / v) + 1))) - (ro ((tz_F n g (tt / v) + (((tt % v) * (tz_F n g (tt / v + 1) - (tz_F n g (tt / v)))) / v)))))), .int (nI v)]) (by exact (ct_J_floorDiv hv0)) rfl (rest := [.int (ro ((tz_F n g (tt / v) + (((tt % v) * (tz_F n g (tt / v + 1) - (tz_F n g (tt / v)))) / v)))), .int (nI tt), .ref (M + 7)]) rfl (by decide) (Nat.le_of_ble_eq_true rfl) td_M_warp_183 (st1 := [.int (tz_fd ((nI (((tt % v) * (tz_F n g (tt / v + 1) - (tz_F n g (tt / v)))) % v)) * ((ro ((tz_F n g (tt / v) + (((tt % v) * (tz_F n g (tt / v + 1) - (tz_F n g (tt / v)))) / v) + 1))) - (ro ((tz_F n g (tt / v) + (((tt % v) * (tz_F n g (tt / v + 1) - (tz_F n g (tt / v)))) / v)))))) (nI v)), .int (ro ((tz_F n g (tt / v) + (((tt % v) * (tz_F n g (tt / v + 1) - (tz_F n g (tt / v)))) / v)))), .int (nI tt), .ref (M + 7)]) rfl ?_
                  refine tz_iadd C_ td_M_warp_186 ?_
                  refine tz_wiastN C_ hM1.2.2.2.2.2.2.2.1 (by omega) (by decide) (g' := upd ((tz_fl (fun j => tz_mo (tz_wv n g (tz_T n g) (tz_tg n g) (nI j) (nI v))) ma tt)) tt ((ro ((tz_F n g (tt / v) + (((tt % v) * (tz_F n g (tt / v + 1) - (tz_F n g (tt / v)))) / v)))) + (tz_fd ((nI (((tt % v) * (tz_F n g (tt / v + 1) - (tz_F n g (tt / v)))) % v)) * ((ro ((tz_F n g (tt / v) + (((tt % v) * (tz_F n g (tt / v + 1) - (tz_F n g (tt / v)))) / v) + 1))) - (ro ((tz_F n g (tt / v) + (((tt % v) * (tz_F n g (tt / v + 1) - (tz_F n g (tt / v)))) / v)))))) (nI v)))) rfl td_M_warp_187 (fun f21 hs21 hq21 => ?_)
                  refine tz_iinc C_ (k := 1) (v := nI (tt + 1)) (lv' := [(0, .ref M), (1, .int (nI v)), (2, .int (nI (tz_T n g))), (3, .int (nI (tt + 1))), (4, .int (nI (tt / v))), (5, .int (nI (tz_F n g (tt / v)))), (6, .int (nI ((tt % v) * (tz_F n g (tt / v + 1) - (tz_F n g (tt / v)))))), (7, .int (nI (tz_F n g (tt / v) + (((tt % v) * (tz_F n g (tt / v + 1) - (tz_F n g (tt / v)))) / v)))), (8, .int (nI (((tt % v) * (tz_F n g (tt / v + 1) - (tz_F n g (tt / v)))) % v)))]) 3 rfl (nI_1 tt) [1, 2, 3, 0, 4, 5, 6, 7, 8] (by decide) rfl td_M_warp_188 ?_
                  refine tz_goto C_ td_M_warp_191 ?_
                  have k22 : f21 M = some (tz_obj 11 [.ref (M + 1), .ref (M + 2), .int (nI kp), .int fn, .ref (M + 3), .ref (M + 4), .ref (M + 5), .int (nI n), .ref (M + 6), .int (nI (tz_wl n g v)), .ref (M + 7), .ref (M + 8), .int tg]) := ((hq21 _ (by omega)).trans hM1.1)
                  have k23 : f21 (M + 1) = some (tz_ints cs 532 nw) := ((hq21 _ (by omega)).trans hM1.2.1)
                  have k24 : f21 (M + 2) = some (tz_ints cs 10640 pa) := ((hq21 _ (by omega)).trans hM1.2.2.1)
                  have k25 : f21 (M + 3) = some (tz_ints cs 4 bi) := ((hq21 _ (by omega)).trans hM1.2.2.2.1)
                  have k26 : f21 (M + 4) = some (tz_ints cs 4 nu) := ((hq21 _ (by omega)).trans hM1.2.2.2.2.1)
                  have k27 : f21 (M + 5) = some (tz_ints cs 480 sh) := ((hq21 _ (by omega)).trans hM1.2.2.2.2.2.1)
                  have k28 : f21 (M + 6) = some (tz_ints cs 120 ro) := ((hq21 _ (by omega)).trans hM1.2.2.2.2.2.2.1)
                  have k29 : f21 (M + 8) = some (tz_ints cs 120 ca) := ((hq21 _ (by omega)).trans hM1.2.2.2.2.2.2.2.2)
                  refine tz_lvs [0, 1, 2, 3] rfl ?_
                  exact ih29 (tt + 1) f21 (⟨k22, k23, k24, k25, k26, k27, k28, tz_flN hs21 (by rw [hwv, if_neg h94, if_neg (not_or.mpr ⟨mt (tz_er_lo hr hk (by omega)).mpr h122, mt (tz_er_lo hr hk (by omega)).mpr h136⟩), tz_er_v hr (by omega) (mt (tz_er_lo hr hk (by omega)).mpr h122), tz_er_v hr (by omega) (mt (tz_er_lo hr hk (by omega)).mpr h136), tz_mo_id (tz_wv_rg hk (by omega) (mt (tz_er_lo hr hk (by omega)).mpr h122) (mt (tz_er_lo hr hk (by omega)).mpr h136) hmw hv.2).2]), k29⟩) (fun q hh => by rw [hq21 q (by omega), hfr q (by omega)]) (by omega) (by omega)
                · skip
                  refine tz_aload_n C_ 0 rfl rfl td_M_warp_139 ?_
                  refine tz_get C_ tci_M 10 (by decide) tw_763 hM1.1 rfl td_M_warp_140 ?_
                  refine tz_iload_n C_ 3 rfl rfl td_M_warp_143 ?_
                  refine tz_ldc C_ tw_829 td_M_warp_144 ?_
                  refine tz_wiastN C_ hM1.2.2.2.2.2.2.2.1 (by omega) (by decide) (g' := upd ((tz_fl (fun j => tz_mo (tz_wv n g (tz_T n g) (tz_tg n g) (nI j) (nI v))) ma tt)) tt 1000000) rfl td_M_warp_146 (fun f30 hs30 hq30 => ?_)
                  refine tz_goto C_ td_M_warp_147 ?_
                  refine tz_iinc C_ (k := 1) (v := nI (tt + 1)) (lv' := [(0, .ref M), (1, .int (nI v)), (2, .int (nI (tz_T n g))), (3, .int (nI (tt + 1))), (4, .int (nI (tt / v))), (5, .int (nI (tz_F n g (tt / v)))), (6, .int (nI ((tt % v) * (tz_F n g (tt / v + 1) - (tz_F n g (tt / v)))))), (7, .int (nI (tz_F n g (tt / v) + (((tt % v) * (tz_F n g (tt / v + 1) - (tz_F n g (tt / v)))) / v)))), (8, .int (nI (((tt % v) * (tz_F n g (tt / v + 1) - (tz_F n g (tt / v)))) % v)))]) 3 rfl (nI_1 tt) [1, 2, 3, 0, 4, 5, 6, 7, 8] (by decide) rfl td_M_warp_188 ?_
                  refine tz_goto C_ td_M_warp_191 ?_
                  have k31 : f30 M = some (tz_obj 11 [.ref (M + 1), .ref (M + 2), .int (nI kp), .int fn, .ref (M + 3), .ref (M + 4), .ref (M + 5), .int (nI n), .ref (M + 6), .int (nI (tz_wl n g v)), .ref (M + 7), .ref (M + 8), .int tg]) := ((hq30 _ (by omega)).trans hM1.1)
                  have k32 : f30 (M + 1) = some (tz_ints cs 532 nw) := ((hq30 _ (by omega)).trans hM1.2.1)
                  have k33 : f30 (M + 2) = some (tz_ints cs 10640 pa) := ((hq30 _ (by omega)).trans hM1.2.2.1)
                  have k34 : f30 (M + 3) = some (tz_ints cs 4 bi) := ((hq30 _ (by omega)).trans hM1.2.2.2.1)
                  have k35 : f30 (M + 4) = some (tz_ints cs 4 nu) := ((hq30 _ (by omega)).trans hM1.2.2.2.2.1)
                  have k36 : f30 (M + 5) = some (tz_ints cs 480 sh) := ((hq30 _ (by omega)).trans hM1.2.2.2.2.2.1)
                  have k37 : f30 (M + 6) = some (tz_ints cs 120 ro) := ((hq30 _ (by omega)).trans hM1.2.2.2.2.2.2.1)
                  have k38 : f30 (M + 8) = some (tz_ints cs 120 ca) := ((hq30 _ (by omega)).trans hM1.2.2.2.2.2.2.2.2)
                  refine tz_lvs [0, 1, 2, 3] rfl ?_
                  exact ih29 (tt + 1) f30 (⟨k31, k32, k33, k34, k35, k36, k37, tz_flN hs30 (by rw [hwv, if_neg h94, if_pos (Or.inr ((tz_er_lo hr hk (by omega)).mp h136)), tz_mo, if_pos rfl]), k38⟩) (fun q hh => by rw [hq30 q (by omega), hfr q (by omega)]) (by omega) (by omega)
            · skip
              replace h94 := (nI_eq (a := ((tt % v) * (tz_F n g (tt / v + 1) - (tz_F n g (tt / v)))) % v) (b := 0) (by omega) (by omega)).mp h94
              refine tz_aload_n C_ 0 rfl rfl td_M_warp_97 ?_
              refine tz_get C_ tci_M 10 (by decide) tw_763 hM1.1 rfl td_M_warp_98 ?_
              refine tz_iload_n C_ 3 rfl rfl td_M_warp_101 ?_
              refine tz_aload_n C_ 0 rfl rfl td_M_warp_102 ?_
              refine tz_get C_ tci_M 8 (by decide) tw_761 hM1.1 rfl td_M_warp_103 ?_
              refine tz_iload C_ 7 rfl td_M_warp_106 ?_
              refine tz_ialdN C_ hM1.2.2.2.2.2.2.1 (by omega) (by decide) td_M_warp_108 ?_
              refine tz_wiastN C_ hM1.2.2.2.2.2.2.2.1 (by omega) (by decide) (g' := upd ((tz_fl (fun j => tz_mo (tz_wv n g (tz_T n g) (tz_tg n g) (nI j) (nI v))) ma tt)) tt (ro ((tz_F n g (tt / v) + (((tt % v) * (tz_F n g (tt / v + 1) - (tz_F n g (tt / v)))) / v))))) rfl td_M_warp_109 (fun f39 hs39 hq39 => ?_)
              refine tz_goto C_ td_M_warp_110 ?_
              refine tz_iinc C_ (k := 1) (v := nI (tt + 1)) (lv' := [(0, .ref M), (1, .int (nI v)), (2, .int (nI (tz_T n g))), (3, .int (nI (tt + 1))), (4, .int (nI (tt / v))), (5, .int (nI (tz_F n g (tt / v)))), (6, .int (nI ((tt % v) * (tz_F n g (tt / v + 1) - (tz_F n g (tt / v)))))), (7, .int (nI (tz_F n g (tt / v) + (((tt % v) * (tz_F n g (tt / v + 1) - (tz_F n g (tt / v)))) / v)))), (8, .int (nI (((tt % v) * (tz_F n g (tt / v + 1) - (tz_F n g (tt / v)))) % v)))]) 3 rfl (nI_1 tt) [1, 2, 3, 0, 4, 5, 6, 7, 8] (by decide) rfl td_M_warp_188 ?_
              refine tz_goto C_ td_M_warp_191 ?_
              have k40 : f39 M = some (tz_obj 11 [.ref (M + 1), .ref (M + 2), .int (nI kp), .int fn, .ref (M + 3), .ref (M + 4), .ref (M + 5), .int (nI n), .ref (M + 6), .int (nI (tz_wl n g v)), .ref (M + 7), .ref (M + 8), .int tg]) := ((hq39 _ (by omega)).trans hM1.1)
              have k41 : f39 (M + 1) = some (tz_ints cs 532 nw) := ((hq39 _ (by omega)).trans hM1.2.1)
              have k42 : f39 (M + 2) = some (tz_ints cs 10640 pa) := ((hq39 _ (by omega)).trans hM1.2.2.1)
              have k43 : f39 (M + 3) = some (tz_ints cs 4 bi) := ((hq39 _ (by omega)).trans hM1.2.2.2.1)
              have k44 : f39 (M + 4) = some (tz_ints cs 4 nu) := ((hq39 _ (by omega)).trans hM1.2.2.2.2.1)
              have k45 : f39 (M + 5) = some (tz_ints cs 480 sh) := ((hq39 _ (by omega)).trans hM1.2.2.2.2.2.1)
              have k46 : f39 (M + 6) = some (tz_ints cs 120 ro) := ((hq39 _ (by omega)).trans hM1.2.2.2.2.2.2.1)
              have k47 : f39 (M + 8) = some (tz_ints cs 120 ca) := ((hq39 _ (by omega)).trans hM1.2.2.2.2.2.2.2.2)
              refine tz_lvs [0, 1, 2, 3] rfl ?_
              exact ih29 (tt + 1) f39 (⟨k40, k41, k42, k43, k44, k45, k46, tz_flN hs39 (by rw [hwv, if_pos h94]; exact hr _ (by omega)), k47⟩) (fun q hh => by rw [hq39 q (by omega), hfr q (by omega)]) (by omega) (by omega)
          · skip
            replace h53 := (nI_eq (a := tt % v) (b := 0) (by omega) (by omega)).mp h53
            have hz1 : 0 % v = 0 := Nat.zero_mod v
            have hz2 : 0 / v = 0 := Nat.zero_div v
            refine tz_iconst C_ (v := 0) (by decide) td_M_warp_56 ?_
            refine tz_goto C_ td_M_warp_57 ?_
            refine tz_istore C_ (lv' := [(0, .ref M), (1, .int (nI v)), (2, .int (nI (tz_T n g))), (3, .int (nI tt)), (4, .int (nI (tt / v))), (5, .int (nI (tz_F n g (tt / v)))), (6, .int 0)]) [1, 2, 3, 4, 5, 6, 0] (by decide) rfl td_M_warp_75 ?_
            refine tz_iload C_ 5 rfl td_M_warp_77 ?_
            refine tz_iload C_ 6 rfl td_M_warp_79 ?_
            refine tz_iload_n C_ 1 rfl rfl td_M_warp_81 ?_
            refine tz_idiv C_ hv0 td_M_warp_82 ?_
            rw [show (0 / (nI v) : Int32) = nI (0 / v) from pk_div (a := 0) (d := v) (by omega) (by omega) (by omega)]
            refine tz_iadd C_ td_M_warp_83 ?_
            rw [show ((nI (tz_F n g (tt / v))) + (nI (0 / v)) : Int32) = nI (tz_F n g (tt / v) + (0 / v)) from nI_add (tz_F n g (tt / v)) (0 / v)]
            refine tz_istore C_ (lv' := [(0, .ref M), (1, .int (nI v)), (2, .int (nI (tz_T n g))), (3, .int (nI tt)), (4, .int (nI (tt / v))), (5, .int (nI (tz_F n g (tt / v)))), (6, .int 0), (7, .int (nI (tz_F n g (tt / v) + (0 / v))))]) [1, 2, 3, 4, 5, 6, 7, 0] (by decide) rfl td_M_warp_84 ?_
            refine tz_iload C_ 6 rfl td_M_warp_86 ?_
            refine tz_iload_n C_ 1 rfl rfl td_M_warp_88 ?_
            refine tz_irem C_ hv0 td_M_warp_89 ?_
            rw [show (0 - 0 / (nI v) * (nI v) : Int32) = nI (0 % v) from pk_rem (a := 0) (d := v) (by omega) (by omega) (by omega)]
            refine tz_istore C_ (lv' := [(0, .ref M), (1, .int (nI v)), (2, .int (nI (tz_T n g))), (3, .int (nI tt)), (4, .int (nI (tt / v))), (5, .int (nI (tz_F n g (tt / v)))), (6, .int 0), (7, .int (nI (tz_F n g (tt / v) + (0 / v)))), (8, .int (nI (0 % v)))]) [1, 2, 3, 4, 5, 6, 7, 8, 0] (by decide) rfl td_M_warp_90 ?_
            refine tz_iload C_ 8 rfl td_M_warp_92 ?_
            refine tz_if_ne C_ td_M_warp_94 (fun h94 => ?_) (fun h94 => ?_)
            · skip
              replace h94 := mt (nI_eq (a := 0 % v) (b := 0) (by omega) (by omega)).mpr h94
              exact absurd hz1 h94
            · skip
              replace h94 := (nI_eq (a := 0 % v) (b := 0) (by omega) (by omega)).mp h94
              refine tz_aload_n C_ 0 rfl rfl td_M_warp_97 ?_
              refine tz_get C_ tci_M 10 (by decide) tw_763 hM1.1 rfl td_M_warp_98 ?_
              refine tz_iload_n C_ 3 rfl rfl td_M_warp_101 ?_
              refine tz_aload_n C_ 0 rfl rfl td_M_warp_102 ?_
              refine tz_get C_ tci_M 8 (by decide) tw_761 hM1.1 rfl td_M_warp_103 ?_
              refine tz_iload C_ 7 rfl td_M_warp_106 ?_
              refine tz_ialdN C_ hM1.2.2.2.2.2.2.1 (by omega) (by decide) td_M_warp_108 ?_
              refine tz_wiastN C_ hM1.2.2.2.2.2.2.2.1 (by omega) (by decide) (g' := upd ((tz_fl (fun j => tz_mo (tz_wv n g (tz_T n g) (tz_tg n g) (nI j) (nI v))) ma tt)) tt (ro ((tz_F n g (tt / v) + (0 / v))))) rfl td_M_warp_109 (fun f48 hs48 hq48 => ?_)
              refine tz_goto C_ td_M_warp_110 ?_
              refine tz_iinc C_ (k := 1) (v := nI (tt + 1)) (lv' := [(0, .ref M), (1, .int (nI v)), (2, .int (nI (tz_T n g))), (3, .int (nI (tt + 1))), (4, .int (nI (tt / v))), (5, .int (nI (tz_F n g (tt / v)))), (6, .int 0), (7, .int (nI (tz_F n g (tt / v) + (0 / v)))), (8, .int (nI (0 % v)))]) 3 rfl (nI_1 tt) [1, 2, 3, 0, 4, 5, 6, 7, 8] (by decide) rfl td_M_warp_188 ?_
              refine tz_goto C_ td_M_warp_191 ?_
              have k49 : f48 M = some (tz_obj 11 [.ref (M + 1), .ref (M + 2), .int (nI kp), .int fn, .ref (M + 3), .ref (M + 4), .ref (M + 5), .int (nI n), .ref (M + 6), .int (nI (tz_wl n g v)), .ref (M + 7), .ref (M + 8), .int tg]) := ((hq48 _ (by omega)).trans hM1.1)
              have k50 : f48 (M + 1) = some (tz_ints cs 532 nw) := ((hq48 _ (by omega)).trans hM1.2.1)
              have k51 : f48 (M + 2) = some (tz_ints cs 10640 pa) := ((hq48 _ (by omega)).trans hM1.2.2.1)
              have k52 : f48 (M + 3) = some (tz_ints cs 4 bi) := ((hq48 _ (by omega)).trans hM1.2.2.2.1)
              have k53 : f48 (M + 4) = some (tz_ints cs 4 nu) := ((hq48 _ (by omega)).trans hM1.2.2.2.2.1)
              have k54 : f48 (M + 5) = some (tz_ints cs 480 sh) := ((hq48 _ (by omega)).trans hM1.2.2.2.2.2.1)
              have k55 : f48 (M + 6) = some (tz_ints cs 120 ro) := ((hq48 _ (by omega)).trans hM1.2.2.2.2.2.2.1)
              have k56 : f48 (M + 8) = some (tz_ints cs 120 ca) := ((hq48 _ (by omega)).trans hM1.2.2.2.2.2.2.2.2)
              refine tz_lvs [0, 1, 2, 3] rfl ?_
              exact ih29 (tt + 1) f48 (⟨k49, k50, k51, k52, k53, k54, k55, tz_flN hs48 (by rw [tz_wv_A hn hv h120 hq1 h53, Nat.zero_div, Nat.add_zero]; exact hr _ hF0), k56⟩) (fun q hh => by rw [hq48 q (by omega), hfr q (by omega)]) (by omega) (by omega)
    exact loop29 _ 0 f1 (⟨hs1, k2, k3, k4, k5, k6, k7, by rw [tz_fl_0]; exact k8, k9⟩) (fun q hh => by rw [hq1 q (by omega)]) (Nat.zero_le _) (Nat.lt_succ_self _)
  · skip
    replace h7 := mt (nI_leI (a := 2) (b := tz_T n g) (by omega) (by omega)).mpr h7
    replace h7 := Nat.not_le.mp h7
    refine tz_rvret C_ hr_ hk_ hQ_ rfl td_M_warp_10 ?_
    have e8 : tz_wn n g v = n := by unfold tz_wn; rw [if_pos h7]
    have e7 : tz_wg n g v = g := by unfold tz_wg; rw [if_pos h7]
    rw [e8, e7]
    exact ⟨rfl, ⟨_, _, _, _, ⟨hM.1, hM.2.1, hM.2.2.1, hM.2.2.2.1, hM.2.2.2.2.1, hM.2.2.2.2.2.1, hM.2.2.2.2.2.2.1, hM.2.2.2.2.2.2.2.1, hM.2.2.2.2.2.2.2.2⟩, hr⟩, (fun q hh => rfl)⟩
