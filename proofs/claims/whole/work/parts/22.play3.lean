
theorem tz_pos_ne {v : Int32} (h : 0 < v) : ¬ v = 0 := fun z => by rw [z] at h; exact Int32.lt_irrefl h
theorem tz_sub_ne {x y : Int32} (h : y < x) : ¬ x - y = 0 := fun z => by
  have e : x = y := by
    have := congrArg (fun q => q + y) z
    simp at this
    exact this
  rw [e] at h; exact Int32.lt_irrefl h
def tz_wv (n : Nat) (g : Nat → Int32) (tn : Nat) (tg : Nat → Int32) (t a : Int32) : Int32 :=
  if t - t / a * a = 0 then tz_at n g (tz_pl tn tg (t / a)) else
  if (t - t / a * a) * (tz_pl tn tg (t / a + 1) - tz_pl tn tg (t / a)) - (t - t / a * a) * (tz_pl tn tg (t / a + 1) - tz_pl tn tg (t / a)) / a * a = 0 then tz_at n g (tz_pl tn tg (t / a) + (t - t / a * a) * (tz_pl tn tg (t / a + 1) - tz_pl tn tg (t / a)) / a) else
  if tz_at n g (tz_pl tn tg (t / a) + (t - t / a * a) * (tz_pl tn tg (t / a + 1) - tz_pl tn tg (t / a)) / a) = tz_LO ∨ tz_at n g (tz_pl tn tg (t / a) + (t - t / a * a) * (tz_pl tn tg (t / a + 1) - tz_pl tn tg (t / a)) / a + 1) = tz_LO then tz_LO else
  tz_at n g (tz_pl tn tg (t / a) + (t - t / a * a) * (tz_pl tn tg (t / a + 1) - tz_pl tn tg (t / a)) / a) + tz_fd (((t - t / a * a) * (tz_pl tn tg (t / a + 1) - tz_pl tn tg (t / a)) - (t - t / a * a) * (tz_pl tn tg (t / a + 1) - tz_pl tn tg (t / a)) / a * a) * (tz_at n g (tz_pl tn tg (t / a) + (t - t / a * a) * (tz_pl tn tg (t / a + 1) - tz_pl tn tg (t / a)) / a + 1) - tz_at n g (tz_pl tn tg (t / a) + (t - t / a * a) * (tz_pl tn tg (t / a + 1) - tz_pl tn tg (t / a)) / a))) a
def tz_fwt (tn : Nat) (tg : Nat → Int32) (v fo k : Int32) : Int32 :=
  if ¬ k = -1 ∧ fo = tz_pl tn tg k then k * v else if ¬ k = -1 ∧ tz_pl tn tg k < tz_pl tn tg (k + 1) then k * v + (fo - tz_pl tn tg k) * v / (tz_pl tn tg (k + 1) - tz_pl tn tg k) else -1
def tz_fw (tn : Nat) (tg : Nat → Int32) (v len fo : Int32) : Int32 :=
  if tz_fwt tn tg v fo (tz_lat tn tg fo tn (-1)) < len then tz_fwt tn tg v fo (tz_lat tn tg fo tn (-1)) else -1

abbrev rm_P_sampleAtTime : Room := { frames := 1, cells := 0, slots := 0, locals := 22 }
set_option maxHeartbeats 4000000 in
set_option maxRecDepth 100000 in
theorem ct_P_sampleAtTime {l : Launch} {A : Nat → Prop} {D : va_G} {cs : Nat → ClassId} {sz : Nat} {f : tz_PH} {a r x k tn n n2 : Nat} {fo z : Int32} {tg g g2 : Nat → Int32} (hP : tz_Pl cs f a r x fo z k tn tg n g n2 g2) (hn : n ≤ 120) (htn : tn ≤ 120) {t v : Int32} (hv : 0 < v) : tz_CN l tyP_sampleAtTime prog_6_method_11_code 10 (some (.int)) rm_P_sampleAtTime 0 0 A D cs sz [.ref a, .int t, .int v] f (some (.int (tz_wv n g tn tg t v))) (fun f' => f' = f) := by
  refine tz_C.ofB (lv0 := [(0, .ref a), (1, .int t), (2, .int v)]) (plainFor_of_name (by decide)) (Nat.le_of_ble_eq_true rfl) rfl ?_
  intro p_ e_ s_ m_ ar_ be_ me_ c_ Q_ C_ hr_ hk_ hnm_ hz_ hQ_
  refine tz_iload_n C_ 2 rfl rfl td_P_sampleAtTime_0 ?_
  refine tz_if_gt C_ td_P_sampleAtTime_1 (fun h1 => ?_) (fun h1 => ?_)
  · skip
    refine tz_aload_n C_ 0 rfl rfl td_P_sampleAtTime_7 ?_
    refine tz_get C_ tci_P 1 (by decide) tw_223 hP.1 rfl td_P_sampleAtTime_8 ?_
    refine tz_iload_n C_ 1 rfl rfl td_P_sampleAtTime_11 ?_
    refine tz_iload_n C_ 2 rfl rfl td_P_sampleAtTime_12 ?_
    refine tz_idiv C_ (tz_pos_ne hv) td_P_sampleAtTime_13 ?_
    refine tz_rV C_ tmi_U_placeAt tw_388 tw_389 tw_630 hP.2.2.1.1 rfl (As := [.int (t / v)]) (by exact (ct_U_placeAt (tn := tn) (tg := tg) ⟨hP.2.2.1.1, hP.2.2.1.2⟩ (by omega))) rfl (rest := []) rfl (by decide) (Nat.le_of_ble_eq_true rfl) td_P_sampleAtTime_14 (st1 := [.int (tz_pl tn tg (t / v))]) rfl ?_
    refine tz_istore_n C_ (lv' := [(0, .ref a), (1, .int t), (2, .int v), (3, .int (tz_pl tn tg (t / v)))]) [1, 2, 3, 0] rfl (by decide) rfl td_P_sampleAtTime_17 ?_
    refine tz_iload_n C_ 1 rfl rfl td_P_sampleAtTime_18 ?_
    refine tz_iload_n C_ 2 rfl rfl td_P_sampleAtTime_19 ?_
    refine tz_irem C_ (tz_pos_ne hv) td_P_sampleAtTime_20 ?_
    refine tz_istore C_ (lv' := [(0, .ref a), (1, .int t), (2, .int v), (3, .int (tz_pl tn tg (t / v))), (4, .int (t - t / v * v))]) [1, 2, 3, 4, 0] (by decide) rfl td_P_sampleAtTime_21 ?_
    refine tz_iload C_ 4 rfl td_P_sampleAtTime_23 ?_
    refine tz_if_ne C_ td_P_sampleAtTime_25 (fun h25 => ?_) (fun h25 => ?_)
    · skip
      refine tz_iload C_ 4 rfl td_P_sampleAtTime_37 ?_
      refine tz_aload_n C_ 0 rfl rfl td_P_sampleAtTime_39 ?_
      refine tz_get C_ tci_P 1 (by decide) tw_223 hP.1 rfl td_P_sampleAtTime_40 ?_
      refine tz_iload_n C_ 1 rfl rfl td_P_sampleAtTime_43 ?_
      refine tz_iload_n C_ 2 rfl rfl td_P_sampleAtTime_44 ?_
      refine tz_idiv C_ (tz_pos_ne hv) td_P_sampleAtTime_45 ?_
      refine tz_iconst C_ (v := 1) (by decide) td_P_sampleAtTime_46 ?_
      refine tz_iadd C_ td_P_sampleAtTime_47 ?_
      refine tz_rV C_ tmi_U_placeAt tw_388 tw_389 tw_630 hP.2.2.1.1 rfl (As := [.int ((t / v) + 1)]) (by exact (ct_U_placeAt (tn := tn) (tg := tg) ⟨hP.2.2.1.1, hP.2.2.1.2⟩ (by omega))) rfl (rest := [.int (t - t / v * v)]) rfl (by decide) (Nat.le_of_ble_eq_true rfl) td_P_sampleAtTime_48 (st1 := [.int (tz_pl tn tg ((t / v) + 1)), .int (t - t / v * v)]) rfl ?_
      refine tz_iload_n C_ 3 rfl rfl td_P_sampleAtTime_51 ?_
      refine tz_isub C_ td_P_sampleAtTime_52 ?_
      refine tz_imul C_ td_P_sampleAtTime_53 ?_
      refine tz_istore C_ (lv' := [(0, .ref a), (1, .int t), (2, .int v), (3, .int (tz_pl tn tg (t / v))), (4, .int (t - t / v * v)), (5, .int ((t - t / v * v) * ((tz_pl tn tg ((t / v) + 1)) - (tz_pl tn tg (t / v)))))]) [1, 2, 3, 4, 5, 0] (by decide) rfl td_P_sampleAtTime_54 ?_
      refine tz_iload_n C_ 3 rfl rfl td_P_sampleAtTime_56 ?_
      refine tz_iload C_ 5 rfl td_P_sampleAtTime_57 ?_
      refine tz_iload_n C_ 2 rfl rfl td_P_sampleAtTime_59 ?_
      refine tz_idiv C_ (tz_pos_ne hv) td_P_sampleAtTime_60 ?_
      refine tz_iadd C_ td_P_sampleAtTime_61 ?_
      refine tz_istore C_ (lv' := [(0, .ref a), (1, .int t), (2, .int v), (3, .int (tz_pl tn tg (t / v))), (4, .int (t - t / v * v)), (5, .int ((t - t / v * v) * ((tz_pl tn tg ((t / v) + 1)) - (tz_pl tn tg (t / v))))), (6, .int ((tz_pl tn tg (t / v)) + (((t - t / v * v) * ((tz_pl tn tg ((t / v) + 1)) - (tz_pl tn tg (t / v)))) / v)))]) [1, 2, 3, 4, 5, 6, 0] (by decide) rfl td_P_sampleAtTime_62 ?_
      refine tz_iload C_ 5 rfl td_P_sampleAtTime_64 ?_
      refine tz_iload_n C_ 2 rfl rfl td_P_sampleAtTime_66 ?_
      refine tz_irem C_ (tz_pos_ne hv) td_P_sampleAtTime_67 ?_
      refine tz_istore C_ (lv' := [(0, .ref a), (1, .int t), (2, .int v), (3, .int (tz_pl tn tg (t / v))), (4, .int (t - t / v * v)), (5, .int ((t - t / v * v) * ((tz_pl tn tg ((t / v) + 1)) - (tz_pl tn tg (t / v))))), (6, .int ((tz_pl tn tg (t / v)) + (((t - t / v * v) * ((tz_pl tn tg ((t / v) + 1)) - (tz_pl tn tg (t / v)))) / v))), (7, .int (((t - t / v * v) * ((tz_pl tn tg ((t / v) + 1)) - (tz_pl tn tg (t / v)))) - ((t - t / v * v) * ((tz_pl tn tg ((t / v) + 1)) - (tz_pl tn tg (t / v)))) / v * v))]) [1, 2, 3, 4, 5, 6, 7, 0] (by decide) rfl td_P_sampleAtTime_68 ?_
      refine tz_iload C_ 7 rfl td_P_sampleAtTime_70 ?_
      refine tz_if_ne C_ td_P_sampleAtTime_72 (fun h72 => ?_) (fun h72 => ?_)
      · skip
        refine tz_aload_n C_ 0 rfl rfl td_P_sampleAtTime_85 ?_
        refine tz_get C_ tci_P 2 (by decide) tw_224 hP.1 rfl td_P_sampleAtTime_86 ?_
        refine tz_iload C_ 6 rfl td_P_sampleAtTime_89 ?_
        refine tz_rV C_ tmi_R_at tw_332 tw_333 tw_577 hP.2.2.2.1.1 rfl (As := [.int ((tz_pl tn tg (t / v)) + (((t - t / v * v) * ((tz_pl tn tg ((t / v) + 1)) - (tz_pl tn tg (t / v)))) / v))]) (by exact (ct_R_at (n := n) (g := g) ⟨hP.2.2.2.1.1, hP.2.2.2.1.2⟩ (by omega))) rfl (rest := []) rfl (by decide) (Nat.le_of_ble_eq_true rfl) td_P_sampleAtTime_91 (st1 := [.int (tz_at n g ((tz_pl tn tg (t / v)) + (((t - t / v * v) * ((tz_pl tn tg ((t / v) + 1)) - (tz_pl tn tg (t / v)))) / v)))]) rfl ?_
        refine tz_istore C_ (lv' := [(0, .ref a), (1, .int t), (2, .int v), (3, .int (tz_pl tn tg (t / v))), (4, .int (t - t / v * v)), (5, .int ((t - t / v * v) * ((tz_pl tn tg ((t / v) + 1)) - (tz_pl tn tg (t / v))))), (6, .int ((tz_pl tn tg (t / v)) + (((t - t / v * v) * ((tz_pl tn tg ((t / v) + 1)) - (tz_pl tn tg (t / v)))) / v))), (7, .int (((t - t / v * v) * ((tz_pl tn tg ((t / v) + 1)) - (tz_pl tn tg (t / v)))) - ((t - t / v * v) * ((tz_pl tn tg ((t / v) + 1)) - (tz_pl tn tg (t / v)))) / v * v)), (8, .int (tz_at n g ((tz_pl tn tg (t / v)) + (((t - t / v * v) * ((tz_pl tn tg ((t / v) + 1)) - (tz_pl tn tg (t / v)))) / v))))]) [1, 2, 3, 4, 5, 6, 7, 8, 0] (by decide) rfl td_P_sampleAtTime_94 ?_
        refine tz_aload_n C_ 0 rfl rfl td_P_sampleAtTime_96 ?_
        refine tz_get C_ tci_P 2 (by decide) tw_224 hP.1 rfl td_P_sampleAtTime_97 ?_
        refine tz_iload C_ 6 rfl td_P_sampleAtTime_100 ?_
        refine tz_iconst C_ (v := 1) (by decide) td_P_sampleAtTime_102 ?_
        refine tz_iadd C_ td_P_sampleAtTime_103 ?_
        refine tz_rV C_ tmi_R_at tw_332 tw_333 tw_577 hP.2.2.2.1.1 rfl (As := [.int (((tz_pl tn tg (t / v)) + (((t - t / v * v) * ((tz_pl tn tg ((t / v) + 1)) - (tz_pl tn tg (t / v)))) / v)) + 1)]) (by exact (ct_R_at (n := n) (g := g) ⟨hP.2.2.2.1.1, hP.2.2.2.1.2⟩ (by omega))) rfl (rest := []) rfl (by decide) (Nat.le_of_ble_eq_true rfl) td_P_sampleAtTime_104 (st1 := [.int (tz_at n g (((tz_pl tn tg (t / v)) + (((t - t / v * v) * ((tz_pl tn tg ((t / v) + 1)) - (tz_pl tn tg (t / v)))) / v)) + 1))]) rfl ?_
        refine tz_istore C_ (lv' := [(0, .ref a), (1, .int t), (2, .int v), (3, .int (tz_pl tn tg (t / v))), (4, .int (t - t / v * v)), (5, .int ((t - t / v * v) * ((tz_pl tn tg ((t / v) + 1)) - (tz_pl tn tg (t / v))))), (6, .int ((tz_pl tn tg (t / v)) + (((t - t / v * v) * ((tz_pl tn tg ((t / v) + 1)) - (tz_pl tn tg (t / v)))) / v))), (7, .int (((t - t / v * v) * ((tz_pl tn tg ((t / v) + 1)) - (tz_pl tn tg (t / v)))) - ((t - t / v * v) * ((tz_pl tn tg ((t / v) + 1)) - (tz_pl tn tg (t / v)))) / v * v)), (8, .int (tz_at n g ((tz_pl tn tg (t / v)) + (((t - t / v * v) * ((tz_pl tn tg ((t / v) + 1)) - (tz_pl tn tg (t / v)))) / v)))), (9, .int (tz_at n g (((tz_pl tn tg (t / v)) + (((t - t / v * v) * ((tz_pl tn tg ((t / v) + 1)) - (tz_pl tn tg (t / v)))) / v)) + 1)))]) [1, 2, 3, 4, 5, 6, 7, 8, 9, 0] (by decide) rfl td_P_sampleAtTime_107 ?_
        refine tz_iload C_ 8 rfl td_P_sampleAtTime_109 ?_
        refine tz_ldc C_ tw_578 td_P_sampleAtTime_111 ?_
        refine tz_icmp_eq C_ td_P_sampleAtTime_113 (fun h113 => ?_) (fun h113 => ?_)
        · skip
          refine tz_ldc C_ tw_578 td_P_sampleAtTime_123 ?_
          refine tz_goto C_ td_P_sampleAtTime_125 ?_
          refine tz_riret C_ hr_ hk_ hQ_ rfl td_P_sampleAtTime_143 ?_
          exact ⟨tz_ri (by unfold tz_wv; grind), rfl⟩
        · skip
          refine tz_iload C_ 9 rfl td_P_sampleAtTime_116 ?_
          refine tz_ldc C_ tw_578 td_P_sampleAtTime_118 ?_
          refine tz_icmp_ne C_ td_P_sampleAtTime_120 (fun h120 => ?_) (fun h120 => ?_)
          · skip
            refine tz_iload C_ 8 rfl td_P_sampleAtTime_128 ?_
            refine tz_iload C_ 7 rfl td_P_sampleAtTime_130 ?_
            refine tz_iload C_ 9 rfl td_P_sampleAtTime_132 ?_
            refine tz_iload C_ 8 rfl td_P_sampleAtTime_134 ?_
            refine tz_isub C_ td_P_sampleAtTime_136 ?_
            refine tz_imul C_ td_P_sampleAtTime_137 ?_
            refine tz_iload_n C_ 2 rfl rfl td_P_sampleAtTime_138 ?_
            refine tz_rS C_ tmi_J_floorDiv tw_618 tw_617 (As := [.int ((((t - t / v * v) * ((tz_pl tn tg ((t / v) + 1)) - (tz_pl tn tg (t / v)))) - ((t - t / v * v) * ((tz_pl tn tg ((t / v) + 1)) - (tz_pl tn tg (t / v)))) / v * v) * ((tz_at n g (((tz_pl tn tg (t / v)) + (((t - t / v * v) * ((tz_pl tn tg ((t / v) + 1)) - (tz_pl tn tg (t / v)))) / v)) + 1)) - (tz_at n g ((tz_pl tn tg (t / v)) + (((t - t / v * v) * ((tz_pl tn tg ((t / v) + 1)) - (tz_pl tn tg (t / v)))) / v))))), .int v]) (by exact (ct_J_floorDiv (tz_pos_ne hv))) rfl (rest := [.int (tz_at n g ((tz_pl tn tg (t / v)) + (((t - t / v * v) * ((tz_pl tn tg ((t / v) + 1)) - (tz_pl tn tg (t / v)))) / v)))]) rfl (by decide) (Nat.le_of_ble_eq_true rfl) td_P_sampleAtTime_139 (st1 := [.int (tz_fd ((((t - t / v * v) * ((tz_pl tn tg ((t / v) + 1)) - (tz_pl tn tg (t / v)))) - ((t - t / v * v) * ((tz_pl tn tg ((t / v) + 1)) - (tz_pl tn tg (t / v)))) / v * v) * ((tz_at n g (((tz_pl tn tg (t / v)) + (((t - t / v * v) * ((tz_pl tn tg ((t / v) + 1)) - (tz_pl tn tg (t / v)))) / v)) + 1)) - (tz_at n g ((tz_pl tn tg (t / v)) + (((t - t / v * v) * ((tz_pl tn tg ((t / v) + 1)) - (tz_pl tn tg (t / v)))) / v))))) v), .int (tz_at n g ((tz_pl tn tg (t / v)) + (((t - t / v * v) * ((tz_pl tn tg ((t / v) + 1)) - (tz_pl tn tg (t / v)))) / v)))]) rfl ?_
            refine tz_iadd C_ td_P_sampleAtTime_142 ?_
            refine tz_riret C_ hr_ hk_ hQ_ rfl td_P_sampleAtTime_143 ?_
            exact ⟨tz_ri (by unfold tz_wv; grind), rfl⟩
          · skip
            refine tz_ldc C_ tw_578 td_P_sampleAtTime_123 ?_
            refine tz_goto C_ td_P_sampleAtTime_125 ?_
            refine tz_riret C_ hr_ hk_ hQ_ rfl td_P_sampleAtTime_143 ?_
            exact ⟨tz_ri (by unfold tz_wv; grind), rfl⟩
      · skip
        refine tz_aload_n C_ 0 rfl rfl td_P_sampleAtTime_75 ?_
        refine tz_get C_ tci_P 2 (by decide) tw_224 hP.1 rfl td_P_sampleAtTime_76 ?_
        refine tz_iload C_ 6 rfl td_P_sampleAtTime_79 ?_
        refine tz_rV C_ tmi_R_at tw_332 tw_333 tw_577 hP.2.2.2.1.1 rfl (As := [.int ((tz_pl tn tg (t / v)) + (((t - t / v * v) * ((tz_pl tn tg ((t / v) + 1)) - (tz_pl tn tg (t / v)))) / v))]) (by exact (ct_R_at (n := n) (g := g) ⟨hP.2.2.2.1.1, hP.2.2.2.1.2⟩ (by omega))) rfl (rest := []) rfl (by decide) (Nat.le_of_ble_eq_true rfl) td_P_sampleAtTime_81 (st1 := [.int (tz_at n g ((tz_pl tn tg (t / v)) + (((t - t / v * v) * ((tz_pl tn tg ((t / v) + 1)) - (tz_pl tn tg (t / v)))) / v)))]) rfl ?_
        refine tz_riret C_ hr_ hk_ hQ_ rfl td_P_sampleAtTime_84 ?_
        exact ⟨tz_ri (by unfold tz_wv; grind), rfl⟩
    · skip
      refine tz_aload_n C_ 0 rfl rfl td_P_sampleAtTime_28 ?_
      refine tz_get C_ tci_P 2 (by decide) tw_224 hP.1 rfl td_P_sampleAtTime_29 ?_
      refine tz_iload_n C_ 3 rfl rfl td_P_sampleAtTime_32 ?_
      refine tz_rV C_ tmi_R_at tw_332 tw_333 tw_577 hP.2.2.2.1.1 rfl (As := [.int (tz_pl tn tg (t / v))]) (by exact (ct_R_at (n := n) (g := g) ⟨hP.2.2.2.1.1, hP.2.2.2.1.2⟩ (by omega))) rfl (rest := []) rfl (by decide) (Nat.le_of_ble_eq_true rfl) td_P_sampleAtTime_33 (st1 := [.int (tz_at n g (tz_pl tn tg (t / v)))]) rfl ?_
      refine tz_riret C_ hr_ hk_ hQ_ rfl td_P_sampleAtTime_36 ?_
      exact ⟨tz_ri (by unfold tz_wv; grind), rfl⟩
  · skip
    exact absurd hv h1

abbrev rm_P_followWarp : Room := { frames := 2, cells := 0, slots := 0, locals := 44 }
set_option maxHeartbeats 4000000 in
set_option maxRecDepth 100000 in
theorem ct_P_followWarp {l : Launch} {A : Nat → Prop} {D : va_G} {cs : Nat → ClassId} {sz : Nat} {f : tz_PH} {a r x k tn n n2 : Nat} {fo z : Int32} {tg g g2 : Nat → Int32} (hP : tz_Pl cs f a r x fo z k tn tg n g n2 g2) (hn : n ≤ 120) (htn : tn ≤ 120) {v u : Int32} : tz_CN l tyP_followWarp prog_6_method_12_code 7 (none) rm_P_followWarp 0 0 A D cs sz [.ref a, .int v, .int u] f (none) (fun f' => f' a = some (tz_obj 4 [.ref (a + 1), .ref (a + 2), .ref r, .ref x, .int (tz_fw tn tg v u fo)]) ∧ ∀ q, q ≠ a → f' q = f q) := by
  refine tz_C.ofB (lv0 := [(0, .ref a), (1, .int v), (2, .int u)]) (plainFor_of_name (by decide)) (Nat.le_of_ble_eq_true rfl) rfl ?_
  intro p_ e_ s_ m_ ar_ be_ me_ c_ Q_ C_ hr_ hk_ hnm_ hz_ hQ_
  refine tz_aload_n C_ 0 rfl rfl td_P_followWarp_0 ?_
  refine tz_get C_ tci_P 1 (by decide) tw_223 hP.1 rfl td_P_followWarp_1 ?_
  refine tz_aload_n C_ 0 rfl rfl td_P_followWarp_4 ?_
  refine tz_get C_ tci_P 4 (by decide) tw_226 hP.1 rfl td_P_followWarp_5 ?_
  refine tz_rV C_ tmi_U_latestUpTo tw_636 tw_637 tw_635 hP.2.2.1.1 rfl (As := [.int fo]) (by exact (ct_U_latestUpTo (tn := tn) (tg := tg) ⟨hP.2.2.1.1, hP.2.2.1.2⟩ (by omega))) rfl (rest := []) rfl (by decide) (Nat.le_of_ble_eq_true rfl) td_P_followWarp_8 (st1 := [.int (tz_lat tn tg fo tn (-1))]) rfl ?_
  refine tz_istore_n C_ (lv' := [(0, .ref a), (1, .int v), (2, .int u), (3, .int (tz_lat tn tg fo tn (-1)))]) [1, 2, 3, 0] rfl (by decide) rfl td_P_followWarp_11 ?_
  refine tz_aload_n C_ 0 rfl rfl td_P_followWarp_12 ?_
  refine tz_get C_ tci_P 1 (by decide) tw_223 hP.1 rfl td_P_followWarp_13 ?_
  refine tz_iload_n C_ 3 rfl rfl td_P_followWarp_16 ?_
  refine tz_rV C_ tmi_U_placeAt tw_388 tw_389 tw_630 hP.2.2.1.1 rfl (As := [.int (tz_lat tn tg fo tn (-1))]) (by exact (ct_U_placeAt (tn := tn) (tg := tg) ⟨hP.2.2.1.1, hP.2.2.1.2⟩ (by omega))) rfl (rest := []) rfl (by decide) (Nat.le_of_ble_eq_true rfl) td_P_followWarp_17 (st1 := [.int (tz_pl tn tg (tz_lat tn tg fo tn (-1)))]) rfl ?_
  refine tz_istore C_ (lv' := [(0, .ref a), (1, .int v), (2, .int u), (3, .int (tz_lat tn tg fo tn (-1))), (4, .int (tz_pl tn tg (tz_lat tn tg fo tn (-1))))]) [1, 2, 3, 4, 0] (by decide) rfl td_P_followWarp_20 ?_
  refine tz_aload_n C_ 0 rfl rfl td_P_followWarp_22 ?_
  refine tz_get C_ tci_P 1 (by decide) tw_223 hP.1 rfl td_P_followWarp_23 ?_
  refine tz_iload_n C_ 3 rfl rfl td_P_followWarp_26 ?_
  refine tz_iconst C_ (v := 1) (by decide) td_P_followWarp_27 ?_
  refine tz_iadd C_ td_P_followWarp_28 ?_
  refine tz_rV C_ tmi_U_placeAt tw_388 tw_389 tw_630 hP.2.2.1.1 rfl (As := [.int ((tz_lat tn tg fo tn (-1)) + 1)]) (by exact (ct_U_placeAt (tn := tn) (tg := tg) ⟨hP.2.2.1.1, hP.2.2.1.2⟩ (by omega))) rfl (rest := []) rfl (by decide) (Nat.le_of_ble_eq_true rfl) td_P_followWarp_29 (st1 := [.int (tz_pl tn tg ((tz_lat tn tg fo tn (-1)) + 1))]) rfl ?_
  refine tz_istore C_ (lv' := [(0, .ref a), (1, .int v), (2, .int u), (3, .int (tz_lat tn tg fo tn (-1))), (4, .int (tz_pl tn tg (tz_lat tn tg fo tn (-1)))), (5, .int (tz_pl tn tg ((tz_lat tn tg fo tn (-1)) + 1)))]) [1, 2, 3, 4, 5, 0] (by decide) rfl td_P_followWarp_32 ?_
  refine tz_iconst C_ (v := -1) (by decide) td_P_followWarp_34 ?_
  refine tz_istore C_ (lv' := [(0, .ref a), (1, .int v), (2, .int u), (3, .int (tz_lat tn tg fo tn (-1))), (4, .int (tz_pl tn tg (tz_lat tn tg fo tn (-1)))), (5, .int (tz_pl tn tg ((tz_lat tn tg fo tn (-1)) + 1))), (6, .int (-1))]) [1, 2, 3, 4, 5, 6, 0] (by decide) rfl td_P_followWarp_35 ?_
  refine tz_iload_n C_ 3 rfl rfl td_P_followWarp_37 ?_
  refine tz_iconst C_ (v := -1) (by decide) td_P_followWarp_38 ?_
  refine tz_icmp_eq C_ td_P_followWarp_39 (fun h39 => ?_) (fun h39 => ?_)
  · skip
    refine tz_iload_n C_ 3 rfl rfl td_P_followWarp_59 ?_
    refine tz_iconst C_ (v := -1) (by decide) td_P_followWarp_60 ?_
    refine tz_icmp_eq C_ td_P_followWarp_61 (fun h61 => ?_) (fun h61 => ?_)
    · skip
      refine tz_aload_n C_ 0 rfl rfl td_P_followWarp_92 ?_
      refine tz_iload C_ 6 rfl td_P_followWarp_93 ?_
      refine tz_iload_n C_ 2 rfl rfl td_P_followWarp_95 ?_
      refine tz_icmp_ge C_ td_P_followWarp_96 (fun h96 => ?_) (fun h96 => ?_)
      · skip
        refine tz_iconst C_ (v := -1) (by decide) td_P_followWarp_104 ?_
        refine tz_wput C_ tci_P 4 (by decide) tw_226 rfl hP.1 (Nat.le_of_ble_eq_true rfl) ⟨rfl, rfl⟩ (fs' := [.ref (a + 1), .ref (a + 2), .ref r, .ref x, .int (-1)]) rfl td_P_followWarp_105 (fun f1 hs1 hq1 => ?_)
        refine tz_rvret C_ hr_ hk_ hQ_ rfl td_P_followWarp_108 ?_
        have e9 : tz_fw tn tg v u fo = -1 := by unfold tz_fw tz_fwt; grind
        rw [e9]
        exact ⟨rfl, hs1, (fun q hh => by rw [hq1 q (by omega)])⟩
      · skip
        refine tz_iload C_ 6 rfl td_P_followWarp_99 ?_
        refine tz_goto C_ td_P_followWarp_101 ?_
        refine tz_wput C_ tci_P 4 (by decide) tw_226 rfl hP.1 (Nat.le_of_ble_eq_true rfl) ⟨rfl, rfl⟩ (fs' := [.ref (a + 1), .ref (a + 2), .ref r, .ref x, .int (-1)]) rfl td_P_followWarp_105 (fun f2 hs2 hq2 => ?_)
        refine tz_rvret C_ hr_ hk_ hQ_ rfl td_P_followWarp_108 ?_
        have e9 : tz_fw tn tg v u fo = -1 := by unfold tz_fw tz_fwt; grind
        rw [e9]
        exact ⟨rfl, hs2, (fun q hh => by rw [hq2 q (by omega)])⟩
    · skip
      refine tz_iload C_ 5 rfl td_P_followWarp_64 ?_
      refine tz_iload C_ 4 rfl td_P_followWarp_66 ?_
      refine tz_icmp_le C_ td_P_followWarp_68 (fun h68 => ?_) (fun h68 => ?_)
      · skip
        refine tz_aload_n C_ 0 rfl rfl td_P_followWarp_92 ?_
        refine tz_iload C_ 6 rfl td_P_followWarp_93 ?_
        refine tz_iload_n C_ 2 rfl rfl td_P_followWarp_95 ?_
        refine tz_icmp_ge C_ td_P_followWarp_96 (fun h96 => ?_) (fun h96 => ?_)
        · skip
          refine tz_iconst C_ (v := -1) (by decide) td_P_followWarp_104 ?_
          refine tz_wput C_ tci_P 4 (by decide) tw_226 rfl hP.1 (Nat.le_of_ble_eq_true rfl) ⟨rfl, rfl⟩ (fs' := [.ref (a + 1), .ref (a + 2), .ref r, .ref x, .int (-1)]) rfl td_P_followWarp_105 (fun f3 hs3 hq3 => ?_)
          refine tz_rvret C_ hr_ hk_ hQ_ rfl td_P_followWarp_108 ?_
          have e9 : tz_fw tn tg v u fo = -1 := by unfold tz_fw tz_fwt; grind
          rw [e9]
          exact ⟨rfl, hs3, (fun q hh => by rw [hq3 q (by omega)])⟩
        · skip
          refine tz_iload C_ 6 rfl td_P_followWarp_99 ?_
          refine tz_goto C_ td_P_followWarp_101 ?_
          refine tz_wput C_ tci_P 4 (by decide) tw_226 rfl hP.1 (Nat.le_of_ble_eq_true rfl) ⟨rfl, rfl⟩ (fs' := [.ref (a + 1), .ref (a + 2), .ref r, .ref x, .int (-1)]) rfl td_P_followWarp_105 (fun f4 hs4 hq4 => ?_)
          refine tz_rvret C_ hr_ hk_ hQ_ rfl td_P_followWarp_108 ?_
          have e9 : tz_fw tn tg v u fo = -1 := by unfold tz_fw tz_fwt; grind
          rw [e9]
          exact ⟨rfl, hs4, (fun q hh => by rw [hq4 q (by omega)])⟩
      · skip
        refine tz_iload_n C_ 3 rfl rfl td_P_followWarp_71 ?_
        refine tz_iload_n C_ 1 rfl rfl td_P_followWarp_72 ?_
        refine tz_imul C_ td_P_followWarp_73 ?_
        refine tz_aload_n C_ 0 rfl rfl td_P_followWarp_74 ?_
        refine tz_get C_ tci_P 4 (by decide) tw_226 hP.1 rfl td_P_followWarp_75 ?_
        refine tz_iload C_ 4 rfl td_P_followWarp_78 ?_
        refine tz_isub C_ td_P_followWarp_80 ?_
        refine tz_iload_n C_ 1 rfl rfl td_P_followWarp_81 ?_
        refine tz_imul C_ td_P_followWarp_82 ?_
        refine tz_iload C_ 5 rfl td_P_followWarp_83 ?_
        refine tz_iload C_ 4 rfl td_P_followWarp_85 ?_
        refine tz_isub C_ td_P_followWarp_87 ?_
        refine tz_idiv C_ (tz_sub_ne (Int32.not_le.mp h68)) td_P_followWarp_88 ?_
        refine tz_iadd C_ td_P_followWarp_89 ?_
        refine tz_istore C_ (lv' := [(0, .ref a), (1, .int v), (2, .int u), (3, .int (tz_lat tn tg fo tn (-1))), (4, .int (tz_pl tn tg (tz_lat tn tg fo tn (-1)))), (5, .int (tz_pl tn tg ((tz_lat tn tg fo tn (-1)) + 1))), (6, .int (((tz_lat tn tg fo tn (-1)) * v) + (((fo - (tz_pl tn tg (tz_lat tn tg fo tn (-1)))) * v) / ((tz_pl tn tg ((tz_lat tn tg fo tn (-1)) + 1)) - (tz_pl tn tg (tz_lat tn tg fo tn (-1)))))))]) [1, 2, 3, 4, 5, 6, 0] (by decide) rfl td_P_followWarp_90 ?_
        refine tz_aload_n C_ 0 rfl rfl td_P_followWarp_92 ?_
        refine tz_iload C_ 6 rfl td_P_followWarp_93 ?_
        refine tz_iload_n C_ 2 rfl rfl td_P_followWarp_95 ?_
        refine tz_icmp_ge C_ td_P_followWarp_96 (fun h96 => ?_) (fun h96 => ?_)
        · skip
          refine tz_iconst C_ (v := -1) (by decide) td_P_followWarp_104 ?_
          refine tz_wput C_ tci_P 4 (by decide) tw_226 rfl hP.1 (Nat.le_of_ble_eq_true rfl) ⟨rfl, rfl⟩ (fs' := [.ref (a + 1), .ref (a + 2), .ref r, .ref x, .int (-1)]) rfl td_P_followWarp_105 (fun f5 hs5 hq5 => ?_)
          refine tz_rvret C_ hr_ hk_ hQ_ rfl td_P_followWarp_108 ?_
          have e9 : tz_fw tn tg v u fo = -1 := by unfold tz_fw tz_fwt; grind
          rw [e9]
          exact ⟨rfl, hs5, (fun q hh => by rw [hq5 q (by omega)])⟩
        · skip
          refine tz_iload C_ 6 rfl td_P_followWarp_99 ?_
          refine tz_goto C_ td_P_followWarp_101 ?_
          refine tz_wput C_ tci_P 4 (by decide) tw_226 rfl hP.1 (Nat.le_of_ble_eq_true rfl) ⟨rfl, rfl⟩ (fs' := [.ref (a + 1), .ref (a + 2), .ref r, .ref x, .int (((tz_lat tn tg fo tn (-1)) * v) + (((fo - (tz_pl tn tg (tz_lat tn tg fo tn (-1)))) * v) / ((tz_pl tn tg ((tz_lat tn tg fo tn (-1)) + 1)) - (tz_pl tn tg (tz_lat tn tg fo tn (-1))))))]) rfl td_P_followWarp_105 (fun f6 hs6 hq6 => ?_)
          refine tz_rvret C_ hr_ hk_ hQ_ rfl td_P_followWarp_108 ?_
          have e9 : tz_fw tn tg v u fo = ((tz_lat tn tg fo tn (-1)) * v) + (((fo - (tz_pl tn tg (tz_lat tn tg fo tn (-1)))) * v) / ((tz_pl tn tg ((tz_lat tn tg fo tn (-1)) + 1)) - (tz_pl tn tg (tz_lat tn tg fo tn (-1))))) := by unfold tz_fw tz_fwt; grind
          rw [e9]
          exact ⟨rfl, hs6, (fun q hh => by rw [hq6 q (by omega)])⟩
  · skip
    refine tz_aload_n C_ 0 rfl rfl td_P_followWarp_42 ?_
    refine tz_get C_ tci_P 4 (by decide) tw_226 hP.1 rfl td_P_followWarp_43 ?_
    refine tz_iload C_ 4 rfl td_P_followWarp_46 ?_
    refine tz_icmp_ne C_ td_P_followWarp_48 (fun h48 => ?_) (fun h48 => ?_)
    · skip
      refine tz_iload_n C_ 3 rfl rfl td_P_followWarp_59 ?_
      refine tz_iconst C_ (v := -1) (by decide) td_P_followWarp_60 ?_
      refine tz_icmp_eq C_ td_P_followWarp_61 (fun h61 => ?_) (fun h61 => ?_)
      · skip
        refine tz_aload_n C_ 0 rfl rfl td_P_followWarp_92 ?_
        refine tz_iload C_ 6 rfl td_P_followWarp_93 ?_
        refine tz_iload_n C_ 2 rfl rfl td_P_followWarp_95 ?_
        refine tz_icmp_ge C_ td_P_followWarp_96 (fun h96 => ?_) (fun h96 => ?_)
        · skip
          refine tz_iconst C_ (v := -1) (by decide) td_P_followWarp_104 ?_
          refine tz_wput C_ tci_P 4 (by decide) tw_226 rfl hP.1 (Nat.le_of_ble_eq_true rfl) ⟨rfl, rfl⟩ (fs' := [.ref (a + 1), .ref (a + 2), .ref r, .ref x, .int (-1)]) rfl td_P_followWarp_105 (fun f7 hs7 hq7 => ?_)
          refine tz_rvret C_ hr_ hk_ hQ_ rfl td_P_followWarp_108 ?_
          have e9 : tz_fw tn tg v u fo = -1 := by unfold tz_fw tz_fwt; grind
          rw [e9]
          exact ⟨rfl, hs7, (fun q hh => by rw [hq7 q (by omega)])⟩
        · skip
          refine tz_iload C_ 6 rfl td_P_followWarp_99 ?_
          refine tz_goto C_ td_P_followWarp_101 ?_
          refine tz_wput C_ tci_P 4 (by decide) tw_226 rfl hP.1 (Nat.le_of_ble_eq_true rfl) ⟨rfl, rfl⟩ (fs' := [.ref (a + 1), .ref (a + 2), .ref r, .ref x, .int (-1)]) rfl td_P_followWarp_105 (fun f8 hs8 hq8 => ?_)
          refine tz_rvret C_ hr_ hk_ hQ_ rfl td_P_followWarp_108 ?_
          have e9 : tz_fw tn tg v u fo = -1 := by unfold tz_fw tz_fwt; grind
          rw [e9]
          exact ⟨rfl, hs8, (fun q hh => by rw [hq8 q (by omega)])⟩
      · skip
        refine tz_iload C_ 5 rfl td_P_followWarp_64 ?_
        refine tz_iload C_ 4 rfl td_P_followWarp_66 ?_
        refine tz_icmp_le C_ td_P_followWarp_68 (fun h68 => ?_) (fun h68 => ?_)
        · skip
          refine tz_aload_n C_ 0 rfl rfl td_P_followWarp_92 ?_
          refine tz_iload C_ 6 rfl td_P_followWarp_93 ?_
          refine tz_iload_n C_ 2 rfl rfl td_P_followWarp_95 ?_
          refine tz_icmp_ge C_ td_P_followWarp_96 (fun h96 => ?_) (fun h96 => ?_)
          · skip
            refine tz_iconst C_ (v := -1) (by decide) td_P_followWarp_104 ?_
            refine tz_wput C_ tci_P 4 (by decide) tw_226 rfl hP.1 (Nat.le_of_ble_eq_true rfl) ⟨rfl, rfl⟩ (fs' := [.ref (a + 1), .ref (a + 2), .ref r, .ref x, .int (-1)]) rfl td_P_followWarp_105 (fun f9 hs9 hq9 => ?_)
            refine tz_rvret C_ hr_ hk_ hQ_ rfl td_P_followWarp_108 ?_
            have e9 : tz_fw tn tg v u fo = -1 := by unfold tz_fw tz_fwt; grind
            rw [e9]
            exact ⟨rfl, hs9, (fun q hh => by rw [hq9 q (by omega)])⟩
          · skip
            refine tz_iload C_ 6 rfl td_P_followWarp_99 ?_
            refine tz_goto C_ td_P_followWarp_101 ?_
            refine tz_wput C_ tci_P 4 (by decide) tw_226 rfl hP.1 (Nat.le_of_ble_eq_true rfl) ⟨rfl, rfl⟩ (fs' := [.ref (a + 1), .ref (a + 2), .ref r, .ref x, .int (-1)]) rfl td_P_followWarp_105 (fun f10 hs10 hq10 => ?_)
            refine tz_rvret C_ hr_ hk_ hQ_ rfl td_P_followWarp_108 ?_
            have e9 : tz_fw tn tg v u fo = -1 := by unfold tz_fw tz_fwt; grind
            rw [e9]
            exact ⟨rfl, hs10, (fun q hh => by rw [hq10 q (by omega)])⟩
        · skip
          refine tz_iload_n C_ 3 rfl rfl td_P_followWarp_71 ?_
          refine tz_iload_n C_ 1 rfl rfl td_P_followWarp_72 ?_
          refine tz_imul C_ td_P_followWarp_73 ?_
          refine tz_aload_n C_ 0 rfl rfl td_P_followWarp_74 ?_
          refine tz_get C_ tci_P 4 (by decide) tw_226 hP.1 rfl td_P_followWarp_75 ?_
          refine tz_iload C_ 4 rfl td_P_followWarp_78 ?_
          refine tz_isub C_ td_P_followWarp_80 ?_
          refine tz_iload_n C_ 1 rfl rfl td_P_followWarp_81 ?_
          refine tz_imul C_ td_P_followWarp_82 ?_
          refine tz_iload C_ 5 rfl td_P_followWarp_83 ?_
          refine tz_iload C_ 4 rfl td_P_followWarp_85 ?_
          refine tz_isub C_ td_P_followWarp_87 ?_
          refine tz_idiv C_ (tz_sub_ne (Int32.not_le.mp h68)) td_P_followWarp_88 ?_
          refine tz_iadd C_ td_P_followWarp_89 ?_
          refine tz_istore C_ (lv' := [(0, .ref a), (1, .int v), (2, .int u), (3, .int (tz_lat tn tg fo tn (-1))), (4, .int (tz_pl tn tg (tz_lat tn tg fo tn (-1)))), (5, .int (tz_pl tn tg ((tz_lat tn tg fo tn (-1)) + 1))), (6, .int (((tz_lat tn tg fo tn (-1)) * v) + (((fo - (tz_pl tn tg (tz_lat tn tg fo tn (-1)))) * v) / ((tz_pl tn tg ((tz_lat tn tg fo tn (-1)) + 1)) - (tz_pl tn tg (tz_lat tn tg fo tn (-1)))))))]) [1, 2, 3, 4, 5, 6, 0] (by decide) rfl td_P_followWarp_90 ?_
          refine tz_aload_n C_ 0 rfl rfl td_P_followWarp_92 ?_
          refine tz_iload C_ 6 rfl td_P_followWarp_93 ?_
          refine tz_iload_n C_ 2 rfl rfl td_P_followWarp_95 ?_
          refine tz_icmp_ge C_ td_P_followWarp_96 (fun h96 => ?_) (fun h96 => ?_)
          · skip
            refine tz_iconst C_ (v := -1) (by decide) td_P_followWarp_104 ?_
            refine tz_wput C_ tci_P 4 (by decide) tw_226 rfl hP.1 (Nat.le_of_ble_eq_true rfl) ⟨rfl, rfl⟩ (fs' := [.ref (a + 1), .ref (a + 2), .ref r, .ref x, .int (-1)]) rfl td_P_followWarp_105 (fun f11 hs11 hq11 => ?_)
            refine tz_rvret C_ hr_ hk_ hQ_ rfl td_P_followWarp_108 ?_
            have e9 : tz_fw tn tg v u fo = -1 := by unfold tz_fw tz_fwt; grind
            rw [e9]
            exact ⟨rfl, hs11, (fun q hh => by rw [hq11 q (by omega)])⟩
          · skip
            refine tz_iload C_ 6 rfl td_P_followWarp_99 ?_
            refine tz_goto C_ td_P_followWarp_101 ?_
            refine tz_wput C_ tci_P 4 (by decide) tw_226 rfl hP.1 (Nat.le_of_ble_eq_true rfl) ⟨rfl, rfl⟩ (fs' := [.ref (a + 1), .ref (a + 2), .ref r, .ref x, .int (((tz_lat tn tg fo tn (-1)) * v) + (((fo - (tz_pl tn tg (tz_lat tn tg fo tn (-1)))) * v) / ((tz_pl tn tg ((tz_lat tn tg fo tn (-1)) + 1)) - (tz_pl tn tg (tz_lat tn tg fo tn (-1))))))]) rfl td_P_followWarp_105 (fun f12 hs12 hq12 => ?_)
            refine tz_rvret C_ hr_ hk_ hQ_ rfl td_P_followWarp_108 ?_
            have e9 : tz_fw tn tg v u fo = ((tz_lat tn tg fo tn (-1)) * v) + (((fo - (tz_pl tn tg (tz_lat tn tg fo tn (-1)))) * v) / ((tz_pl tn tg ((tz_lat tn tg fo tn (-1)) + 1)) - (tz_pl tn tg (tz_lat tn tg fo tn (-1))))) := by unfold tz_fw tz_fwt; grind
            rw [e9]
            exact ⟨rfl, hs12, (fun q hh => by rw [hq12 q (by omega)])⟩
    · skip
      refine tz_iload_n C_ 3 rfl rfl td_P_followWarp_51 ?_
      refine tz_iload_n C_ 1 rfl rfl td_P_followWarp_52 ?_
      refine tz_imul C_ td_P_followWarp_53 ?_
      refine tz_istore C_ (lv' := [(0, .ref a), (1, .int v), (2, .int u), (3, .int (tz_lat tn tg fo tn (-1))), (4, .int (tz_pl tn tg (tz_lat tn tg fo tn (-1)))), (5, .int (tz_pl tn tg ((tz_lat tn tg fo tn (-1)) + 1))), (6, .int ((tz_lat tn tg fo tn (-1)) * v))]) [1, 2, 3, 4, 5, 6, 0] (by decide) rfl td_P_followWarp_54 ?_
      refine tz_goto C_ td_P_followWarp_56 ?_
      refine tz_aload_n C_ 0 rfl rfl td_P_followWarp_92 ?_
      refine tz_iload C_ 6 rfl td_P_followWarp_93 ?_
      refine tz_iload_n C_ 2 rfl rfl td_P_followWarp_95 ?_
      refine tz_icmp_ge C_ td_P_followWarp_96 (fun h96 => ?_) (fun h96 => ?_)
      · skip
        refine tz_iconst C_ (v := -1) (by decide) td_P_followWarp_104 ?_
        refine tz_wput C_ tci_P 4 (by decide) tw_226 rfl hP.1 (Nat.le_of_ble_eq_true rfl) ⟨rfl, rfl⟩ (fs' := [.ref (a + 1), .ref (a + 2), .ref r, .ref x, .int (-1)]) rfl td_P_followWarp_105 (fun f13 hs13 hq13 => ?_)
        refine tz_rvret C_ hr_ hk_ hQ_ rfl td_P_followWarp_108 ?_
        have e9 : tz_fw tn tg v u fo = -1 := by unfold tz_fw tz_fwt; grind
        rw [e9]
        exact ⟨rfl, hs13, (fun q hh => by rw [hq13 q (by omega)])⟩
      · skip
        refine tz_iload C_ 6 rfl td_P_followWarp_99 ?_
        refine tz_goto C_ td_P_followWarp_101 ?_
        refine tz_wput C_ tci_P 4 (by decide) tw_226 rfl hP.1 (Nat.le_of_ble_eq_true rfl) ⟨rfl, rfl⟩ (fs' := [.ref (a + 1), .ref (a + 2), .ref r, .ref x, .int ((tz_lat tn tg fo tn (-1)) * v)]) rfl td_P_followWarp_105 (fun f14 hs14 hq14 => ?_)
        refine tz_rvret C_ hr_ hk_ hQ_ rfl td_P_followWarp_108 ?_
        have e9 : tz_fw tn tg v u fo = (tz_lat tn tg fo tn (-1)) * v := by unfold tz_fw tz_fwt; grind
        rw [e9]
        exact ⟨rfl, hs14, (fun q hh => by rw [hq14 q (by omega)])⟩


def tz_tg (n : Nat) (g : Nat → Int32) : Nat → Int32 := fun k => nI (tz_nth (tz_tp n g) n k)
abbrev tz_T (n : Nat) (g : Nat → Int32) : Nat := tz_ct (tz_tp n g) n
def tz_wl (n : Nat) (g : Nat → Int32) (v : Nat) : Nat := min 120 ((tz_T n g - 1) * v + 1)
def tz_wn (n : Nat) (g : Nat → Int32) (v : Nat) : Nat := if tz_T n g < 2 then n else tz_wl n g v
def tz_wg (n : Nat) (g : Nat → Int32) (v : Nat) : Nat → Int32 := if tz_T n g < 2 then g else fun t => tz_wv n g (tz_T n g) (tz_tg n g) (nI t) (nI v)
def tz_wf (n : Nat) (g : Nat → Int32) (v : Nat) (fo : Int32) : Int32 := if tz_T n g < 2 then fo else tz_fw (tz_T n g) (tz_tg n g) (nI v) (nI (tz_wl n g v)) fo
theorem tz_pl_cg {tn : Nat} {t t' : Nat → Int32} (h : ∀ k, k < tn → t k = t' k) (hn : tn ≤ 120) (i : Int32) : tz_pl tn t i = tz_pl tn t' i := by
  unfold tz_pl
  split
  · rename_i hi
    have hin := tz_inI (tz_le_nlt hi.1) hi.2 (by omega)
    apply h
    exact Nat.not_le.mp fun q => hin (Or.inr q)
  · rfl
theorem tz_pl_fun {tn : Nat} {t t' : Nat → Int32} (h : ∀ k, k < tn → t k = t' k) (hn : tn ≤ 120) : tz_pl tn t = tz_pl tn t' := funext (tz_pl_cg h hn)
theorem tz_wv_cg {n tn : Nat} {g t t' : Nat → Int32} (h : ∀ k, k < tn → t k = t' k) (hn : tn ≤ 120) (x a : Int32) : tz_wv n g tn t x a = tz_wv n g tn t' x a := by
  unfold tz_wv
  rw [tz_pl_fun h hn]
theorem tz_lat_cg {tn : Nat} {t t' : Nat → Int32} (h : ∀ k, k < tn → t k = t' k) (hn : tn ≤ 120) (x : Int32) : ∀ d r, tz_lat tn t x d r = tz_lat tn t' x d r := by
  intro d
  induction d with
  | zero => intro r; rfl
  | succ d ih => intro r; unfold tz_lat; rw [tz_pl_fun h hn, ih]
theorem tz_fw_cg {tn : Nat} {t t' : Nat → Int32} (h : ∀ k, k < tn → t k = t' k) (hn : tn ≤ 120) (a b c : Int32) : tz_fw tn t a b c = tz_fw tn t' a b c := by
  unfold tz_fw tz_fwt
  rw [tz_pl_fun h hn, tz_lat_cg h hn]
theorem tz_T_le {n : Nat} {g : Nat → Int32} : tz_T n g ≤ n := tz_ct_le _ _
theorem tz_wl_le {n : Nat} {g : Nat → Int32} {v : Nat} : tz_wl n g v ≤ 120 := by unfold tz_wl; exact Nat.min_le_left _ _
theorem tz_len_eq {n v : Nat} {g : Nat → Int32} (hn : n ≤ 120) (hv : v ≤ 30) (h2 : ¬ tz_T n g < 2) : tz_mn 120 ((nI (tz_T n g) - 1) * nI v + 1) = nI (tz_wl n g v) := by
  have hT := tz_T_le (n := n) (g := g)
  have e1 : nI (tz_T n g) - 1 = nI (tz_T n g - 1) := pk_sub (a := tz_T n g) (b := 1) (by omega)
  rw [e1, pk_mul, nI_1]
  have hb : (tz_T n g - 1) * v ≤ 120 * 30 := Nat.mul_le_mul (by omega) hv
  exact tz_mn_N (a := 120) (by omega) (by omega)

abbrev rm_P_warp : Room := { frames := 3, cells := 0, slots := 0, locals := 70 }
set_option maxHeartbeats 4000000 in
set_option maxRecDepth 100000 in
theorem ct_P_warp {l : Launch} {A : Nat → Prop} {D : va_G} {cs : Nat → ClassId} {sz : Nat} {f : tz_PH} {a r x k tn n : Nat} {fo z : Int32} {tg g g2 : Nat → Int32} (hP : tz_Pl cs f a r x fo z k tn tg n g 0 g2) (hn : n ≤ 120) {v : Nat} (hv : 1 ≤ v ∧ v ≤ 30) : tz_CN l tyP_warp prog_6_method_10_code 4 (none) rm_P_warp 0 0 A D cs sz [.ref a, .int (nI v)] f (none) (fun f' => (∃ (fo' : Int32) (tg' gx : Nat → Int32), f' a = some (tz_obj 4 [.ref (a + 1), .ref (a + 2), .ref r, .ref x, .int fo']) ∧ tz_Tu cs f' (a + 2) (tz_T n g) tg' ∧ tz_Row cs f' x (tz_wn n g v) gx ∧ (∀ j, j < tz_wn n g v → gx j = tz_wg n g v j) ∧ fo' = tz_wf n g v fo) ∧ ∀ q, ((q < x ∨ x + 2 ≤ q) ∧ q ≠ a ∧ q ≠ a + 2 ∧ q ≠ a + 3) → f' q = f q) := by
  refine tz_C.ofB (lv0 := [(0, .ref a), (1, .int (nI v))]) (plainFor_of_name (by decide)) (Nat.le_of_ble_eq_true rfl) rfl ?_
  intro p_ e_ s_ m_ ar_ be_ me_ c_ Q_ C_ hr_ hk_ hnm_ hz_ hQ_
  have hrx := hP.2.2.2.2.2
  have hTn := tz_T_le (n := n) (g := g)
  have hwl := tz_wl_le (n := n) (g := g) (v := v)
  have hv0 : 0 < nI v := nI_lt (a := 0) (b := v) (by omega) (by omega)
  refine tz_aload_n C_ 0 rfl rfl td_P_warp_0 ?_
  refine tz_get C_ tci_P 1 (by decide) tw_223 hP.1 rfl td_P_warp_1 ?_
  refine tz_aload_n C_ 0 rfl rfl td_P_warp_4 ?_
  refine tz_get C_ tci_P 2 (by decide) tw_224 hP.1 rfl td_P_warp_5 ?_
  refine tz_cV C_ tmi_U_find tw_363 tw_364 tw_624 hP.2.2.1.1 rfl (As := [.ref r]) (by exact (ct_U_find (tn := tn) (tg := tg) (n := n) (g := g) ⟨hP.2.2.1.1, hP.2.2.1.2⟩ ⟨hP.2.2.2.1.1, hP.2.2.2.1.2⟩ (by omega) (by omega))) rfl (rest := []) rfl (by decide) (Nat.le_of_ble_eq_true rfl) td_P_warp_8 (st1 := []) rfl (fun f1 hF1 => ?_)
  obtain ⟨tgX, hT2, ht2, hq2⟩ := hF1
  have htg : ∀ k9, k9 < tz_T n g → tgX k9 = tz_tg n g k9 := ht2
  refine tz_aload_n C_ 0 rfl rfl td_P_warp_11 ?_
  have k3 : f1 a = some (tz_obj 4 [.ref (a + 1), .ref (a + 2), .ref r, .ref x, .int fo]) := ((hq2 _ (by omega)).trans hP.1)
  refine tz_get C_ tci_P 1 (by decide) tw_223 k3 rfl td_P_warp_12 ?_
  refine tz_rV C_ tmi_U_found tw_372 tw_373 tw_625 hT2.1 rfl (As := []) (by exact (ct_U_found (tn := (tz_T n g)) (tg := tgX) ⟨hT2.1, hT2.2⟩)) rfl (rest := []) rfl (by decide) (Nat.le_of_ble_eq_true rfl) td_P_warp_15 (st1 := [.int (nI ((tz_T n g)))]) rfl ?_
  refine tz_iconst C_ (v := 2) (by decide) td_P_warp_18 ?_
  refine tz_icmp_ge C_ td_P_warp_19 (fun h19 => ?_) (fun h19 => ?_)
  · skip
    replace h19 := (nI_leI (a := 2) (b := (tz_T n g)) (by omega) (by omega)).mp h19
    replace h19 : ¬ tz_T n g < 2 := by omega
    refine tz_bipush C_ (v := 120) (by decide) td_P_warp_34 ?_
    refine tz_aload_n C_ 0 rfl rfl td_P_warp_36 ?_
    refine tz_get C_ tci_P 1 (by decide) tw_223 k3 rfl td_P_warp_37 ?_
    refine tz_rV C_ tmi_U_found tw_372 tw_373 tw_625 hT2.1 rfl (As := []) (by exact (ct_U_found (tn := (tz_T n g)) (tg := tgX) ⟨hT2.1, hT2.2⟩)) rfl (rest := [.int 120]) rfl (by decide) (Nat.le_of_ble_eq_true rfl) td_P_warp_40 (st1 := [.int (nI ((tz_T n g))), .int 120]) rfl ?_
    refine tz_iconst C_ (v := 1) (by decide) td_P_warp_43 ?_
    refine tz_isub C_ td_P_warp_44 ?_
    refine tz_iload_n C_ 1 rfl rfl td_P_warp_45 ?_
    refine tz_imul C_ td_P_warp_46 ?_
    refine tz_iconst C_ (v := 1) (by decide) td_P_warp_47 ?_
    refine tz_iadd C_ td_P_warp_48 ?_
    refine tz_rS C_ tmi_J_min tw_305 tw_579 (As := [.int 120, .int ((((nI ((tz_T n g))) - 1) * (nI v)) + 1)]) (by exact ct_J_min) rfl (rest := []) rfl (by decide) (Nat.le_of_ble_eq_true rfl) td_P_warp_49 (st1 := [.int (tz_mn 120 ((((nI ((tz_T n g))) - 1) * (nI v)) + 1))]) rfl ?_
    rw [tz_len_eq hn hv.2 h19]
    refine tz_istore_n C_ (lv' := [(0, .ref a), (1, .int (nI v)), (2, .int (nI (tz_wl n g v)))]) [1, 2, 0] rfl (by decide) rfl td_P_warp_52 ?_
    refine tz_iconst C_ (v := 0) (by decide) td_P_warp_53 ?_
    refine tz_istore_n C_ (lv' := [(0, .ref a), (1, .int (nI v)), (2, .int (nI (tz_wl n g v))), (3, .int 0)]) [1, 2, 3, 0] rfl (by decide) rfl td_P_warp_54 ?_
    have k4 : f1 (a + 1) = some (tz_obj 0 [.int z, .int (nI k)]) := ((hq2 _ (by omega)).trans hP.2.1)
    have k5 : f1 r = some (tz_obj 5 [.ref (r + 1), .int (nI n)]) := ((hq2 _ (by omega)).trans hP.2.2.2.1.1)
    have k6 : f1 (r + 1) = some (tz_ints cs 120 g) := ((hq2 _ (by omega)).trans hP.2.2.2.1.2)
    have k7 : f1 x = some (tz_obj 5 [.ref (x + 1), .int (nI 0)]) := ((hq2 _ (by omega)).trans hP.2.2.2.2.1.1)
    have k8 : f1 (x + 1) = some (tz_ints cs 120 g2) := ((hq2 _ (by omega)).trans hP.2.2.2.2.1.2)
    have loop55 : ∀ (kk55 : Nat) (i : Nat) (fL : tz_PH), (fL a = some (tz_obj 4 [.ref (a + 1), .ref (a + 2), .ref r, .ref x, .int fo])) → (tz_Al fL (a + 1) z k) → (tz_Tu cs fL (a + 2) (tz_T n g) tgX) → (tz_Row cs fL r n g) → (tz_Row cs fL x i (tz_fl (fun t => tz_wv n g (tz_T n g) tgX (nI t) (nI v)) g2 i)) → (∀ q, ((q < x ∨ x + 2 ≤ q) ∧ q ≠ a ∧ q ≠ a + 2 ∧ q ≠ a + 3) → fL q = f q) → (i ≤ tz_wl n g v) → (tz_wl n g v - i) < kk55 → tz_V p_ l e_ rm_P_warp s_ m_ ar_ be_ me_ c_ Q_ A D 4 fL sz 0 0 55 [(0, .ref a), (1, .int (nI v)), (2, .int (nI (tz_wl n g v))), (3, .int (nI i))] [] := by
      intro kk55
      induction kk55 with
      | zero => intro i fL ha hA hT hr hX hfr hi hm55; omega
      | succ kk55 ih55 =>
        intro i fL ha hA hT hr hX hfr hi hm55
        refine tz_iload_n C_ 3 rfl rfl td_P_warp_55 ?_
        refine tz_iload_n C_ 2 rfl rfl td_P_warp_56 ?_
        refine tz_icmp_ge C_ td_P_warp_57 (fun h57 => ?_) (fun h57 => ?_)
        · skip
          replace h57 := (nI_leI (a := tz_wl n g v) (b := i) (by omega) (by omega)).mp h57
          refine tz_aload_n C_ 0 rfl rfl td_P_warp_79 ?_
          refine tz_iload_n C_ 1 rfl rfl td_P_warp_80 ?_
          refine tz_iload_n C_ 2 rfl rfl td_P_warp_81 ?_
          refine tz_cV C_ tmi_P_followWarp tw_633 tw_11 tw_631 ha rfl (As := [.int (nI v), .int (nI (tz_wl n g v))]) (by exact (ct_P_followWarp ⟨ha, hA, ⟨hT.1, hT.2⟩, ⟨hr.1, hr.2⟩, ⟨hX.1, hX.2⟩, hrx⟩ hn (by omega))) rfl (rest := []) rfl (by decide) (Nat.le_of_ble_eq_true rfl) td_P_warp_82 (st1 := []) rfl (fun f9 hF9 => ?_)
          obtain ⟨hs10, hq10⟩ := hF9
          refine tz_rvret C_ hr_ hk_ hQ_ rfl td_P_warp_85 ?_
          have k11 : f9 (a + 2) = some (tz_obj 9 [.ref (a + 2 + 1), .int (nI (tz_T n g))]) := ((hq10 _ (by omega)).trans hT.1)
          have k12 : f9 (a + 2 + 1) = some (tz_ints cs 120 tgX) := ((hq10 _ (by omega)).trans hT.2)
          have k13 : f9 x = some (tz_obj 5 [.ref (x + 1), .int (nI i)]) := ((hq10 _ (by omega)).trans hX.1)
          have k14 : f9 (x + 1) = some (tz_ints cs 120 (tz_fl (fun t => tz_wv n g (tz_T n g) tgX (nI t) (nI v)) g2 i)) := ((hq10 _ (by omega)).trans hX.2)
          have e9 : i = tz_wl n g v := by omega
          subst e9
          refine ⟨rfl, ⟨_, _, _, hs10, ⟨k11, k12⟩, by rw [tz_wn, if_neg h19]; exact ⟨k13, k14⟩, fun j hj => ?_, ?_⟩, (fun q hh => by rw [hq10 q (by omega), hfr q (by omega)])⟩
          · rw [tz_wn, if_neg h19] at hj
            rw [tz_wg, if_neg h19, tz_fl_in hj, tz_wv_cg htg (by omega)]
          · rw [tz_wf, if_neg h19, tz_fw_cg htg (by omega)]
        · skip
          replace h57 := mt (nI_leI (a := tz_wl n g v) (b := i) (by omega) (by omega)).mpr h57
          refine tz_aload_n C_ 0 rfl rfl td_P_warp_60 ?_
          refine tz_get C_ tci_P 3 (by decide) tw_225 ha rfl td_P_warp_61 ?_
          refine tz_aload_n C_ 0 rfl rfl td_P_warp_64 ?_
          refine tz_iload_n C_ 3 rfl rfl td_P_warp_65 ?_
          refine tz_iload_n C_ 1 rfl rfl td_P_warp_66 ?_
          refine tz_rV C_ tmi_P_sampleAtTime tw_628 tw_10 tw_626 ha rfl (As := [.int (nI i), .int (nI v)]) (by exact (ct_P_sampleAtTime ⟨ha, hA, ⟨hT.1, hT.2⟩, ⟨hr.1, hr.2⟩, ⟨hX.1, hX.2⟩, hrx⟩ hn (by omega) hv0)) rfl (rest := [.ref x]) rfl (by decide) (Nat.le_of_ble_eq_true rfl) td_P_warp_67 (st1 := [.int (tz_wv n g (tz_T n g) tgX (nI i) (nI v)), .ref x]) rfl ?_
          refine tz_cV C_ tmi_R_add tw_463 tw_464 tw_581 hX.1 rfl (As := [.int (tz_wv n g (tz_T n g) tgX (nI i) (nI v))]) (by exact (ct_R_add (n := i) (g := tz_fl (fun t => tz_wv n g (tz_T n g) tgX (nI t) (nI v)) g2 i) ⟨hX.1, hX.2⟩ (by omega))) rfl (rest := []) rfl (by decide) (Nat.le_of_ble_eq_true rfl) td_P_warp_70 (st1 := []) rfl (fun f15 hF15 => ?_)
          obtain ⟨hP16, hq16⟩ := hF15
          refine tz_iinc C_ (k := 1) (v := nI (i + 1)) (lv' := [(0, .ref a), (1, .int (nI v)), (2, .int (nI (tz_wl n g v))), (3, .int (nI (i + 1)))]) 3 rfl (nI_1 i) [1, 2, 3, 0] (by decide) rfl td_P_warp_73 ?_
          refine tz_goto C_ td_P_warp_76 ?_
          have k17 : f15 a = some (tz_obj 4 [.ref (a + 1), .ref (a + 2), .ref r, .ref x, .int fo]) := ((hq16 _ (by omega)).trans ha)
          have k18 : f15 (a + 1) = some (tz_obj 0 [.int z, .int (nI k)]) := ((hq16 _ (by omega)).trans hA)
          have k19 : f15 (a + 2) = some (tz_obj 9 [.ref (a + 2 + 1), .int (nI (tz_T n g))]) := ((hq16 _ (by omega)).trans hT.1)
          have k20 : f15 (a + 2 + 1) = some (tz_ints cs 120 tgX) := ((hq16 _ (by omega)).trans hT.2)
          have k21 : f15 r = some (tz_obj 5 [.ref (r + 1), .int (nI n)]) := ((hq16 _ (by omega)).trans hr.1)
          have k22 : f15 (r + 1) = some (tz_ints cs 120 g) := ((hq16 _ (by omega)).trans hr.2)
          exact ih55 (i + 1) f15 k17 k18 (⟨k19, k20⟩) (⟨k21, k22⟩) (⟨hP16.1, tz_flr hP16.2 rfl⟩) (fun q hh => by rw [hq16 q (by omega), hfr q (by omega)]) (by omega) (by omega)
    exact loop55 _ 0 f1 k3 k4 (⟨hT2.1, hT2.2⟩) (⟨k5, k6⟩) (by rw [tz_fl_0]; exact ⟨k7, k8⟩) (fun q hh => by rw [hq2 q (by omega)]) (Nat.zero_le _) (Nat.lt_succ_self _)
  · skip
    replace h19 := mt (nI_leI (a := 2) (b := (tz_T n g)) (by omega) (by omega)).mpr h19
    replace h19 : tz_T n g < 2 := by omega
    refine tz_aload_n C_ 0 rfl rfl td_P_warp_22 ?_
    refine tz_get C_ tci_P 3 (by decide) tw_225 k3 rfl td_P_warp_23 ?_
    refine tz_aload_n C_ 0 rfl rfl td_P_warp_26 ?_
    refine tz_get C_ tci_P 2 (by decide) tw_224 k3 rfl td_P_warp_27 ?_
    have k23 : f1 x = some (tz_obj 5 [.ref (x + 1), .int (nI 0)]) := ((hq2 _ (by omega)).trans hP.2.2.2.2.1.1)
    have k24 : f1 (x + 1) = some (tz_ints cs 120 g2) := ((hq2 _ (by omega)).trans hP.2.2.2.2.1.2)
    have k25 : f1 r = some (tz_obj 5 [.ref (r + 1), .int (nI n)]) := ((hq2 _ (by omega)).trans hP.2.2.2.1.1)
    have k26 : f1 (r + 1) = some (tz_ints cs 120 g) := ((hq2 _ (by omega)).trans hP.2.2.2.1.2)
    refine tz_cV C_ tmi_R_become tw_293 tw_294 tw_564 k23 rfl (As := [.ref r]) (by exact (ct_R_become (n := 0) (g := g2) (n2 := n) (g2 := g) ⟨k23, k24⟩ ⟨k25, k26⟩ (by omega))) rfl (rest := []) rfl (by decide) (Nat.le_of_ble_eq_true rfl) td_P_warp_30 (st1 := []) rfl (fun f27 hF27 => ?_)
    obtain ⟨hP28, hq28⟩ := hF27
    refine tz_rvret C_ hr_ hk_ hQ_ rfl td_P_warp_33 ?_
    have k29 : f27 a = some (tz_obj 4 [.ref (a + 1), .ref (a + 2), .ref r, .ref x, .int fo]) := ((hq28 _ (by omega)).trans k3)
    have k30 : f27 (a + 2) = some (tz_obj 9 [.ref (a + 2 + 1), .int (nI (tz_T n g))]) := ((hq28 _ (by omega)).trans hT2.1)
    have k31 : f27 (a + 2 + 1) = some (tz_ints cs 120 tgX) := ((hq28 _ (by omega)).trans hT2.2)
    refine ⟨rfl, ⟨fo, _, _, k29, ⟨k30, k31⟩, by rw [tz_wn, if_pos h19]; exact ⟨hP28.1, hP28.2⟩, fun j hj => ?_, by rw [tz_wf, if_pos h19]⟩, (fun q hh => by rw [hq28 q (by omega), hq2 q (by omega)])⟩
    rw [tz_wn, if_pos h19] at hj
    rw [tz_wg, if_pos h19, tz_cpy_in (by omega)]
