
theorem tz_tA {x y : Int32} {a b : Int} (hx : x.toInt = a) (hy : y.toInt = b) (h : -2147483648 ≤ a + b ∧ a + b < 2147483648) : (x + y).toInt = a + b := by
  rw [Int32.toInt_add, hx, hy]; exact Int.bmod_eq_of_le (by omega) (by omega)
theorem tz_tS {x y : Int32} {a b : Int} (hx : x.toInt = a) (hy : y.toInt = b) (h : -2147483648 ≤ a - b ∧ a - b < 2147483648) : (x - y).toInt = a - b := by
  rw [Int32.toInt_sub, hx, hy]; exact Int.bmod_eq_of_le (by omega) (by omega)
theorem tz_tM {x y : Int32} {a b : Int} (hx : x.toInt = a) (hy : y.toInt = b) (h : -2147483648 ≤ a * b ∧ a * b < 2147483648) : (x * y).toInt = a * b := by
  rw [Int32.toInt_mul, hx, hy]; exact Int.bmod_eq_of_le (by omega) (by omega)
theorem tz_tD {x y : Int32} {a b : Int} (hx : x.toInt = a) (hy : y.toInt = b) (h : -2147483648 ≤ a.tdiv b ∧ a.tdiv b < 2147483648) : (x / y).toInt = a.tdiv b := by
  rw [Int32.toInt_div, hx, hy]; exact Int.bmod_eq_of_le (by omega) (by omega)
theorem tz_tdiv_bd {s d b : Int} (hd : 0 < d) (h1 : -(b * d) ≤ s) (h2 : s ≤ b * d) : -b ≤ s.tdiv d ∧ s.tdiv d ≤ b := by
  have key : ∀ u : Int, 0 ≤ u → u ≤ b * d → 0 ≤ u.tdiv d ∧ u.tdiv d ≤ b := by
    intro u h0 h
    rw [Int.tdiv_eq_ediv_of_nonneg h0]
    exact ⟨Int.ediv_nonneg h0 (by omega), Int.ediv_le_of_le_mul hd h⟩
  by_cases h : 0 ≤ s
  · have := key s h h2
    omega
  · have := key (-s) (by omega) (by omega)
    rw [Int.neg_tdiv] at this
    omega
theorem tz_rg {v : Int32} (h : tz_okv v) (hn : ¬ v = tz_LO) : -10000 ≤ v.toInt ∧ v.toInt ≤ 10000 := by
  rcases h with h | h
  · exact absurd h hn
  · exact ⟨Int32.le_iff_toInt_le.mp h.1, Int32.le_iff_toInt_le.mp h.2⟩
theorem tz_gr {v : Int32} (h : -10000 ≤ v.toInt ∧ v.toInt ≤ 10000) : (-10000 ≤ v ∧ v ≤ 10000) ∧ ¬ v = tz_LO := by
  refine ⟨⟨Int32.le_iff_toInt_le.mpr h.1, Int32.le_iff_toInt_le.mpr h.2⟩, fun z => ?_⟩
  rw [z] at h
  exact absurd h.1 (by decide)
theorem tz_mo_id {v : Int32} (h : ¬ v = tz_LO) : tz_mo v = v := by unfold tz_mo; rw [if_neg h]
theorem tz_avg {x y : Int32} (hx : tz_okv x) (hy : tz_okv y) (h1 : ¬ x = tz_LO) (h2 : ¬ y = tz_LO) : (-10000 ≤ (x + y) / 2 ∧ (x + y) / 2 ≤ 10000) ∧ ¬ (x + y) / 2 = tz_LO := by
  have a := tz_rg hx h1
  have b := tz_rg hy h2
  have e := tz_tA (x := x) (y := y) rfl rfl (by omega)
  have d := tz_tdiv_bd (s := x.toInt + y.toInt) (d := 2) (b := 10000) (by omega) (by omega) (by omega)
  have e2 := tz_tD (x := x + y) (y := 2) e (b := 2) rfl (by omega)
  apply tz_gr
  rw [e2]; exact d
theorem tz_fade_rg {x v : Int32} {j : Nat} (hx : tz_okv x) (h1 : ¬ x = tz_LO) (hv : 1 ≤ v ∧ v ≤ 120) (hj : nI j < v) (hj2 : j < 120) : (-10000 ≤ x * (nI j + 1) / (v + 1) ∧ x * (nI j + 1) / (v + 1) ≤ 10000) ∧ ¬ x * (nI j + 1) / (v + 1) = tz_LO := by
  have a := tz_rg hx h1
  have v1 := Int32.le_iff_toInt_le.mp hv.1
  have v2 := Int32.le_iff_toInt_le.mp hv.2
  have j1 := Int32.lt_iff_toInt_lt.mp hj
  rw [nI_toInt (by omega)] at j1
  have z1 : (1 : Int32).toInt = 1 := rfl
  have z2 : (120 : Int32).toInt = 120 := rfl
  rw [z1] at v1; rw [z2] at v2
  have e1 := tz_tA (x := nI j) (y := 1) (nI_toInt (by omega)) z1 (by omega)
  have e2 := tz_tA (x := v) (y := 1) rfl z1 (by omega)
  have hm1 : x.toInt * ((j : Int) + 1) ≤ 10000 * ((j : Int) + 1) := Int.mul_le_mul_of_nonneg_right a.2 (by omega)
  have hm2 : -10000 * ((j : Int) + 1) ≤ x.toInt * ((j : Int) + 1) := Int.mul_le_mul_of_nonneg_right a.1 (by omega)
  have e3 := tz_tM (x := x) (y := nI j + 1) rfl e1 (by omega)
  have d := tz_tdiv_bd (s := x.toInt * ((j : Int) + 1)) (d := v.toInt + 1) (b := 10000) (by omega) (by omega) (by omega)
  have e4 := tz_tD e3 e2 (by omega)
  apply tz_gr
  rw [e4]; exact d
def tz_top (x : Int32) : Int32 := if 10000 < x then 10000 else if x < -10000 then -10000 else x
theorem tz_top_eq (x : Int32) : tz_mx (-10000) (tz_mn 10000 x) = tz_top x ∧ ¬ tz_top x = tz_LO ∧ -10000 ≤ tz_top x ∧ tz_top x ≤ 10000 := by
  have key : tz_mx (-10000) (tz_mn 10000 x) = tz_top x ∧ -10000 ≤ tz_top x ∧ tz_top x ≤ 10000 := by
    unfold tz_mx tz_mn tz_top
    grind
  refine ⟨key.1, fun z => ?_, key.2⟩
  have := key.2.1
  rw [z] at this
  exact absurd this (by decide)
theorem tz_fl_ge {h g : Nat → Int32} {i k : Nat} (hk : i ≤ k) : tz_fl h g i k = g k := by unfold tz_fl; rw [if_neg (by omega)]
def tz_tua (n : Nat) (g : Nat → Int32) (w : Nat) : Int32 := if w < tz_T n g then nI (tz_nth (tz_tp n g) n w) else -1

abbrev rm_M_cutTop : Room := { frames := 0, cells := 0, slots := 0, locals := 0 }
set_option maxHeartbeats 4000000 in
set_option maxRecDepth 100000 in
theorem ct_M_cutTop {l : Launch} {A : Nat → Prop} {D : va_G} {cs : Nat → ClassId} {sz : Nat} {f : tz_PH} {x : Int32} : tz_CN l tyM_cutTop prog_13_method_39_code 1 (some (.int)) rm_M_cutTop 0 0 A D cs sz [.int x] f (some (.int (tz_top x))) (fun f' => f' = f) := by
  refine tz_C.ofB (lv0 := [(0, .int x)]) (plainFor_of_name (by decide)) (Nat.le_of_ble_eq_true rfl) rfl ?_
  intro p_ e_ s_ m_ ar_ be_ me_ c_ Q_ C_ hr_ hk_ hnm_ hz_ hQ_
  refine tz_iload_n C_ 0 rfl rfl td_M_cutTop_0 ?_
  refine tz_sipush C_ (v := 10000) (by decide) td_M_cutTop_1 ?_
  refine tz_icmp_le C_ td_M_cutTop_4 (fun h4 => ?_) (fun h4 => ?_)
  · skip
    refine tz_iload_n C_ 0 rfl rfl td_M_cutTop_13 ?_
    refine tz_sipush C_ (v := -10000) (by decide) td_M_cutTop_14 ?_
    refine tz_icmp_ge C_ td_M_cutTop_17 (fun h17 => ?_) (fun h17 => ?_)
    · skip
      refine tz_iload_n C_ 0 rfl rfl td_M_cutTop_26 ?_
      refine tz_riret C_ hr_ hk_ hQ_ rfl td_M_cutTop_27 ?_
      exact ⟨tz_ri (by unfold tz_top; grind), rfl⟩
    · skip
      refine tz_sipush C_ (v := -10000) (by decide) td_M_cutTop_20 ?_
      refine tz_goto C_ td_M_cutTop_23 ?_
      refine tz_riret C_ hr_ hk_ hQ_ rfl td_M_cutTop_27 ?_
      exact ⟨tz_ri (by unfold tz_top; grind), rfl⟩
  · skip
    refine tz_sipush C_ (v := 10000) (by decide) td_M_cutTop_7 ?_
    refine tz_goto C_ td_M_cutTop_10 ?_
    refine tz_riret C_ hr_ hk_ hQ_ rfl td_M_cutTop_27 ?_
    exact ⟨tz_ri (by unfold tz_top; grind), rfl⟩

abbrev rm_M_turnAt : Room := { frames := 1, cells := 0, slots := 0, locals := 21 }
set_option maxHeartbeats 4000000 in
set_option maxRecDepth 100000 in
theorem ct_M_turnAt {l : Launch} {A : Nat → Prop} {D : va_G} {cs : Nat → ClassId} {sz : Nat} {f : tz_PH} {M kp n : Nat} {fn ns tg : Int32} {nw pa bi nu sh ro ma ca : Nat → Int32} (hM : tz_MB cs f M kp fn (nI n) ns tg nw pa bi nu sh ro ma ca) {g : Nat → Int32} (hr : tz_er ro n g) (hk : tz_okr n g) (hn : n ≤ 120) {w : Nat} (hw : w < 2 ^ 31) : tz_CN l tyM_turnAt prog_13_method_17_code 4 (some (.int)) rm_M_turnAt 0 0 A D cs sz [.ref M, .int (nI w)] f (some (.int (tz_tua n g w))) (fun f' => f' = f) := by
  refine tz_C.ofB (lv0 := [(0, .ref M), (1, .int (nI w))]) (plainFor_of_name (by decide)) (Nat.le_of_ble_eq_true rfl) rfl ?_
  intro p_ e_ s_ m_ ar_ be_ me_ c_ Q_ C_ hr_ hk_ hnm_ hz_ hQ_
  refine tz_iload_n C_ 1 rfl rfl td_M_turnAt_0 ?_
  refine tz_istore_n C_ (lv' := [(0, .ref M), (1, .int (nI w)), (2, .int (nI w))]) [1, 2, 0] rfl (by decide) rfl td_M_turnAt_1 ?_
  refine tz_iconst C_ (v := 0) (by decide) td_M_turnAt_2 ?_
  refine tz_istore_n C_ (lv' := [(0, .ref M), (1, .int (nI w)), (2, .int (nI w)), (3, .int 0)]) [1, 2, 3, 0] rfl (by decide) rfl td_M_turnAt_3 ?_
  have loop4 : ∀ (kk4 : Nat) (x : Nat) (i : Nat), (i ≤ n) → (x + tz_ct (tz_tp n g) i = w) → (n - i) < kk4 → tz_V p_ l e_ rm_M_turnAt s_ m_ ar_ be_ me_ c_ Q_ A D 4 f sz 0 0 4 [(0, .ref M), (1, .int (nI w)), (2, .int (nI x)), (3, .int (nI i))] [] := by
    intro kk4
    induction kk4 with
    | zero => intro x i hi hc hm4; omega
    | succ kk4 ih4 =>
      intro x i hi hc hm4
      refine tz_iload_n C_ 3 rfl rfl td_M_turnAt_4 ?_
      refine tz_aload_n C_ 0 rfl rfl td_M_turnAt_5 ?_
      refine tz_get C_ tci_M 7 (by decide) tw_760 hM.1 rfl td_M_turnAt_6 ?_
      refine tz_icmp_ge C_ td_M_turnAt_9 (fun h9 => ?_) (fun h9 => ?_)
      · skip
        replace h9 := (nI_leI (a := n) (b := i) (by omega) (by omega)).mp h9
        refine tz_iconst C_ (v := -1) (by decide) td_M_turnAt_35 ?_
        refine tz_riret C_ hr_ hk_ hQ_ rfl td_M_turnAt_36 ?_
        have e9 : i = n := by omega
        subst e9
        exact ⟨tz_ri (by unfold tz_tua; rw [if_neg (show ¬ w < tz_ct (tz_tp i g) i by omega)]), rfl⟩
      · skip
        replace h9 := mt (nI_leI (a := n) (b := i) (by omega) (by omega)).mpr h9
        refine tz_aload_n C_ 0 rfl rfl td_M_turnAt_12 ?_
        refine tz_iload_n C_ 3 rfl rfl td_M_turnAt_13 ?_
        refine tz_rV C_ tmi_M_isTurn tw_857 tw_21 tw_855 hM.1 rfl (As := [.int (nI i)]) (by exact (ct_M_isTurn ⟨hM.1, hM.2.1, hM.2.2.1, hM.2.2.2.1, hM.2.2.2.2.1, hM.2.2.2.2.2.1, hM.2.2.2.2.2.2.1, hM.2.2.2.2.2.2.2.1, hM.2.2.2.2.2.2.2.2⟩ hr hk hn (k := i) (by omega))) rfl (rest := []) rfl (by decide) (Nat.le_of_ble_eq_true rfl) td_M_turnAt_14 (st1 := [.int (tz_p (tz_turn n g (nI i)))]) rfl ?_
        refine tz_if_eq C_ td_M_turnAt_17 (fun h17 => ?_) (fun h17 => ?_)
        · skip
          replace h17 := tz_p0.mp h17
          refine tz_iinc C_ (k := 1) (v := nI (i + 1)) (lv' := [(0, .ref M), (1, .int (nI w)), (2, .int (nI x)), (3, .int (nI (i + 1)))]) 3 rfl (nI_1 i) [1, 2, 3, 0] (by decide) rfl td_M_turnAt_29 ?_
          refine tz_goto C_ td_M_turnAt_32 ?_
          exact ih4 x (i + 1) (by omega) (by rw [tz_ct_n (by simp only [tz_tp]; simp [h17])]; exact hc) (by omega)
        · skip
          replace h17 := tz_p1.mp h17
          refine tz_iload_n C_ 2 rfl rfl td_M_turnAt_20 ?_
          refine tz_if_ne C_ td_M_turnAt_21 (fun h21 => ?_) (fun h21 => ?_)
          · skip
            replace h21 := mt (nI_eq (a := x) (b := 0) (by omega) (by omega)).mpr h21
            refine tz_iinc C_ (k := -1) (v := nI (x - 1)) (lv' := [(0, .ref M), (1, .int (nI w)), (2, .int (nI (x - 1))), (3, .int (nI i))]) 2 rfl (tz_dec (by omega)) [1, 2, 0, 3] (by decide) rfl td_M_turnAt_26 ?_
            refine tz_iinc C_ (k := 1) (v := nI (i + 1)) (lv' := [(0, .ref M), (1, .int (nI w)), (2, .int (nI (x - 1))), (3, .int (nI (i + 1)))]) 3 rfl (nI_1 i) [1, 2, 3, 0] (by decide) rfl td_M_turnAt_29 ?_
            refine tz_goto C_ td_M_turnAt_32 ?_
            exact ih4 (x - 1) (i + 1) (by omega) (by rw [tz_ct_y (by simp only [tz_tp]; simp [h17])]; omega) (by omega)
          · skip
            replace h21 := (nI_eq (a := x) (b := 0) (by omega) (by omega)).mp h21
            refine tz_iload_n C_ 3 rfl rfl td_M_turnAt_24 ?_
            refine tz_riret C_ hr_ hk_ hQ_ rfl td_M_turnAt_25 ?_
            have hp9 : tz_tp n g i = true := by simp only [tz_tp]; simp [h17]
            have e9 := tz_nth_eq (tz_tp n g) (n := n) (i := i) (by omega) hp9
            have e8 := tz_ct_mono (tz_tp n g) (m := i + 1) (n := n) (by omega)
            rw [tz_ct_y hp9] at e8
            exact ⟨tz_ri (by unfold tz_tua; rw [if_pos (show w < tz_ct (tz_tp n g) n by omega), show w = tz_ct (tz_tp n g) i by omega, e9]), rfl⟩
  exact loop4 _ w 0 (Nat.zero_le _) rfl (Nat.lt_succ_self _)

abbrev rm_M_takeMade : Room := { frames := 0, cells := 0, slots := 0, locals := 0 }
set_option maxHeartbeats 4000000 in
set_option maxRecDepth 100000 in
theorem ct_M_takeMade {l : Launch} {A : Nat → Prop} {D : va_G} {cs : Nat → ClassId} {sz : Nat} {f : tz_PH} {M kp m : Nat} {fn ms tg : Int32} {nw pa bi nu sh ro ma ca : Nat → Int32} (hM : tz_MB cs f M kp fn ms (nI m) tg nw pa bi nu sh ro ma ca) (hm : m ≤ 120) : tz_CN l tyM_takeMade prog_13_method_44_code 2 (none) rm_M_takeMade 0 0 A D cs sz [.ref M] f (none) (fun f' => tz_MB cs f' M kp fn (nI m) (nI m) tg nw pa bi nu sh ((tz_fl ma ro m)) ma ca ∧ ∀ q, (q < M ∨ M + 9 ≤ q) → f' q = f q) := by
  refine tz_C.ofB (lv0 := [(0, .ref M)]) (plainFor_of_name (by decide)) (Nat.le_of_ble_eq_true rfl) rfl ?_
  intro p_ e_ s_ m_ ar_ be_ me_ c_ Q_ C_ hr_ hk_ hnm_ hz_ hQ_
  refine tz_aload_n C_ 0 rfl rfl td_M_takeMade_0 ?_
  refine tz_aload_n C_ 0 rfl rfl td_M_takeMade_1 ?_
  refine tz_get C_ tci_M 9 (by decide) tw_762 hM.1 rfl td_M_takeMade_2 ?_
  refine tz_wput C_ tci_M 7 (by decide) tw_760 rfl hM.1 (Nat.le_of_ble_eq_true rfl) ⟨rfl, rfl⟩ (fs' := [.ref (M + 1), .ref (M + 2), .int (nI kp), .int fn, .ref (M + 3), .ref (M + 4), .ref (M + 5), .int (nI m), .ref (M + 6), .int (nI m), .ref (M + 7), .ref (M + 8), .int tg]) rfl td_M_takeMade_5 (fun f1 hs1 hq1 => ?_)
  refine tz_iconst C_ (v := 0) (by decide) td_M_takeMade_8 ?_
  refine tz_istore_n C_ (lv' := [(0, .ref M), (1, .int 0)]) [1, 0] rfl (by decide) rfl td_M_takeMade_9 ?_
  have k2 : f1 (M + 1) = some (tz_ints cs 532 nw) := ((hq1 _ (by omega)).trans hM.2.1)
  have k3 : f1 (M + 2) = some (tz_ints cs 10640 pa) := ((hq1 _ (by omega)).trans hM.2.2.1)
  have k4 : f1 (M + 3) = some (tz_ints cs 4 bi) := ((hq1 _ (by omega)).trans hM.2.2.2.1)
  have k5 : f1 (M + 4) = some (tz_ints cs 4 nu) := ((hq1 _ (by omega)).trans hM.2.2.2.2.1)
  have k6 : f1 (M + 5) = some (tz_ints cs 480 sh) := ((hq1 _ (by omega)).trans hM.2.2.2.2.2.1)
  have k7 : f1 (M + 6) = some (tz_ints cs 120 ro) := ((hq1 _ (by omega)).trans hM.2.2.2.2.2.2.1)
  have k8 : f1 (M + 7) = some (tz_ints cs 120 ma) := ((hq1 _ (by omega)).trans hM.2.2.2.2.2.2.2.1)
  have k9 : f1 (M + 8) = some (tz_ints cs 120 ca) := ((hq1 _ (by omega)).trans hM.2.2.2.2.2.2.2.2)
  have loop10 : ∀ (kk10 : Nat) (i : Nat) (fL : tz_PH), (tz_MB cs fL M kp fn (nI m) (nI m) tg nw pa bi nu sh ((tz_fl ma ro i)) ma ca) → (∀ q, (q < M ∨ M + 9 ≤ q) → fL q = f q) → (i ≤ m) → (m - i) < kk10 → tz_V p_ l e_ rm_M_takeMade s_ m_ ar_ be_ me_ c_ Q_ A D 2 fL sz 0 0 10 [(0, .ref M), (1, .int (nI i))] [] := by
    intro kk10
    induction kk10 with
    | zero => intro i fL hM1 hfr hi hm10; omega
    | succ kk10 ih10 =>
      intro i fL hM1 hfr hi hm10
      refine tz_iload_n C_ 1 rfl rfl td_M_takeMade_10 ?_
      refine tz_aload_n C_ 0 rfl rfl td_M_takeMade_11 ?_
      refine tz_get C_ tci_M 7 (by decide) tw_760 hM1.1 rfl td_M_takeMade_12 ?_
      refine tz_icmp_ge C_ td_M_takeMade_15 (fun h15 => ?_) (fun h15 => ?_)
      · skip
        replace h15 := (nI_leI (a := m) (b := i) (by omega) (by omega)).mp h15
        refine tz_rvret C_ hr_ hk_ hQ_ rfl td_M_takeMade_36 ?_
        have e9 : i = m := by omega
        subst e9
        exact ⟨rfl, ⟨hM1.1, hM1.2.1, hM1.2.2.1, hM1.2.2.2.1, hM1.2.2.2.2.1, hM1.2.2.2.2.2.1, hM1.2.2.2.2.2.2.1, hM1.2.2.2.2.2.2.2.1, hM1.2.2.2.2.2.2.2.2⟩, (fun q hh => by rw [hfr q (by omega)])⟩
      · skip
        replace h15 := mt (nI_leI (a := m) (b := i) (by omega) (by omega)).mpr h15
        refine tz_aload_n C_ 0 rfl rfl td_M_takeMade_18 ?_
        refine tz_get C_ tci_M 8 (by decide) tw_761 hM1.1 rfl td_M_takeMade_19 ?_
        refine tz_iload_n C_ 1 rfl rfl td_M_takeMade_22 ?_
        refine tz_aload_n C_ 0 rfl rfl td_M_takeMade_23 ?_
        refine tz_get C_ tci_M 10 (by decide) tw_763 hM1.1 rfl td_M_takeMade_24 ?_
        refine tz_iload_n C_ 1 rfl rfl td_M_takeMade_27 ?_
        refine tz_ialdN C_ hM1.2.2.2.2.2.2.2.1 (by omega) (by decide) td_M_takeMade_28 ?_
        refine tz_wiastN C_ hM1.2.2.2.2.2.2.1 (by omega) (by decide) (g' := upd ((tz_fl ma ro i)) i (ma i)) rfl td_M_takeMade_29 (fun f10 hs10 hq10 => ?_)
        refine tz_iinc C_ (k := 1) (v := nI (i + 1)) (lv' := [(0, .ref M), (1, .int (nI (i + 1)))]) 1 rfl (nI_1 i) [1, 0] (by decide) rfl td_M_takeMade_30 ?_
        refine tz_goto C_ td_M_takeMade_33 ?_
        have k11 : f10 M = some (tz_obj 11 [.ref (M + 1), .ref (M + 2), .int (nI kp), .int fn, .ref (M + 3), .ref (M + 4), .ref (M + 5), .int (nI m), .ref (M + 6), .int (nI m), .ref (M + 7), .ref (M + 8), .int tg]) := ((hq10 _ (by omega)).trans hM1.1)
        have k12 : f10 (M + 1) = some (tz_ints cs 532 nw) := ((hq10 _ (by omega)).trans hM1.2.1)
        have k13 : f10 (M + 2) = some (tz_ints cs 10640 pa) := ((hq10 _ (by omega)).trans hM1.2.2.1)
        have k14 : f10 (M + 3) = some (tz_ints cs 4 bi) := ((hq10 _ (by omega)).trans hM1.2.2.2.1)
        have k15 : f10 (M + 4) = some (tz_ints cs 4 nu) := ((hq10 _ (by omega)).trans hM1.2.2.2.2.1)
        have k16 : f10 (M + 5) = some (tz_ints cs 480 sh) := ((hq10 _ (by omega)).trans hM1.2.2.2.2.2.1)
        have k17 : f10 (M + 7) = some (tz_ints cs 120 ma) := ((hq10 _ (by omega)).trans hM1.2.2.2.2.2.2.2.1)
        have k18 : f10 (M + 8) = some (tz_ints cs 120 ca) := ((hq10 _ (by omega)).trans hM1.2.2.2.2.2.2.2.2)
        exact ih10 (i + 1) f10 (⟨k11, k12, k13, k14, k15, k16, tz_flN hs10 rfl, k17, k18⟩) (fun q hh => by rw [hq10 q (by omega), hfr q (by omega)]) (by omega) (by omega)
  exact loop10 _ 0 f1 (⟨hs1, k2, k3, k4, k5, k6, by rw [tz_fl_0]; exact k7, k8, k9⟩) (fun q hh => by rw [hq1 q (by omega)]) (Nat.zero_le _) (Nat.lt_succ_self _)
