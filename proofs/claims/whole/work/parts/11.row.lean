
abbrev tz_LO : Int32 := -100007
def tz_Row (cs : Nat → ClassId) (f : tz_PH) (a n : Nat) (g : Nat → Int32) : Prop := f a = some (tz_obj 5 [.ref (a + 1), .int (nI n)]) ∧ f (a + 1) = some (tz_ints cs 120 g)
theorem tz_Row.fr {cs : Nat → ClassId} {f f' : tz_PH} {a n : Nat} {g : Nat → Int32} (h : tz_Row cs f a n g) (hq : ∀ q, a ≤ q → q < a + 2 → f' q = f q) : tz_Row cs f' a n g := ⟨(hq _ (by omega) (by omega)).trans h.1, (hq _ (by omega) (by omega)).trans h.2⟩
def tz_in (n : Nat) (i : Int32) : Prop := 0 ≤ i ∧ i < nI n
theorem tz_in_dec (n : Nat) (i : Int32) : tz_in n i ↔ 0 ≤ i ∧ i < nI n := Iff.rfl
def tz_at (n : Nat) (g : Nat → Int32) (i : Int32) : Int32 := if 0 ≤ i ∧ i < nI n then g i.toNatClampNeg else tz_LO
def tz_rset (n : Nat) (g : Nat → Int32) (i v : Int32) : Nat → Int32 := if 0 ≤ i ∧ i < nI n then upd g i.toNatClampNeg v else g
def tz_mx (x y : Int32) : Int32 := if x < y then y else x
def tz_mn (x y : Int32) : Int32 := if y < x then y else x
def tz_ab (x : Int32) : Int32 := if 0 ≤ x then x else -x
def tz_fd (x y : Int32) : Int32 := if 0 ≤ x ^^^ y then x / y else if x / y * y = x then x / y else x / y - 1
theorem tz_le_nlt {x y : Int32} (h : y ≤ x) : ¬ x < y := Int32.not_lt.mpr h
theorem tz_nle_lt {x y : Int32} (h : ¬ y ≤ x) : x < y := Int32.not_le.mp h
theorem tz_lt_nI120 {i : Int32} (h : i < 120) : i < nI 120 := h
theorem tz_lt120 {n : Nat} {i : Int32} (hn : n ≤ 120) (h : i < nI n) : i < 120 := by
  have h1 := Int32.lt_iff_toInt_lt.mp h
  rw [nI_toInt (by omega)] at h1
  apply Int32.lt_iff_toInt_lt.mpr
  have z : (120 : Int32).toInt = 120 := rfl
  rw [z]; omega
abbrev rm_J_max : Room := { frames := 0, cells := 0, slots := 0, locals := 0 }
set_option maxHeartbeats 4000000 in
set_option maxRecDepth 100000 in
theorem ct_J_max {l : Launch} {A : Nat → Prop} {D : va_G} {cs : Nat → ClassId} {sz : Nat} {f : tz_PH} {x y : Int32} : tz_CN l tyJ_max prog_14_method_65_code 2 (some (.int)) rm_J_max 0 0 A D cs sz [.int x, .int y] f (some (.int (tz_mx x y))) (fun f' => f' = f) := by
  refine tz_C.ofB (lv0 := [(0, .int x), (1, .int y)]) (by decide +kernel) (Nat.le_of_ble_eq_true rfl) rfl ?_
  intro p e s m args below meth c Q C hr hk hnm hsz0 hQ
  refine tz_iload_n C 0 rfl rfl td_J_max_0 ?_
  refine tz_iload_n C 1 rfl rfl td_J_max_1 ?_
  refine tz_icmp_lt C td_J_max_2 (fun h2 => ?_) (fun h2 => ?_)
  · skip
    refine tz_iload_n C 1 rfl rfl td_J_max_9 ?_
    refine tz_riret C hr hk hQ rfl td_J_max_10 ?_
    exact ⟨tz_ri (by simp [tz_mx, h2]), rfl⟩
  · skip
    refine tz_iload_n C 0 rfl rfl td_J_max_5 ?_
    refine tz_goto C td_J_max_6 ?_
    refine tz_riret C hr hk hQ rfl td_J_max_10 ?_
    exact ⟨tz_ri (by simp [tz_mx, h2]), rfl⟩

abbrev rm_J_min : Room := { frames := 0, cells := 0, slots := 0, locals := 0 }
set_option maxHeartbeats 4000000 in
set_option maxRecDepth 100000 in
theorem ct_J_min {l : Launch} {A : Nat → Prop} {D : va_G} {cs : Nat → ClassId} {sz : Nat} {f : tz_PH} {x y : Int32} : tz_CN l tyJ_min prog_14_method_69_code 2 (some (.int)) rm_J_min 0 0 A D cs sz [.int x, .int y] f (some (.int (tz_mn x y))) (fun f' => f' = f) := by
  refine tz_C.ofB (lv0 := [(0, .int x), (1, .int y)]) (by decide +kernel) (Nat.le_of_ble_eq_true rfl) rfl ?_
  intro p e s m args below meth c Q C hr hk hnm hsz0 hQ
  refine tz_iload_n C 0 rfl rfl td_J_min_0 ?_
  refine tz_iload_n C 1 rfl rfl td_J_min_1 ?_
  refine tz_icmp_gt C td_J_min_2 (fun h2 => ?_) (fun h2 => ?_)
  · skip
    refine tz_iload_n C 1 rfl rfl td_J_min_9 ?_
    refine tz_riret C hr hk hQ rfl td_J_min_10 ?_
    exact ⟨tz_ri (by simp [tz_mn, h2]), rfl⟩
  · skip
    refine tz_iload_n C 0 rfl rfl td_J_min_5 ?_
    refine tz_goto C td_J_min_6 ?_
    refine tz_riret C hr hk hQ rfl td_J_min_10 ?_
    exact ⟨tz_ri (by simp [tz_mn, h2]), rfl⟩

abbrev rm_J_abs : Room := { frames := 0, cells := 0, slots := 0, locals := 0 }
set_option maxHeartbeats 4000000 in
set_option maxRecDepth 100000 in
theorem ct_J_abs {l : Launch} {A : Nat → Prop} {D : va_G} {cs : Nat → ClassId} {sz : Nat} {f : tz_PH} {x : Int32} : tz_CN l tyJ_abs prog_14_method_59_code 1 (some (.int)) rm_J_abs 0 0 A D cs sz [.int x] f (some (.int (tz_ab x))) (fun f' => f' = f) := by
  refine tz_C.ofB (lv0 := [(0, .int x)]) (by decide +kernel) (Nat.le_of_ble_eq_true rfl) rfl ?_
  intro p e s m args below meth c Q C hr hk hnm hsz0 hQ
  refine tz_iload_n C 0 rfl rfl td_J_abs_0 ?_
  refine tz_if_ge C td_J_abs_1 (fun h1 => ?_) (fun h1 => ?_)
  · skip
    refine tz_iload_n C 0 rfl rfl td_J_abs_9 ?_
    refine tz_riret C hr hk hQ rfl td_J_abs_10 ?_
    exact ⟨tz_ri (by simp [tz_ab, h1]), rfl⟩
  · skip
    refine tz_iload_n C 0 rfl rfl td_J_abs_4 ?_
    refine tz_ineg C td_J_abs_5 ?_
    refine tz_goto C td_J_abs_6 ?_
    refine tz_riret C hr hk hQ rfl td_J_abs_10 ?_
    exact ⟨tz_ri (by simp [tz_ab, h1]), rfl⟩

abbrev rm_J_floorDiv : Room := { frames := 0, cells := 0, slots := 0, locals := 0 }
set_option maxHeartbeats 4000000 in
set_option maxRecDepth 100000 in
theorem ct_J_floorDiv {l : Launch} {A : Nat → Prop} {D : va_G} {cs : Nat → ClassId} {sz : Nat} {f : tz_PH} {x y : Int32} (h0 : ¬ y = 0) : tz_CN l tyJ_floorDiv prog_14_method_47_code 3 (some (.int)) rm_J_floorDiv 0 0 A D cs sz [.int x, .int y] f (some (.int (tz_fd x y))) (fun f' => f' = f) := by
  refine tz_C.ofB (lv0 := [(0, .int x), (1, .int y)]) (by decide +kernel) (Nat.le_of_ble_eq_true rfl) rfl ?_
  intro p e s m args below meth c Q C hr hk hnm hsz0 hQ
  refine tz_iload_n C 0 rfl rfl td_J_floorDiv_0 ?_
  refine tz_iload_n C 1 rfl rfl td_J_floorDiv_1 ?_
  refine tz_idiv C h0 td_J_floorDiv_2 ?_
  refine tz_istore_n C (lv' := [(0, .int x), (1, .int y), (2, .int (x / y))]) [1, 2, 0] rfl (by decide) rfl td_J_floorDiv_3 ?_
  refine tz_iload_n C 0 rfl rfl td_J_floorDiv_4 ?_
  refine tz_iload_n C 1 rfl rfl td_J_floorDiv_5 ?_
  refine tz_ixor C td_J_floorDiv_6 ?_
  refine tz_if_ge C td_J_floorDiv_7 (fun h7 => ?_) (fun h7 => ?_)
  · skip
    refine tz_iload_n C 2 rfl rfl td_J_floorDiv_21 ?_
    refine tz_riret C hr hk hQ rfl td_J_floorDiv_22 ?_
    exact ⟨tz_ri (by simp [tz_fd, *] <;> rfl), rfl⟩
  · skip
    refine tz_iload_n C 2 rfl rfl td_J_floorDiv_10 ?_
    refine tz_iload_n C 1 rfl rfl td_J_floorDiv_11 ?_
    refine tz_imul C td_J_floorDiv_12 ?_
    refine tz_iload_n C 0 rfl rfl td_J_floorDiv_13 ?_
    refine tz_icmp_eq C td_J_floorDiv_14 (fun h14 => ?_) (fun h14 => ?_)
    · skip
      refine tz_iload_n C 2 rfl rfl td_J_floorDiv_21 ?_
      refine tz_riret C hr hk hQ rfl td_J_floorDiv_22 ?_
      exact ⟨tz_ri (by simp [tz_fd, *] <;> rfl), rfl⟩
    · skip
      refine tz_iload_n C 2 rfl rfl td_J_floorDiv_17 ?_
      refine tz_iconst C (v := 1) (by decide) td_J_floorDiv_18 ?_
      refine tz_isub C td_J_floorDiv_19 ?_
      refine tz_riret C hr hk hQ rfl td_J_floorDiv_20 ?_
      exact ⟨tz_ri (by simp [tz_fd, *] <;> rfl), rfl⟩

abbrev rm_R_length : Room := { frames := 0, cells := 0, slots := 0, locals := 0 }
set_option maxHeartbeats 4000000 in
set_option maxRecDepth 100000 in
theorem ct_R_length {l : Launch} {A : Nat → Prop} {D : va_G} {cs : Nat → ClassId} {sz : Nat} {f : tz_PH} {a n : Nat} {g : Nat → Int32} (hR : tz_Row cs f a n g) : tz_CN l tyR_length prog_7_method_2_code 1 (some (.int)) rm_R_length 0 0 A D cs sz [.ref a] f (some (.int (nI n))) (fun f' => f' = f) := by
  refine tz_C.ofB (lv0 := [(0, .ref a)]) (plainFor_of_name (by decide)) (Nat.le_of_ble_eq_true rfl) rfl ?_
  intro p e s m args below meth c Q C hr hk hnm hsz0 hQ
  refine tz_aload_n C 0 rfl rfl td_R_length_0 ?_
  refine tz_get C tci_R 1 (by decide) tw_94 hR.1 rfl td_R_length_1 ?_
  refine tz_riret C hr hk hQ rfl td_R_length_4 ?_
  exact ⟨rfl, rfl⟩

abbrev rm_R_has : Room := { frames := 0, cells := 0, slots := 0, locals := 0 }
set_option maxHeartbeats 4000000 in
set_option maxRecDepth 100000 in
theorem ct_R_has {l : Launch} {A : Nat → Prop} {D : va_G} {cs : Nat → ClassId} {sz : Nat} {f : tz_PH} {a n : Nat} {g : Nat → Int32} (hR : tz_Row cs f a n g) (hn : n ≤ 120) {i : Int32} : tz_CN l tyR_has prog_7_method_3_code 2 (some (.boolean)) rm_R_has 0 0 A D cs sz [.ref a, .int i] f (some (.int (tz_p (0 ≤ i ∧ i < nI n)))) (fun f' => f' = f) := by
  refine tz_C.ofB (lv0 := [(0, .ref a), (1, .int i)]) (plainFor_of_name (by decide)) (Nat.le_of_ble_eq_true rfl) rfl ?_
  intro p e s m args below meth c Q C hr hk hnm hsz0 hQ
  refine tz_iload_n C 1 rfl rfl td_R_has_0 ?_
  refine tz_if_lt C td_R_has_1 (fun h1 => ?_) (fun h1 => ?_)
  · skip
    refine tz_iconst C (v := 0) (by decide) td_R_has_25 ?_
    refine tz_rzret C hr hk hQ (by first | exact Or.inl rfl | exact Or.inr rfl | exact tz_p01) rfl td_R_has_26 ?_
    exact ⟨tz_ri (by grind [tz_p, tz_at, tz_lt120]), rfl⟩
  · skip
    refine tz_iload_n C 1 rfl rfl td_R_has_4 ?_
    refine tz_aload_n C 0 rfl rfl td_R_has_5 ?_
    refine tz_get C tci_R 1 (by decide) tw_94 hR.1 rfl td_R_has_6 ?_
    refine tz_icmp_ge C td_R_has_9 (fun h9 => ?_) (fun h9 => ?_)
    · skip
      refine tz_iconst C (v := 0) (by decide) td_R_has_25 ?_
      refine tz_rzret C hr hk hQ (by first | exact Or.inl rfl | exact Or.inr rfl | exact tz_p01) rfl td_R_has_26 ?_
      exact ⟨tz_ri (by grind [tz_p, tz_at, tz_lt120]), rfl⟩
    · skip
      refine tz_iload_n C 1 rfl rfl td_R_has_12 ?_
      refine tz_aload_n C 0 rfl rfl td_R_has_13 ?_
      refine tz_get C tci_R 0 (by decide) tw_93 hR.1 rfl td_R_has_14 ?_
      refine tz_alenI C hR.2 (v := 120) (by decide) td_R_has_17 ?_
      refine tz_icmp_ge C td_R_has_18 (fun h18 => ?_) (fun h18 => ?_)
      · skip
        exact absurd (tz_lt120 hn (tz_nle_lt h9)) (Int32.not_lt.mpr h18)
      · skip
        refine tz_iconst C (v := 1) (by decide) td_R_has_21 ?_
        refine tz_goto C td_R_has_22 ?_
        refine tz_rzret C hr hk hQ (by first | exact Or.inl rfl | exact Or.inr rfl | exact tz_p01) rfl td_R_has_26 ?_
        exact ⟨tz_ri (by grind [tz_p, tz_at, tz_lt120]), rfl⟩

abbrev rm_R_at : Room := { frames := 0, cells := 0, slots := 0, locals := 0 }
set_option maxHeartbeats 4000000 in
set_option maxRecDepth 100000 in
theorem ct_R_at {l : Launch} {A : Nat → Prop} {D : va_G} {cs : Nat → ClassId} {sz : Nat} {f : tz_PH} {a n : Nat} {g : Nat → Int32} (hR : tz_Row cs f a n g) (hn : n ≤ 120) {i : Int32} : tz_CN l tyR_at prog_7_method_4_code 2 (some (.int)) rm_R_at 0 0 A D cs sz [.ref a, .int i] f (some (.int (tz_at n g i))) (fun f' => f' = f) := by
  refine tz_C.ofB (lv0 := [(0, .ref a), (1, .int i)]) (plainFor_of_name (by decide)) (Nat.le_of_ble_eq_true rfl) rfl ?_
  intro p e s m args below meth c Q C hr hk hnm hsz0 hQ
  refine tz_iload_n C 1 rfl rfl td_R_at_0 ?_
  refine tz_if_lt C td_R_at_1 (fun h1 => ?_) (fun h1 => ?_)
  · skip
    refine tz_ldc C tw_335 td_R_at_30 ?_
    refine tz_riret C hr hk hQ rfl td_R_at_32 ?_
    exact ⟨tz_ri (by grind [tz_p, tz_at, tz_lt120]), rfl⟩
  · skip
    refine tz_iload_n C 1 rfl rfl td_R_at_4 ?_
    refine tz_aload_n C 0 rfl rfl td_R_at_5 ?_
    refine tz_get C tci_R 1 (by decide) tw_94 hR.1 rfl td_R_at_6 ?_
    refine tz_icmp_ge C td_R_at_9 (fun h9 => ?_) (fun h9 => ?_)
    · skip
      refine tz_ldc C tw_335 td_R_at_30 ?_
      refine tz_riret C hr hk hQ rfl td_R_at_32 ?_
      exact ⟨tz_ri (by grind [tz_p, tz_at, tz_lt120]), rfl⟩
    · skip
      refine tz_iload_n C 1 rfl rfl td_R_at_12 ?_
      refine tz_aload_n C 0 rfl rfl td_R_at_13 ?_
      refine tz_get C tci_R 0 (by decide) tw_93 hR.1 rfl td_R_at_14 ?_
      refine tz_alenI C hR.2 (v := 120) (by decide) td_R_at_17 ?_
      refine tz_icmp_ge C td_R_at_18 (fun h18 => ?_) (fun h18 => ?_)
      · skip
        exact absurd (tz_lt120 hn (tz_nle_lt h9)) (Int32.not_lt.mpr h18)
      · skip
        refine tz_aload_n C 0 rfl rfl td_R_at_21 ?_
        refine tz_get C tci_R 0 (by decide) tw_93 hR.1 rfl td_R_at_22 ?_
        refine tz_iload_n C 1 rfl rfl td_R_at_25 ?_
        refine tz_iald C hR.2 (tz_inI h1 (tz_lt_nI120 (tz_lt120 hn (tz_nle_lt h9))) (by decide)) td_R_at_26 ?_
        refine tz_goto C td_R_at_27 ?_
        refine tz_riret C hr hk hQ rfl td_R_at_32 ?_
        exact ⟨tz_ri (by grind [tz_p, tz_at, tz_lt120]), rfl⟩
