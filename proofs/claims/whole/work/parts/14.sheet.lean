
def tz_Sh (cs : Nat → ClassId) (f : tz_PH) (a : Nat) (b : Int32) (n : Nat) (g : Nat → Int32) : Prop := f a = some (tz_obj 6 [.ref (a + 1), .int b, .int (nI n)]) ∧ f (a + 1) = some (tz_ints cs 120 g)
def tz_lw (b v : Int32) : Int32 := (v <<< ((32 - b) &&& 31)) >>> ((32 - b) &&& 31)
def tz_qset (b : Int32) (n : Nat) (g : Nat → Int32) (i v : Int32) : Nat → Int32 := if 0 ≤ i ∧ i < nI n then upd g i.toNatClampNeg (tz_lw b v) else g
def tz_smp (b v : Int32) : Int32 := if (-10000 ≤ v ∧ v ≤ 10000) ∧ ¬ (b = 8 ∧ v = -128) then v else tz_LO
abbrev tz_hld (len fr n : Int32) : Prop := 0 ≤ fr ∧ 0 ≤ n ∧ n ≤ len ∧ fr ≤ len - n

abbrev rm_X_holds : Room := { frames := 0, cells := 0, slots := 0, locals := 0 }
set_option maxHeartbeats 4000000 in
set_option maxRecDepth 100000 in
theorem ct_X_holds {l : Launch} {A : Nat → Prop} {D : va_G} {cs : Nat → ClassId} {sz : Nat} {f : tz_PH} {x y z : Int32} : tz_CN l tyX_holds prog_1_method_35_code 3 (some (.boolean)) rm_X_holds 0 0 A D cs sz [.int x, .int y, .int z] f (some (.int (tz_p (tz_hld x y z)))) (fun f' => f' = f) := by
  refine tz_C.ofB (lv0 := [(0, .int x), (1, .int y), (2, .int z)]) (plainFor_of_name (by decide)) (Nat.le_of_ble_eq_true rfl) rfl ?_
  intro p_ e_ s_ m_ ar_ be_ me_ c_ Q_ C_ hr_ hk_ hnm_ hz_ hQ_
  refine tz_iload_n C_ 1 rfl rfl td_X_holds_0 ?_
  refine tz_if_lt C_ td_X_holds_1 (fun h1 => ?_) (fun h1 => ?_)
  · skip
    refine tz_iconst C_ (v := 0) (by decide) td_X_holds_24 ?_
    refine tz_rzret C_ hr_ hk_ hQ_ (by first | exact Or.inl rfl | exact Or.inr rfl | exact tz_p01) rfl td_X_holds_25 ?_
    exact ⟨tz_ri (by grind [tz_p]), rfl⟩
  · skip
    refine tz_iload_n C_ 2 rfl rfl td_X_holds_4 ?_
    refine tz_if_lt C_ td_X_holds_5 (fun h5 => ?_) (fun h5 => ?_)
    · skip
      refine tz_iconst C_ (v := 0) (by decide) td_X_holds_24 ?_
      refine tz_rzret C_ hr_ hk_ hQ_ (by first | exact Or.inl rfl | exact Or.inr rfl | exact tz_p01) rfl td_X_holds_25 ?_
      exact ⟨tz_ri (by grind [tz_p]), rfl⟩
    · skip
      refine tz_iload_n C_ 2 rfl rfl td_X_holds_8 ?_
      refine tz_iload_n C_ 0 rfl rfl td_X_holds_9 ?_
      refine tz_icmp_gt C_ td_X_holds_10 (fun h10 => ?_) (fun h10 => ?_)
      · skip
        refine tz_iconst C_ (v := 0) (by decide) td_X_holds_24 ?_
        refine tz_rzret C_ hr_ hk_ hQ_ (by first | exact Or.inl rfl | exact Or.inr rfl | exact tz_p01) rfl td_X_holds_25 ?_
        exact ⟨tz_ri (by grind [tz_p]), rfl⟩
      · skip
        refine tz_iload_n C_ 1 rfl rfl td_X_holds_13 ?_
        refine tz_iload_n C_ 0 rfl rfl td_X_holds_14 ?_
        refine tz_iload_n C_ 2 rfl rfl td_X_holds_15 ?_
        refine tz_isub C_ td_X_holds_16 ?_
        refine tz_icmp_gt C_ td_X_holds_17 (fun h17 => ?_) (fun h17 => ?_)
        · skip
          refine tz_iconst C_ (v := 0) (by decide) td_X_holds_24 ?_
          refine tz_rzret C_ hr_ hk_ hQ_ (by first | exact Or.inl rfl | exact Or.inr rfl | exact tz_p01) rfl td_X_holds_25 ?_
          exact ⟨tz_ri (by grind [tz_p]), rfl⟩
        · skip
          refine tz_iconst C_ (v := 1) (by decide) td_X_holds_20 ?_
          refine tz_goto C_ td_X_holds_21 ?_
          refine tz_rzret C_ hr_ hk_ hQ_ (by first | exact Or.inl rfl | exact Or.inr rfl | exact tz_p01) rfl td_X_holds_25 ?_
          exact ⟨tz_ri (by grind [tz_p]), rfl⟩

abbrev rm_X_isSample : Room := { frames := 0, cells := 0, slots := 0, locals := 0 }
set_option maxHeartbeats 4000000 in
set_option maxRecDepth 100000 in
theorem ct_X_isSample {l : Launch} {A : Nat → Prop} {D : va_G} {cs : Nat → ClassId} {sz : Nat} {f : tz_PH} {x : Int32} : tz_CN l tyX_isSample prog_1_method_34_code 1 (some (.boolean)) rm_X_isSample 0 0 A D cs sz [.int x] f (some (.int (tz_p (-10000 ≤ x ∧ x ≤ 10000)))) (fun f' => f' = f) := by
  refine tz_C.ofB (lv0 := [(0, .int x)]) (plainFor_of_name (by decide)) (Nat.le_of_ble_eq_true rfl) rfl ?_
  intro p_ e_ s_ m_ ar_ be_ me_ c_ Q_ C_ hr_ hk_ hnm_ hz_ hQ_
  refine tz_iload_n C_ 0 rfl rfl td_X_isSample_0 ?_
  refine tz_sipush C_ (v := -10000) (by decide) td_X_isSample_1 ?_
  refine tz_icmp_lt C_ td_X_isSample_4 (fun h4 => ?_) (fun h4 => ?_)
  · skip
    refine tz_iconst C_ (v := 0) (by decide) td_X_isSample_18 ?_
    refine tz_rzret C_ hr_ hk_ hQ_ (by first | exact Or.inl rfl | exact Or.inr rfl | exact tz_p01) rfl td_X_isSample_19 ?_
    exact ⟨tz_ri (by grind [tz_p]), rfl⟩
  · skip
    refine tz_iload_n C_ 0 rfl rfl td_X_isSample_7 ?_
    refine tz_sipush C_ (v := 10000) (by decide) td_X_isSample_8 ?_
    refine tz_icmp_gt C_ td_X_isSample_11 (fun h11 => ?_) (fun h11 => ?_)
    · skip
      refine tz_iconst C_ (v := 0) (by decide) td_X_isSample_18 ?_
      refine tz_rzret C_ hr_ hk_ hQ_ (by first | exact Or.inl rfl | exact Or.inr rfl | exact tz_p01) rfl td_X_isSample_19 ?_
      exact ⟨tz_ri (by grind [tz_p]), rfl⟩
    · skip
      refine tz_iconst C_ (v := 1) (by decide) td_X_isSample_14 ?_
      refine tz_goto C_ td_X_isSample_15 ?_
      refine tz_rzret C_ hr_ hk_ hQ_ (by first | exact Or.inl rfl | exact Or.inr rfl | exact tz_p01) rfl td_X_isSample_19 ?_
      exact ⟨tz_ri (by grind [tz_p]), rfl⟩

abbrev rm_X_isMark : Room := { frames := 0, cells := 0, slots := 0, locals := 0 }
set_option maxHeartbeats 4000000 in
set_option maxRecDepth 100000 in
theorem ct_X_isMark {l : Launch} {A : Nat → Prop} {D : va_G} {cs : Nat → ClassId} {sz : Nat} {f : tz_PH} {x : Int32} : tz_CN l tyX_isMark prog_1_method_33_code 1 (some (.boolean)) rm_X_isMark 0 0 A D cs sz [.int x] f (some (.int (tz_p (0 ≤ x ∧ x < 6)))) (fun f' => f' = f) := by
  refine tz_C.ofB (lv0 := [(0, .int x)]) (plainFor_of_name (by decide)) (Nat.le_of_ble_eq_true rfl) rfl ?_
  intro p_ e_ s_ m_ ar_ be_ me_ c_ Q_ C_ hr_ hk_ hnm_ hz_ hQ_
  refine tz_iload_n C_ 0 rfl rfl td_X_isMark_0 ?_
  refine tz_if_lt C_ td_X_isMark_1 (fun h1 => ?_) (fun h1 => ?_)
  · skip
    refine tz_iconst C_ (v := 0) (by decide) td_X_isMark_14 ?_
    refine tz_rzret C_ hr_ hk_ hQ_ (by first | exact Or.inl rfl | exact Or.inr rfl | exact tz_p01) rfl td_X_isMark_15 ?_
    exact ⟨tz_ri (by grind [tz_p]), rfl⟩
  · skip
    refine tz_iload_n C_ 0 rfl rfl td_X_isMark_4 ?_
    refine tz_bipush C_ (v := 6) (by decide) td_X_isMark_5 ?_
    refine tz_icmp_ge C_ td_X_isMark_7 (fun h7 => ?_) (fun h7 => ?_)
    · skip
      refine tz_iconst C_ (v := 0) (by decide) td_X_isMark_14 ?_
      refine tz_rzret C_ hr_ hk_ hQ_ (by first | exact Or.inl rfl | exact Or.inr rfl | exact tz_p01) rfl td_X_isMark_15 ?_
      exact ⟨tz_ri (by grind [tz_p]), rfl⟩
    · skip
      refine tz_iconst C_ (v := 1) (by decide) td_X_isMark_10 ?_
      refine tz_goto C_ td_X_isMark_11 ?_
      refine tz_rzret C_ hr_ hk_ hQ_ (by first | exact Or.inl rfl | exact Or.inr rfl | exact tz_p01) rfl td_X_isMark_15 ?_
      exact ⟨tz_ri (by grind [tz_p]), rfl⟩

abbrev rm_Q_canHave : Room := { frames := 0, cells := 0, slots := 0, locals := 0 }
set_option maxHeartbeats 4000000 in
set_option maxRecDepth 100000 in
theorem ct_Q_canHave {l : Launch} {A : Nat → Prop} {D : va_G} {cs : Nat → ClassId} {sz : Nat} {f : tz_PH} {x : Int32} : tz_CN l tyQ_canHave prog_8_method_2_code 1 (some (.boolean)) rm_Q_canHave 0 0 A D cs sz [.int x] f (some (.int (tz_p (x = 0 ∨ x = 8 ∨ x = 16 ∨ x = 32)))) (fun f' => f' = f) := by
  refine tz_C.ofB (lv0 := [(0, .int x)]) (plainFor_of_name (by decide)) (Nat.le_of_ble_eq_true rfl) rfl ?_
  intro p_ e_ s_ m_ ar_ be_ me_ c_ Q_ C_ hr_ hk_ hnm_ hz_ hQ_
  refine tz_iload_n C_ 0 rfl rfl td_Q_canHave_0 ?_
  refine tz_if_eq C_ td_Q_canHave_1 (fun h1 => ?_) (fun h1 => ?_)
  · skip
    refine tz_iconst C_ (v := 1) (by decide) td_Q_canHave_22 ?_
    refine tz_goto C_ td_Q_canHave_23 ?_
    refine tz_rzret C_ hr_ hk_ hQ_ (by first | exact Or.inl rfl | exact Or.inr rfl | exact tz_p01) rfl td_Q_canHave_27 ?_
    exact ⟨tz_ri (by grind [tz_p]), rfl⟩
  · skip
    refine tz_iload_n C_ 0 rfl rfl td_Q_canHave_4 ?_
    refine tz_bipush C_ (v := 8) (by decide) td_Q_canHave_5 ?_
    refine tz_icmp_eq C_ td_Q_canHave_7 (fun h7 => ?_) (fun h7 => ?_)
    · skip
      refine tz_iconst C_ (v := 1) (by decide) td_Q_canHave_22 ?_
      refine tz_goto C_ td_Q_canHave_23 ?_
      refine tz_rzret C_ hr_ hk_ hQ_ (by first | exact Or.inl rfl | exact Or.inr rfl | exact tz_p01) rfl td_Q_canHave_27 ?_
      exact ⟨tz_ri (by grind [tz_p]), rfl⟩
    · skip
      refine tz_iload_n C_ 0 rfl rfl td_Q_canHave_10 ?_
      refine tz_bipush C_ (v := 16) (by decide) td_Q_canHave_11 ?_
      refine tz_icmp_eq C_ td_Q_canHave_13 (fun h13 => ?_) (fun h13 => ?_)
      · skip
        refine tz_iconst C_ (v := 1) (by decide) td_Q_canHave_22 ?_
        refine tz_goto C_ td_Q_canHave_23 ?_
        refine tz_rzret C_ hr_ hk_ hQ_ (by first | exact Or.inl rfl | exact Or.inr rfl | exact tz_p01) rfl td_Q_canHave_27 ?_
        exact ⟨tz_ri (by grind [tz_p]), rfl⟩
      · skip
        refine tz_iload_n C_ 0 rfl rfl td_Q_canHave_16 ?_
        refine tz_bipush C_ (v := 32) (by decide) td_Q_canHave_17 ?_
        refine tz_icmp_ne C_ td_Q_canHave_19 (fun h19 => ?_) (fun h19 => ?_)
        · skip
          refine tz_iconst C_ (v := 0) (by decide) td_Q_canHave_26 ?_
          refine tz_rzret C_ hr_ hk_ hQ_ (by first | exact Or.inl rfl | exact Or.inr rfl | exact tz_p01) rfl td_Q_canHave_27 ?_
          exact ⟨tz_ri (by grind [tz_p]), rfl⟩
        · skip
          refine tz_iconst C_ (v := 1) (by decide) td_Q_canHave_22 ?_
          refine tz_goto C_ td_Q_canHave_23 ?_
          refine tz_rzret C_ hr_ hk_ hQ_ (by first | exact Or.inl rfl | exact Or.inr rfl | exact tz_p01) rfl td_Q_canHave_27 ?_
          exact ⟨tz_ri (by grind [tz_p]), rfl⟩

abbrev rm_Q_isMissing : Room := { frames := 0, cells := 0, slots := 0, locals := 0 }
set_option maxHeartbeats 4000000 in
set_option maxRecDepth 100000 in
theorem ct_Q_isMissing {l : Launch} {A : Nat → Prop} {D : va_G} {cs : Nat → ClassId} {sz : Nat} {f : tz_PH} {a n : Nat} {b : Int32} {g : Nat → Int32} (hS : tz_Sh cs f a b n g) : tz_CN l tyQ_isMissing prog_8_method_3_code 1 (some (.boolean)) rm_Q_isMissing 0 0 A D cs sz [.ref a] f (some (.int (tz_p (b = 0)))) (fun f' => f' = f) := by
  refine tz_C.ofB (lv0 := [(0, .ref a)]) (plainFor_of_name (by decide)) (Nat.le_of_ble_eq_true rfl) rfl ?_
  intro p_ e_ s_ m_ ar_ be_ me_ c_ Q_ C_ hr_ hk_ hnm_ hz_ hQ_
  refine tz_aload_n C_ 0 rfl rfl td_Q_isMissing_0 ?_
  refine tz_get C_ tci_Q 1 (by decide) tw_175 hS.1 rfl td_Q_isMissing_1 ?_
  refine tz_if_ne C_ td_Q_isMissing_4 (fun h4 => ?_) (fun h4 => ?_)
  · skip
    refine tz_iconst C_ (v := 0) (by decide) td_Q_isMissing_11 ?_
    refine tz_rzret C_ hr_ hk_ hQ_ (by first | exact Or.inl rfl | exact Or.inr rfl | exact tz_p01) rfl td_Q_isMissing_12 ?_
    exact ⟨tz_ri (by grind [tz_p]), rfl⟩
  · skip
    refine tz_iconst C_ (v := 1) (by decide) td_Q_isMissing_7 ?_
    refine tz_goto C_ td_Q_isMissing_8 ?_
    refine tz_rzret C_ hr_ hk_ hQ_ (by first | exact Or.inl rfl | exact Or.inr rfl | exact tz_p01) rfl td_Q_isMissing_12 ?_
    exact ⟨tz_ri (by grind [tz_p]), rfl⟩

abbrev rm_Q_bits : Room := { frames := 0, cells := 0, slots := 0, locals := 0 }
set_option maxHeartbeats 4000000 in
set_option maxRecDepth 100000 in
theorem ct_Q_bits {l : Launch} {A : Nat → Prop} {D : va_G} {cs : Nat → ClassId} {sz : Nat} {f : tz_PH} {a n : Nat} {b : Int32} {g : Nat → Int32} (hS : tz_Sh cs f a b n g) : tz_CN l tyQ_bits prog_8_method_4_code 1 (some (.int)) rm_Q_bits 0 0 A D cs sz [.ref a] f (some (.int b)) (fun f' => f' = f) := by
  refine tz_C.ofB (lv0 := [(0, .ref a)]) (plainFor_of_name (by decide)) (Nat.le_of_ble_eq_true rfl) rfl ?_
  intro p_ e_ s_ m_ ar_ be_ me_ c_ Q_ C_ hr_ hk_ hnm_ hz_ hQ_
  refine tz_aload_n C_ 0 rfl rfl td_Q_bits_0 ?_
  refine tz_get C_ tci_Q 1 (by decide) tw_175 hS.1 rfl td_Q_bits_1 ?_
  refine tz_riret C_ hr_ hk_ hQ_ rfl td_Q_bits_4 ?_
  exact ⟨rfl, rfl⟩

abbrev rm_Q_length : Room := { frames := 0, cells := 0, slots := 0, locals := 0 }
set_option maxHeartbeats 4000000 in
set_option maxRecDepth 100000 in
theorem ct_Q_length {l : Launch} {A : Nat → Prop} {D : va_G} {cs : Nat → ClassId} {sz : Nat} {f : tz_PH} {a n : Nat} {b : Int32} {g : Nat → Int32} (hS : tz_Sh cs f a b n g) : tz_CN l tyQ_length prog_8_method_5_code 1 (some (.int)) rm_Q_length 0 0 A D cs sz [.ref a] f (some (.int (nI n))) (fun f' => f' = f) := by
  refine tz_C.ofB (lv0 := [(0, .ref a)]) (plainFor_of_name (by decide)) (Nat.le_of_ble_eq_true rfl) rfl ?_
  intro p_ e_ s_ m_ ar_ be_ me_ c_ Q_ C_ hr_ hk_ hnm_ hz_ hQ_
  refine tz_aload_n C_ 0 rfl rfl td_Q_length_0 ?_
  refine tz_get C_ tci_Q 2 (by decide) tw_176 hS.1 rfl td_Q_length_1 ?_
  refine tz_riret C_ hr_ hk_ hQ_ rfl td_Q_length_4 ?_
  exact ⟨rfl, rfl⟩

abbrev rm_Q_has : Room := { frames := 0, cells := 0, slots := 0, locals := 0 }
set_option maxHeartbeats 4000000 in
set_option maxRecDepth 100000 in
theorem ct_Q_has {l : Launch} {A : Nat → Prop} {D : va_G} {cs : Nat → ClassId} {sz : Nat} {f : tz_PH} {a n : Nat} {b : Int32} {g : Nat → Int32} (hS : tz_Sh cs f a b n g) (hn : n ≤ 120) {i : Int32} : tz_CN l tyQ_has prog_8_method_6_code 2 (some (.boolean)) rm_Q_has 0 0 A D cs sz [.ref a, .int i] f (some (.int (tz_p (0 ≤ i ∧ i < nI n)))) (fun f' => f' = f) := by
  refine tz_C.ofB (lv0 := [(0, .ref a), (1, .int i)]) (plainFor_of_name (by decide)) (Nat.le_of_ble_eq_true rfl) rfl ?_
  intro p_ e_ s_ m_ ar_ be_ me_ c_ Q_ C_ hr_ hk_ hnm_ hz_ hQ_
  refine tz_iload_n C_ 1 rfl rfl td_Q_has_0 ?_
  refine tz_if_lt C_ td_Q_has_1 (fun h1 => ?_) (fun h1 => ?_)
  · skip
    refine tz_iconst C_ (v := 0) (by decide) td_Q_has_25 ?_
    refine tz_rzret C_ hr_ hk_ hQ_ (by first | exact Or.inl rfl | exact Or.inr rfl | exact tz_p01) rfl td_Q_has_26 ?_
    exact ⟨tz_ri (by grind [tz_p, tz_at, tz_lt120]), rfl⟩
  · skip
    refine tz_iload_n C_ 1 rfl rfl td_Q_has_4 ?_
    refine tz_aload_n C_ 0 rfl rfl td_Q_has_5 ?_
    refine tz_get C_ tci_Q 2 (by decide) tw_176 hS.1 rfl td_Q_has_6 ?_
    refine tz_icmp_ge C_ td_Q_has_9 (fun h9 => ?_) (fun h9 => ?_)
    · skip
      refine tz_iconst C_ (v := 0) (by decide) td_Q_has_25 ?_
      refine tz_rzret C_ hr_ hk_ hQ_ (by first | exact Or.inl rfl | exact Or.inr rfl | exact tz_p01) rfl td_Q_has_26 ?_
      exact ⟨tz_ri (by grind [tz_p, tz_at, tz_lt120]), rfl⟩
    · skip
      refine tz_iload_n C_ 1 rfl rfl td_Q_has_12 ?_
      refine tz_aload_n C_ 0 rfl rfl td_Q_has_13 ?_
      refine tz_get C_ tci_Q 0 (by decide) tw_174 hS.1 rfl td_Q_has_14 ?_
      refine tz_alenI C_ hS.2 (v := 120) (by decide) td_Q_has_17 ?_
      refine tz_icmp_ge C_ td_Q_has_18 (fun h18 => ?_) (fun h18 => ?_)
      · skip
        exact absurd (tz_lt120 hn (tz_nle_lt h9)) (Int32.not_lt.mpr h18)
      · skip
        refine tz_iconst C_ (v := 1) (by decide) td_Q_has_21 ?_
        refine tz_goto C_ td_Q_has_22 ?_
        refine tz_rzret C_ hr_ hk_ hQ_ (by first | exact Or.inl rfl | exact Or.inr rfl | exact tz_p01) rfl td_Q_has_26 ?_
        exact ⟨tz_ri (by grind [tz_p, tz_at, tz_lt120]), rfl⟩

abbrev rm_Q_restart : Room := { frames := 1, cells := 0, slots := 0, locals := 23 }
set_option maxHeartbeats 4000000 in
set_option maxRecDepth 100000 in
theorem ct_Q_restart {l : Launch} {A : Nat → Prop} {D : va_G} {cs : Nat → ClassId} {sz : Nat} {f : tz_PH} {a n : Nat} {b : Int32} {g : Nat → Int32} (hS : tz_Sh cs f a b n g) {x : Int32} {k : Nat} (hk : k ≤ 120) : tz_CN l tyQ_restart prog_8_method_7_code 3 (none) rm_Q_restart 0 0 A D cs sz [.ref a, .int x, .int (nI k)] f (none) (fun f' => tz_Sh cs f' a x k (tz_fl (fun _ => 0) g 120) ∧ ∀ q, (q < a ∨ a + 2 ≤ q) → f' q = f q) := by
  refine tz_C.ofB (lv0 := [(0, .ref a), (1, .int x), (2, .int (nI k))]) (plainFor_of_name (by decide)) (Nat.le_of_ble_eq_true rfl) rfl ?_
  intro p_ e_ s_ m_ ar_ be_ me_ c_ Q_ C_ hr_ hk_ hnm_ hz_ hQ_
  refine tz_aload_n C_ 0 rfl rfl td_Q_restart_0 ?_
  refine tz_get C_ tci_Q 0 (by decide) tw_174 hS.1 rfl td_Q_restart_1 ?_
  refine tz_iconst C_ (v := 0) (by decide) td_Q_restart_4 ?_
  refine tz_cS C_ tmi_K_fill tw_102 tw_408 (As := [.ref (a + 1), .int 0]) (by exact (ct_K_fill hS.2 (by decide))) rfl (rest := []) rfl (by decide) (Nat.le_of_ble_eq_true rfl) td_Q_restart_5 (st1 := []) rfl (fun f1 hF1 => ?_)
  obtain ⟨hP2, hq2⟩ := hF1
  refine tz_aload_n C_ 0 rfl rfl td_Q_restart_8 ?_
  refine tz_iload_n C_ 1 rfl rfl td_Q_restart_9 ?_
  have k3 : f1 a = some (tz_obj 6 [.ref (a + 1), .int b, .int (nI n)]) := ((hq2 _ (by omega)).trans hS.1)
  refine tz_wput C_ tci_Q 1 (by decide) tw_175 rfl k3 (Nat.le_of_ble_eq_true rfl) ⟨rfl, rfl⟩ (fs' := [.ref (a + 1), .int x, .int (nI n)]) rfl td_Q_restart_10 (fun f4 hs4 hq4 => ?_)
  refine tz_aload_n C_ 0 rfl rfl td_Q_restart_13 ?_
  refine tz_iconst C_ (v := 0) (by decide) td_Q_restart_14 ?_
  refine tz_iload_n C_ 2 rfl rfl td_Q_restart_15 ?_
  refine tz_aload_n C_ 0 rfl rfl td_Q_restart_16 ?_
  refine tz_get C_ tci_Q 0 (by decide) tw_174 hs4 rfl td_Q_restart_17 ?_
  have k5 : f4 (a + 1) = some (tz_ints cs 120 (tz_fl (fun _ => 0) g 120)) := ((hq4 _ (by omega)).trans hP2)
  refine tz_alenI C_ k5 (v := 120) (by decide) td_Q_restart_20 ?_
  refine tz_rS C_ tmi_J_min tw_305 tw_409 (As := [.int (nI k), .int 120]) (by exact ct_J_min) rfl (rest := [.int 0, .ref a]) rfl (by decide) (Nat.le_of_ble_eq_true rfl) td_Q_restart_21 (st1 := [.int (tz_mn (nI k) 120), .int 0, .ref a]) rfl ?_
  refine tz_rS C_ tmi_J_max tw_318 tw_410 (As := [.int 0, .int (tz_mn (nI k) 120)]) (by exact ct_J_max) rfl (rest := [.ref a]) rfl (by decide) (Nat.le_of_ble_eq_true rfl) td_Q_restart_24 (st1 := [.int (tz_mx 0 (tz_mn (nI k) 120)), .ref a]) rfl ?_
  refine tz_wput C_ tci_Q 2 (by decide) tw_176 rfl hs4 (Nat.le_of_ble_eq_true rfl) ⟨rfl, rfl⟩ (fs' := [.ref (a + 1), .int x, .int (tz_mx 0 (tz_mn (nI k) 120))]) rfl td_Q_restart_27 (fun f6 hs6 hq6 => ?_)
  refine tz_rvret C_ hr_ hk_ hQ_ rfl td_Q_restart_30 ?_
  have k7 : f6 (a + 1) = some (tz_ints cs 120 (tz_fl (fun _ => 0) g 120)) := ((hq6 _ (by omega)).trans k5)
  refine ⟨rfl, ⟨?_, k7⟩, (fun q hh => by rw [hq6 q (by omega), hq4 q (by omega), hq2 q (by omega)])⟩
  have e9 : tz_mx 0 (tz_mn (nI k) 120) = nI k := tz_clip hk
  rw [← e9]; exact hs6

abbrev rm_Q_set : Room := { frames := 1, cells := 0, slots := 0, locals := 21 }
set_option maxHeartbeats 4000000 in
set_option maxRecDepth 100000 in
theorem ct_Q_set {l : Launch} {A : Nat → Prop} {D : va_G} {cs : Nat → ClassId} {sz : Nat} {f : tz_PH} {a n : Nat} {b : Int32} {g : Nat → Int32} (hS : tz_Sh cs f a b n g) (hn : n ≤ 120) {i v : Int32} : tz_CN l tyQ_set prog_8_method_8_code 4 (none) rm_Q_set 0 0 A D cs sz [.ref a, .int i, .int v] f (none) (fun f' => tz_Sh cs f' a b n (tz_qset b n g i v) ∧ ∀ q, (q < a ∨ a + 2 ≤ q) → f' q = f q) := by
  refine tz_C.ofB (lv0 := [(0, .ref a), (1, .int i), (2, .int v)]) (plainFor_of_name (by decide)) (Nat.le_of_ble_eq_true rfl) rfl ?_
  intro p_ e_ s_ m_ ar_ be_ me_ c_ Q_ C_ hr_ hk_ hnm_ hz_ hQ_
  refine tz_aload_n C_ 0 rfl rfl td_Q_set_0 ?_
  refine tz_iload_n C_ 1 rfl rfl td_Q_set_1 ?_
  refine tz_rV C_ tmi_Q_has tw_425 tw_426 tw_432 hS.1 rfl (As := [.int i]) (by exact (ct_Q_has (b := b) (n := n) (g := g) ⟨hS.1, hS.2⟩ (by omega))) rfl (rest := []) rfl (by decide) (Nat.le_of_ble_eq_true rfl) td_Q_set_2 (st1 := [.int (tz_p (0 ≤ i ∧ i < nI n))]) rfl ?_
  refine tz_if_eq C_ td_Q_set_5 (fun h5 => ?_) (fun h5 => ?_)
  · skip
    replace h5 := tz_p0.mp h5
    refine tz_rvret C_ hr_ hk_ hQ_ rfl td_Q_set_27 ?_
    refine ⟨rfl, ⟨hS.1, ?_⟩, fun _ _ => rfl⟩
    rw [tz_qset, if_neg h5]; exact hS.2
  · skip
    replace h5 := tz_p1.mp h5
    refine tz_bipush C_ (v := 32) (by decide) td_Q_set_8 ?_
    refine tz_aload_n C_ 0 rfl rfl td_Q_set_10 ?_
    refine tz_get C_ tci_Q 1 (by decide) tw_175 hS.1 rfl td_Q_set_11 ?_
    refine tz_isub C_ td_Q_set_14 ?_
    refine tz_istore_n C_ (lv' := [(0, .ref a), (1, .int i), (2, .int v), (3, .int (32 - b))]) [1, 2, 3, 0] rfl (by decide) rfl td_Q_set_15 ?_
    refine tz_aload_n C_ 0 rfl rfl td_Q_set_16 ?_
    refine tz_get C_ tci_Q 0 (by decide) tw_174 hS.1 rfl td_Q_set_17 ?_
    refine tz_iload_n C_ 1 rfl rfl td_Q_set_20 ?_
    refine tz_iload_n C_ 2 rfl rfl td_Q_set_21 ?_
    refine tz_iload_n C_ 3 rfl rfl td_Q_set_22 ?_
    refine tz_ishl C_ td_Q_set_23 ?_
    refine tz_iload_n C_ 3 rfl rfl td_Q_set_24 ?_
    refine tz_ishr C_ td_Q_set_25 ?_
    refine tz_wiast C_ hS.2 (tz_inI (tz_le_nlt h5.1) (tz_lt_nI120 (tz_lt120 hn h5.2)) (by decide)) (g' := upd g (Int32.toNatClampNeg i) ((v <<< ((32 - b) &&& 31)) >>> ((32 - b) &&& 31))) rfl td_Q_set_26 (fun f1 hs1 hq1 => ?_)
    refine tz_rvret C_ hr_ hk_ hQ_ rfl td_Q_set_27 ?_
    have k2 : f1 a = some (tz_obj 6 [.ref (a + 1), .int b, .int (nI n)]) := ((hq1 _ (by omega)).trans hS.1)
    refine ⟨rfl, ⟨k2, ?_⟩, (fun q hh => by rw [hq1 q (by omega)])⟩
    rw [tz_qset, if_pos h5]; exact hs1


theorem tz_hldN {n i k : Nat} (hn : n ≤ 120) (h : i + k ≤ n) : tz_hld (nI n) (nI i) (nI k) := by
  refine ⟨nI_pos' (by omega), nI_pos' (by omega), nI_le (by omega) (by omega), ?_⟩
  rw [pk_sub (by omega)]
  exact nI_le (by omega) (by omega)

abbrev rm_Q_take : Room := { frames := 1, cells := 0, slots := 0, locals := 22 }
set_option maxHeartbeats 4000000 in
set_option maxRecDepth 100000 in
theorem ct_Q_take {l : Launch} {A : Nat → Prop} {D : va_G} {cs : Nat → ClassId} {sz : Nat} {f : tz_PH} {a n : Nat} {b : Int32} {g : Nat → Int32} (hS : tz_Sh cs f a b n g) (hn : n ≤ 120) {a2 n2 i k j : Nat} {b2 : Int32} {g2 : Nat → Int32} (hS2 : tz_Sh cs f a2 b2 n2 g2) (hn2 : n2 ≤ 120) (h1 : i + k ≤ n2) (h2 : j + k ≤ n) : tz_CN l tyQ_take prog_8_method_9_code 5 (none) rm_Q_take 0 0 A D cs sz [.ref a, .ref a2, .int (nI i), .int (nI j), .int (nI k)] f (none) (fun f' => tz_Sh cs f' a b n (va_cpy g2 g i j k) ∧ ∀ q, (q < a ∨ a + 2 ≤ q) → f' q = f q) := by
  refine tz_C.ofB (lv0 := [(0, .ref a), (1, .ref a2), (2, .int (nI i)), (3, .int (nI j)), (4, .int (nI k))]) (plainFor_of_name (by decide)) (Nat.le_of_ble_eq_true rfl) rfl ?_
  intro p_ e_ s_ m_ ar_ be_ me_ c_ Q_ C_ hr_ hk_ hnm_ hz_ hQ_
  refine tz_aload_n C_ 1 rfl rfl td_Q_take_0 ?_
  refine tz_get C_ tci_Q 2 (by decide) tw_176 hS2.1 rfl td_Q_take_1 ?_
  refine tz_iload_n C_ 2 rfl rfl td_Q_take_4 ?_
  refine tz_iload C_ 4 rfl td_Q_take_5 ?_
  refine tz_rSN C_ tmi_X_holds tw_347 tw_446 (As := [.int (nI n2), .int (nI i), .int (nI k)]) (by exact ct_X_holds) rfl (rest := []) rfl (by decide) (Nat.le_of_ble_eq_true rfl) td_Q_take_7 (st1 := [.int (tz_p (tz_hld (nI n2) (nI i) (nI k)))]) rfl ?_
  refine tz_if_eq C_ td_Q_take_10 (fun h10 => ?_) (fun h10 => ?_)
  · skip
    replace h10 := tz_p0.mp h10
    exact absurd (tz_hldN hn2 h1) h10
  · skip
    replace h10 := tz_p1.mp h10
    refine tz_aload_n C_ 0 rfl rfl td_Q_take_13 ?_
    refine tz_get C_ tci_Q 2 (by decide) tw_176 hS.1 rfl td_Q_take_14 ?_
    refine tz_iload_n C_ 3 rfl rfl td_Q_take_17 ?_
    refine tz_iload C_ 4 rfl td_Q_take_18 ?_
    refine tz_rSN C_ tmi_X_holds tw_347 tw_446 (As := [.int (nI n), .int (nI j), .int (nI k)]) (by exact ct_X_holds) rfl (rest := []) rfl (by decide) (Nat.le_of_ble_eq_true rfl) td_Q_take_20 (st1 := [.int (tz_p (tz_hld (nI n) (nI j) (nI k)))]) rfl ?_
    refine tz_if_eq C_ td_Q_take_23 (fun h23 => ?_) (fun h23 => ?_)
    · skip
      replace h23 := tz_p0.mp h23
      exact absurd (tz_hldN hn h2) h23
    · skip
      replace h23 := tz_p1.mp h23
      refine tz_aload_n C_ 1 rfl rfl td_Q_take_26 ?_
      refine tz_get C_ tci_Q 0 (by decide) tw_174 hS2.1 rfl td_Q_take_27 ?_
      refine tz_iload_n C_ 2 rfl rfl td_Q_take_30 ?_
      refine tz_aload_n C_ 0 rfl rfl td_Q_take_31 ?_
      refine tz_get C_ tci_Q 0 (by decide) tw_174 hS.1 rfl td_Q_take_32 ?_
      refine tz_iload_n C_ 3 rfl rfl td_Q_take_35 ?_
      refine tz_iload C_ 4 rfl td_Q_take_36 ?_
      refine tz_wacopy C_ tw_447 tw_298 tw_297 tw_54 hS2.2 hS.2 (nI_pos (by omega)) (nI_pos (by omega)) (nI_pos (by omega)) (by rw [nI_clamp (by omega), nI_clamp (by omega)]; omega) (by rw [nI_clamp (by omega), nI_clamp (by omega)]; omega) (by decide) td_Q_take_38 (fun f1 hs1 hq1 => ?_)
      refine tz_rvret C_ hr_ hk_ hQ_ rfl td_Q_take_41 ?_
      have k2 : f1 a = some (tz_obj 6 [.ref (a + 1), .int b, .int (nI n)]) := ((hq1 _ (by omega)).trans hS.1)
      have e9 := hs1
      rw [nI_clamp (by omega), nI_clamp (by omega), nI_clamp (by omega)] at e9
      exact ⟨rfl, ⟨k2, e9⟩, (fun q hh => by rw [hq1 q (by omega)])⟩

abbrev rm_Q_asSample : Room := { frames := 1, cells := 0, slots := 0, locals := 21 }
set_option maxHeartbeats 4000000 in
set_option maxRecDepth 100000 in
theorem ct_Q_asSample {l : Launch} {A : Nat → Prop} {D : va_G} {cs : Nat → ClassId} {sz : Nat} {f : tz_PH} {a n : Nat} {b : Int32} {g : Nat → Int32} (hS : tz_Sh cs f a b n g) (hn : n ≤ 120) {k : Nat} (hk : k < n) : tz_CN l tyQ_asSample prog_8_method_10_code 2 (some (.int)) rm_Q_asSample 0 0 A D cs sz [.ref a, .int (nI k)] f (some (.int (tz_smp b (g k)))) (fun f' => f' = f) := by
  refine tz_C.ofB (lv0 := [(0, .ref a), (1, .int (nI k))]) (plainFor_of_name (by decide)) (Nat.le_of_ble_eq_true rfl) rfl ?_
  intro p_ e_ s_ m_ ar_ be_ me_ c_ Q_ C_ hr_ hk_ hnm_ hz_ hQ_
  refine tz_aload_n C_ 0 rfl rfl td_Q_asSample_0 ?_
  refine tz_iload_n C_ 1 rfl rfl td_Q_asSample_1 ?_
  refine tz_rV C_ tmi_Q_has tw_425 tw_426 tw_432 hS.1 rfl (As := [.int (nI k)]) (by exact (ct_Q_has (b := b) (n := n) (g := g) ⟨hS.1, hS.2⟩ (by omega))) rfl (rest := []) rfl (by decide) (Nat.le_of_ble_eq_true rfl) td_Q_asSample_2 (st1 := [.int (tz_p (0 ≤ (nI k) ∧ (nI k) < nI n))]) rfl ?_
  refine tz_if_eq C_ td_Q_asSample_5 (fun h5 => ?_) (fun h5 => ?_)
  · skip
    replace h5 := tz_p0.mp h5
    exact absurd ((tz_has_iff (by omega) (by omega)).mpr hk) h5
  · skip
    replace h5 := tz_p1.mp h5
    refine tz_aload_n C_ 0 rfl rfl td_Q_asSample_8 ?_
    refine tz_get C_ tci_Q 0 (by decide) tw_174 hS.1 rfl td_Q_asSample_9 ?_
    refine tz_iload_n C_ 1 rfl rfl td_Q_asSample_12 ?_
    refine tz_ialdN C_ hS.2 (by omega) (by decide) td_Q_asSample_13 ?_
    refine tz_rSN C_ tmi_X_isSample tw_329 tw_460 (As := [.int (g k)]) (by exact ct_X_isSample) rfl (rest := []) rfl (by decide) (Nat.le_of_ble_eq_true rfl) td_Q_asSample_14 (st1 := [.int (tz_p (-10000 ≤ (g k) ∧ (g k) ≤ 10000))]) rfl ?_
    refine tz_if_eq C_ td_Q_asSample_17 (fun h17 => ?_) (fun h17 => ?_)
    · skip
      replace h17 := tz_p0.mp h17
      refine tz_ldc C_ tw_461 td_Q_asSample_40 ?_
      refine tz_riret C_ hr_ hk_ hQ_ rfl td_Q_asSample_42 ?_
      exact ⟨tz_ri (by grind [tz_smp]), rfl⟩
    · skip
      replace h17 := tz_p1.mp h17
      refine tz_aload_n C_ 0 rfl rfl td_Q_asSample_20 ?_
      refine tz_get C_ tci_Q 1 (by decide) tw_175 hS.1 rfl td_Q_asSample_21 ?_
      refine tz_bipush C_ (v := 8) (by decide) td_Q_asSample_24 ?_
      refine tz_icmp_ne C_ td_Q_asSample_26 (fun h26 => ?_) (fun h26 => ?_)
      · skip
        refine tz_aload_n C_ 0 rfl rfl td_Q_asSample_43 ?_
        refine tz_get C_ tci_Q 0 (by decide) tw_174 hS.1 rfl td_Q_asSample_44 ?_
        refine tz_iload_n C_ 1 rfl rfl td_Q_asSample_47 ?_
        refine tz_ialdN C_ hS.2 (by omega) (by decide) td_Q_asSample_48 ?_
        refine tz_riret C_ hr_ hk_ hQ_ rfl td_Q_asSample_49 ?_
        exact ⟨tz_ri (by grind [tz_smp]), rfl⟩
      · skip
        refine tz_aload_n C_ 0 rfl rfl td_Q_asSample_29 ?_
        refine tz_get C_ tci_Q 0 (by decide) tw_174 hS.1 rfl td_Q_asSample_30 ?_
        refine tz_iload_n C_ 1 rfl rfl td_Q_asSample_33 ?_
        refine tz_ialdN C_ hS.2 (by omega) (by decide) td_Q_asSample_34 ?_
        refine tz_bipush C_ (v := -128) (by decide) td_Q_asSample_35 ?_
        refine tz_icmp_ne C_ td_Q_asSample_37 (fun h37 => ?_) (fun h37 => ?_)
        · skip
          refine tz_aload_n C_ 0 rfl rfl td_Q_asSample_43 ?_
          refine tz_get C_ tci_Q 0 (by decide) tw_174 hS.1 rfl td_Q_asSample_44 ?_
          refine tz_iload_n C_ 1 rfl rfl td_Q_asSample_47 ?_
          refine tz_ialdN C_ hS.2 (by omega) (by decide) td_Q_asSample_48 ?_
          refine tz_riret C_ hr_ hk_ hQ_ rfl td_Q_asSample_49 ?_
          exact ⟨tz_ri (by grind [tz_smp]), rfl⟩
        · skip
          refine tz_ldc C_ tw_461 td_Q_asSample_40 ?_
          refine tz_riret C_ hr_ hk_ hQ_ rfl td_Q_asSample_42 ?_
          exact ⟨tz_ri (by grind [tz_smp]), rfl⟩
