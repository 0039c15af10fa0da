
abbrev tz_V4 : Type := Int32 × Int32 × Int32 × Int32
abbrev tz_lay (v : tz_V4) : va_E := tz_obj 2 [.int v.1, .int v.2.1, .int v.2.2.1, .int v.2.2.2]
abbrev tz_can (k a b : Int32) : Prop := 0 ≤ k ∧ k ≤ 6 ∧ tz_low k.toNatClampNeg ≤ a ∧ a ≤ tz_high k.toNatClampNeg ∧ (¬ k = 2 ∨ (0 ≤ b ∧ b ≤ 9)) ∧ (¬ k = 5 ∨ (1 ≤ b ∧ b ≤ 120))
abbrev tz_isa (k w : Int32) : Prop := w = -1 ∨ w = k ∨ (0 ≤ k ∧ k ≤ 6 ∧ tz_abov k.toNatClampNeg = w)
theorem tz_in7 {k : Int32} (h0 : ¬ k < 0) (h1 : ¬ 6 < k) : vp_in k 7 := by
  rw [vp_in_iff]
  have a0 := Int32.le_iff_toInt_le.mp (Int32.not_lt.mp h0)
  have a1 := Int32.le_iff_toInt_le.mp (Int32.not_lt.mp h1)
  have z : (0 : Int32).toInt = 0 := rfl
  have z6 : (6 : Int32).toInt = 6 := rfl
  rw [z] at a0; rw [z6] at a1
  exact ⟨a0, by omega⟩

abbrev rm_L_hasB : Room := { frames := 0, cells := 0, slots := 0, locals := 0 }
set_option maxHeartbeats 4000000 in
set_option maxRecDepth 100000 in
theorem ct_L_hasB {l : Launch} {A : Nat → Prop} {D : va_G} {cs : Nat → ClassId} {sz : Nat} {f : tz_PH} {x : Int32} : tz_CN l tyL_hasB prog_4_method_2_code 1 (some (.boolean)) rm_L_hasB 0 0 A D cs sz [.int x] f (some (.int (tz_p (x = 2 ∨ x = 5)))) (fun f' => f' = f) := by
  refine tz_C.ofB (lv0 := [(0, .int x)]) (plainFor_of_name (by decide)) (Nat.le_of_ble_eq_true rfl) rfl ?_
  intro p_ e_ s_ m_ ar_ be_ me_ c_ Q_ C_ hr_ hk_ hnm_ hz_ hQ_
  refine tz_iload_n C_ 0 rfl rfl td_L_hasB_0 ?_
  refine tz_iconst C_ (v := 2) (by decide) td_L_hasB_1 ?_
  refine tz_icmp_eq C_ td_L_hasB_2 (fun h2 => ?_) (fun h2 => ?_)
  · skip
    refine tz_iconst C_ (v := 1) (by decide) td_L_hasB_10 ?_
    refine tz_goto C_ td_L_hasB_11 ?_
    refine tz_rzret C_ hr_ hk_ hQ_ (by first | exact Or.inl rfl | exact Or.inr rfl | exact tz_p01) rfl td_L_hasB_15 ?_
    exact ⟨tz_ri (by grind [tz_p]), rfl⟩
  · skip
    refine tz_iload_n C_ 0 rfl rfl td_L_hasB_5 ?_
    refine tz_iconst C_ (v := 5) (by decide) td_L_hasB_6 ?_
    refine tz_icmp_ne C_ td_L_hasB_7 (fun h7 => ?_) (fun h7 => ?_)
    · skip
      refine tz_iconst C_ (v := 0) (by decide) td_L_hasB_14 ?_
      refine tz_rzret C_ hr_ hk_ hQ_ (by first | exact Or.inl rfl | exact Or.inr rfl | exact tz_p01) rfl td_L_hasB_15 ?_
      exact ⟨tz_ri (by grind [tz_p]), rfl⟩
    · skip
      refine tz_iconst C_ (v := 1) (by decide) td_L_hasB_10 ?_
      refine tz_goto C_ td_L_hasB_11 ?_
      refine tz_rzret C_ hr_ hk_ hQ_ (by first | exact Or.inl rfl | exact Or.inr rfl | exact tz_p01) rfl td_L_hasB_15 ?_
      exact ⟨tz_ri (by grind [tz_p]), rfl⟩

abbrev rm_L_canBe : Room := { frames := 0, cells := 0, slots := 0, locals := 0 }
set_option maxHeartbeats 4000000 in
set_option maxRecDepth 100000 in
theorem ct_L_canBe {l : Launch} {A : Nat → Prop} {D : va_G} {cs : Nat → ClassId} {sz : Nat} {f : tz_PH} {k x y : Int32} : tz_CN l tyL_canBe prog_4_method_3_code 3 (some (.boolean)) rm_L_canBe 0 0 A D cs sz [.int k, .int x, .int y] f (some (.int (tz_p (tz_can k x y)))) (fun f' => f' = f) := by
  refine tz_C.ofB (lv0 := [(0, .int k), (1, .int x), (2, .int y)]) (plainFor_of_name (by decide)) (Nat.le_of_ble_eq_true rfl) rfl ?_
  intro p_ e_ s_ m_ ar_ be_ me_ c_ Q_ C_ hr_ hk_ hnm_ hz_ hQ_
  refine tz_iload_n C_ 0 rfl rfl td_L_canBe_0 ?_
  refine tz_if_lt C_ td_L_canBe_1 (fun h1 => ?_) (fun h1 => ?_)
  · skip
    refine tz_iconst C_ (v := 0) (by decide) td_L_canBe_28 ?_
    refine tz_rzret C_ hr_ hk_ hQ_ (by first | exact Or.inl rfl | exact Or.inr rfl | exact tz_p01) rfl td_L_canBe_29 ?_
    exact ⟨tz_ri (by grind [tz_p]), rfl⟩
  · skip
    refine tz_iload_n C_ 0 rfl rfl td_L_canBe_4 ?_
    refine tz_bipush C_ (v := 6) (by decide) td_L_canBe_5 ?_
    refine tz_icmp_gt C_ td_L_canBe_7 (fun h7 => ?_) (fun h7 => ?_)
    · skip
      refine tz_iconst C_ (v := 0) (by decide) td_L_canBe_28 ?_
      refine tz_rzret C_ hr_ hk_ hQ_ (by first | exact Or.inl rfl | exact Or.inr rfl | exact tz_p01) rfl td_L_canBe_29 ?_
      exact ⟨tz_ri (by grind [tz_p]), rfl⟩
    · skip
      refine tz_iload_n C_ 1 rfl rfl td_L_canBe_10 ?_
      refine tz_gets C_ (ref := "") C_.2.2.2.2.2.2.2.2.2.1 tw_473 td_L_canBe_11 (fun t11 ht11 => ?_)
      refine tz_iload_n C_ 0 rfl rfl td_L_canBe_14 ?_
      refine tz_sald C_ ht11 (tz_in7 h1 h7) td_L_canBe_15 ?_
      refine tz_icmp_lt C_ td_L_canBe_16 (fun h16 => ?_) (fun h16 => ?_)
      · skip
        refine tz_iconst C_ (v := 0) (by decide) td_L_canBe_28 ?_
        refine tz_rzret C_ hr_ hk_ hQ_ (by first | exact Or.inl rfl | exact Or.inr rfl | exact tz_p01) rfl td_L_canBe_29 ?_
        exact ⟨tz_ri (by grind [tz_p]), rfl⟩
      · skip
        refine tz_iload_n C_ 1 rfl rfl td_L_canBe_19 ?_
        refine tz_gets C_ (ref := "") C_.2.2.2.2.2.2.2.2.2.2.1 tw_475 td_L_canBe_20 (fun t20 ht20 => ?_)
        refine tz_iload_n C_ 0 rfl rfl td_L_canBe_23 ?_
        refine tz_sald C_ ht20 (tz_in7 h1 h7) td_L_canBe_24 ?_
        refine tz_icmp_le C_ td_L_canBe_25 (fun h25 => ?_) (fun h25 => ?_)
        · skip
          refine tz_iload_n C_ 0 rfl rfl td_L_canBe_30 ?_
          refine tz_iconst C_ (v := 2) (by decide) td_L_canBe_31 ?_
          refine tz_icmp_ne C_ td_L_canBe_32 (fun h32 => ?_) (fun h32 => ?_)
          · skip
            refine tz_iload_n C_ 0 rfl rfl td_L_canBe_51 ?_
            refine tz_iconst C_ (v := 5) (by decide) td_L_canBe_52 ?_
            refine tz_icmp_ne C_ td_L_canBe_53 (fun h53 => ?_) (fun h53 => ?_)
            · skip
              refine tz_iconst C_ (v := 1) (by decide) td_L_canBe_67 ?_
              refine tz_goto C_ td_L_canBe_68 ?_
              refine tz_rzret C_ hr_ hk_ hQ_ (by first | exact Or.inl rfl | exact Or.inr rfl | exact tz_p01) rfl td_L_canBe_72 ?_
              exact ⟨tz_ri (by grind [tz_p]), rfl⟩
            · skip
              refine tz_iload_n C_ 2 rfl rfl td_L_canBe_56 ?_
              refine tz_iconst C_ (v := 1) (by decide) td_L_canBe_57 ?_
              refine tz_icmp_lt C_ td_L_canBe_58 (fun h58 => ?_) (fun h58 => ?_)
              · skip
                refine tz_iconst C_ (v := 0) (by decide) td_L_canBe_71 ?_
                refine tz_rzret C_ hr_ hk_ hQ_ (by first | exact Or.inl rfl | exact Or.inr rfl | exact tz_p01) rfl td_L_canBe_72 ?_
                exact ⟨tz_ri (by grind [tz_p]), rfl⟩
              · skip
                refine tz_iload_n C_ 2 rfl rfl td_L_canBe_61 ?_
                refine tz_bipush C_ (v := 120) (by decide) td_L_canBe_62 ?_
                refine tz_icmp_gt C_ td_L_canBe_64 (fun h64 => ?_) (fun h64 => ?_)
                · skip
                  refine tz_iconst C_ (v := 0) (by decide) td_L_canBe_71 ?_
                  refine tz_rzret C_ hr_ hk_ hQ_ (by first | exact Or.inl rfl | exact Or.inr rfl | exact tz_p01) rfl td_L_canBe_72 ?_
                  exact ⟨tz_ri (by grind [tz_p]), rfl⟩
                · skip
                  refine tz_iconst C_ (v := 1) (by decide) td_L_canBe_67 ?_
                  refine tz_goto C_ td_L_canBe_68 ?_
                  refine tz_rzret C_ hr_ hk_ hQ_ (by first | exact Or.inl rfl | exact Or.inr rfl | exact tz_p01) rfl td_L_canBe_72 ?_
                  exact ⟨tz_ri (by grind [tz_p]), rfl⟩
          · skip
            refine tz_iload_n C_ 2 rfl rfl td_L_canBe_35 ?_
            refine tz_if_lt C_ td_L_canBe_36 (fun h36 => ?_) (fun h36 => ?_)
            · skip
              refine tz_iconst C_ (v := 0) (by decide) td_L_canBe_49 ?_
              refine tz_rzret C_ hr_ hk_ hQ_ (by first | exact Or.inl rfl | exact Or.inr rfl | exact tz_p01) rfl td_L_canBe_50 ?_
              exact ⟨tz_ri (by grind [tz_p]), rfl⟩
            · skip
              refine tz_iload_n C_ 2 rfl rfl td_L_canBe_39 ?_
              refine tz_bipush C_ (v := 9) (by decide) td_L_canBe_40 ?_
              refine tz_icmp_gt C_ td_L_canBe_42 (fun h42 => ?_) (fun h42 => ?_)
              · skip
                refine tz_iconst C_ (v := 0) (by decide) td_L_canBe_49 ?_
                refine tz_rzret C_ hr_ hk_ hQ_ (by first | exact Or.inl rfl | exact Or.inr rfl | exact tz_p01) rfl td_L_canBe_50 ?_
                exact ⟨tz_ri (by grind [tz_p]), rfl⟩
              · skip
                refine tz_iconst C_ (v := 1) (by decide) td_L_canBe_45 ?_
                refine tz_goto C_ td_L_canBe_46 ?_
                refine tz_rzret C_ hr_ hk_ hQ_ (by first | exact Or.inl rfl | exact Or.inr rfl | exact tz_p01) rfl td_L_canBe_50 ?_
                exact ⟨tz_ri (by grind [tz_p]), rfl⟩
        · skip
          refine tz_iconst C_ (v := 0) (by decide) td_L_canBe_28 ?_
          refine tz_rzret C_ hr_ hk_ hQ_ (by first | exact Or.inl rfl | exact Or.inr rfl | exact tz_p01) rfl td_L_canBe_29 ?_
          exact ⟨tz_ri (by grind [tz_p]), rfl⟩

abbrev rm_L_isA : Room := { frames := 0, cells := 0, slots := 0, locals := 0 }
set_option maxHeartbeats 4000000 in
set_option maxRecDepth 100000 in
theorem ct_L_isA {l : Launch} {A : Nat → Prop} {D : va_G} {cs : Nat → ClassId} {sz : Nat} {f : tz_PH} {h : Nat} {v : tz_V4} {x : Int32} (hL : f h = some (tz_lay v)) : tz_CN l tyL_isA prog_4_method_4_code 2 (some (.boolean)) rm_L_isA 0 0 A D cs sz [.ref h, .int x] f (some (.int (tz_p (tz_isa v.1 x)))) (fun f' => f' = f) := by
  refine tz_C.ofB (lv0 := [(0, .ref h), (1, .int x)]) (plainFor_of_name (by decide)) (Nat.le_of_ble_eq_true rfl) rfl ?_
  intro p_ e_ s_ m_ ar_ be_ me_ c_ Q_ C_ hr_ hk_ hnm_ hz_ hQ_
  refine tz_iload_n C_ 1 rfl rfl td_L_isA_0 ?_
  refine tz_iconst C_ (v := -1) (by decide) td_L_isA_1 ?_
  refine tz_icmp_eq C_ td_L_isA_2 (fun h2 => ?_) (fun h2 => ?_)
  · skip
    refine tz_iconst C_ (v := 1) (by decide) td_L_isA_13 ?_
    refine tz_rzret C_ hr_ hk_ hQ_ (by first | exact Or.inl rfl | exact Or.inr rfl | exact tz_p01) rfl td_L_isA_14 ?_
    exact ⟨tz_ri (by grind [tz_p]), rfl⟩
  · skip
    refine tz_iload_n C_ 1 rfl rfl td_L_isA_5 ?_
    refine tz_aload_n C_ 0 rfl rfl td_L_isA_6 ?_
    refine tz_get C_ tci_L 0 (by decide) tw_491 hL rfl td_L_isA_7 ?_
    refine tz_icmp_ne C_ td_L_isA_10 (fun h10 => ?_) (fun h10 => ?_)
    · skip
      refine tz_aload_n C_ 0 rfl rfl td_L_isA_15 ?_
      refine tz_get C_ tci_L 0 (by decide) tw_491 hL rfl td_L_isA_16 ?_
      refine tz_if_lt C_ td_L_isA_19 (fun h19 => ?_) (fun h19 => ?_)
      · skip
        refine tz_iconst C_ (v := 0) (by decide) td_L_isA_47 ?_
        refine tz_rzret C_ hr_ hk_ hQ_ (by first | exact Or.inl rfl | exact Or.inr rfl | exact tz_p01) rfl td_L_isA_48 ?_
        exact ⟨tz_ri (by grind [tz_p]), rfl⟩
      · skip
        refine tz_aload_n C_ 0 rfl rfl td_L_isA_22 ?_
        refine tz_get C_ tci_L 0 (by decide) tw_491 hL rfl td_L_isA_23 ?_
        refine tz_bipush C_ (v := 6) (by decide) td_L_isA_26 ?_
        refine tz_icmp_gt C_ td_L_isA_28 (fun h28 => ?_) (fun h28 => ?_)
        · skip
          refine tz_iconst C_ (v := 0) (by decide) td_L_isA_47 ?_
          refine tz_rzret C_ hr_ hk_ hQ_ (by first | exact Or.inl rfl | exact Or.inr rfl | exact tz_p01) rfl td_L_isA_48 ?_
          exact ⟨tz_ri (by grind [tz_p]), rfl⟩
        · skip
          refine tz_gets C_ (ref := "") C_.2.2.2.2.2.2.2.2.2.2.2 tw_554 td_L_isA_31 (fun t31 ht31 => ?_)
          refine tz_aload_n C_ 0 rfl rfl td_L_isA_34 ?_
          refine tz_get C_ tci_L 0 (by decide) tw_491 hL rfl td_L_isA_35 ?_
          refine tz_sald C_ ht31 (tz_in7 h19 h28) td_L_isA_38 ?_
          refine tz_iload_n C_ 1 rfl rfl td_L_isA_39 ?_
          refine tz_icmp_ne C_ td_L_isA_40 (fun h40 => ?_) (fun h40 => ?_)
          · skip
            refine tz_iconst C_ (v := 0) (by decide) td_L_isA_47 ?_
            refine tz_rzret C_ hr_ hk_ hQ_ (by first | exact Or.inl rfl | exact Or.inr rfl | exact tz_p01) rfl td_L_isA_48 ?_
            exact ⟨tz_ri (by grind [tz_p]), rfl⟩
          · skip
            refine tz_iconst C_ (v := 1) (by decide) td_L_isA_43 ?_
            refine tz_goto C_ td_L_isA_44 ?_
            refine tz_rzret C_ hr_ hk_ hQ_ (by first | exact Or.inl rfl | exact Or.inr rfl | exact tz_p01) rfl td_L_isA_48 ?_
            exact ⟨tz_ri (by grind [tz_p]), rfl⟩
    · skip
      refine tz_iconst C_ (v := 1) (by decide) td_L_isA_13 ?_
      refine tz_rzret C_ hr_ hk_ hQ_ (by first | exact Or.inl rfl | exact Or.inr rfl | exact tz_p01) rfl td_L_isA_14 ?_
      exact ⟨tz_ri (by grind [tz_p]), rfl⟩

abbrev rm_L_init : Room := { frames := 1, cells := 0, slots := 0, locals := 12 }
set_option maxHeartbeats 4000000 in
set_option maxRecDepth 100000 in
theorem ct_L_init {l : Launch} {A : Nat → Prop} {D : va_G} {cs : Nat → ClassId} {sz : Nat} {f : tz_PH} {h : Nat} {k x y o : Int32} (hL : f h = some (tz_obj 2 [.int 0, .int 0, .int 0, .int 0])) (ho : o = 0 ∨ o = 1) : tz_CN l tyL_init prog_4_method_1_code 5 (none) rm_L_init 0 0 A D cs sz [.ref h, .int k, .int x, .int y, .int o] f (none) (fun f' => f' h = some (tz_lay (k, x, y, o)) ∧ ∀ q, q ≠ h → f' q = f q) := by
  refine tz_C.ofB (lv0 := [(0, .ref h), (1, .int k), (2, .int x), (3, .int y), (4, .int o)]) (plainFor_of_name (by decide)) (Nat.le_of_ble_eq_true rfl) rfl ?_
  intro p_ e_ s_ m_ ar_ be_ me_ c_ Q_ C_ hr_ hk_ hnm_ hz_ hQ_
  refine tz_aload_n C_ 0 rfl rfl td_L_init_0 ?_
  refine tz_objInit C_ tw_490 tw_63 tw_64 (by decide) td_L_init_1 ?_
  refine tz_aload_n C_ 0 rfl rfl td_L_init_4 ?_
  refine tz_iload_n C_ 1 rfl rfl td_L_init_5 ?_
  refine tz_wputF C_ hnm_ tci_L 0 (by decide) tw_491 ⟨rfl, rfl⟩ hL (Nat.le_of_ble_eq_true rfl) ⟨rfl, rfl⟩ (fs' := [.int k, .int 0, .int 0, .int 0]) rfl td_L_init_6 (fun f1 hs1 hq1 => ?_)
  refine tz_aload_n C_ 0 rfl rfl td_L_init_9 ?_
  refine tz_iload_n C_ 2 rfl rfl td_L_init_10 ?_
  refine tz_wputF C_ hnm_ tci_L 1 (by decide) tw_494 ⟨rfl, rfl⟩ hs1 (Nat.le_of_ble_eq_true rfl) ⟨rfl, rfl⟩ (fs' := [.int k, .int x, .int 0, .int 0]) rfl td_L_init_11 (fun f2 hs2 hq2 => ?_)
  refine tz_aload_n C_ 0 rfl rfl td_L_init_14 ?_
  refine tz_iload_n C_ 3 rfl rfl td_L_init_15 ?_
  refine tz_wputF C_ hnm_ tci_L 2 (by decide) tw_497 ⟨rfl, rfl⟩ hs2 (Nat.le_of_ble_eq_true rfl) ⟨rfl, rfl⟩ (fs' := [.int k, .int x, .int y, .int 0]) rfl td_L_init_16 (fun f3 hs3 hq3 => ?_)
  refine tz_aload_n C_ 0 rfl rfl td_L_init_19 ?_
  refine tz_iload C_ 4 rfl td_L_init_20 ?_
  refine tz_wputF C_ hnm_ tci_L 3 (by decide) tw_500 ⟨rfl, rfl⟩ hs3 (Nat.le_of_ble_eq_true rfl) (by rcases ho with rfl | rfl <;> exact ⟨rfl, rfl⟩) (fs' := [.int k, .int x, .int y, .int o]) rfl td_L_init_22 (fun f4 hs4 hq4 => ?_)
  refine tz_rvret C_ hr_ hk_ hQ_ rfl td_L_init_25 ?_
  exact ⟨rfl, hs4, (fun q hh => by rw [hq4 q (by omega), hq3 q (by omega), hq2 q (by omega), hq1 q (by omega)])⟩
