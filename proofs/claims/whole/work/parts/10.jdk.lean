
abbrev tz_LO : Int32 := -100007
def tz_Row (cs : Nat → ClassId) (f : tz_PH) (a n : Nat) (g : Nat → Int32) : Prop := f a = some (tz_obj 5 [.ref (a + 1), .int (nI n)]) ∧ f (a + 1) = some (tz_ints cs 120 g)
theorem tz_Row.fr {cs : Nat → ClassId} {f f' : tz_PH} {a n : Nat} {g : Nat → Int32} (h : tz_Row cs f a n g) (hq : ∀ q, a ≤ q → q < a + 2 → f' q = f q) : tz_Row cs f' a n g := ⟨(hq _ (by omega) (by omega)).trans h.1, (hq _ (by omega) (by omega)).trans h.2⟩
def tz_in (n : Nat) (i : Int32) : Prop := 0 ≤ i ∧ i < nI n
theorem tz_in_dec (n : Nat) (i : Int32) : tz_in n i ↔ 0 ≤ i ∧ i < nI n := Iff.rfl
def tz_at (n : Nat) (g : Nat → Int32) (i : Int32) : Int32 := if 0 ≤ i ∧ i < nI n then g i.toNatClampNeg else tz_LO
def tz_rset (n : Nat) (g : Nat → Int32) (i v : Int32) : Nat → Int32 := if 0 ≤ i ∧ i < nI n then upd g i.toNatClampNeg v else g
def tz_mx (x y : Int32) : Int32 := if x < y then y else x
def tz_mn (x y : Int32) : Int32 := if y < x then y else x
def tz_ab (x : Int32) : Int32 := if 0 ≤ x then x else -x
def tz_fd (x y : Int32) : Int32 := if 0 ≤ x ^^^ y then x / y else if x / y * y = x then x / y else x / y - 1
theorem tz_clip {k : Nat} (hk : k ≤ 120) : tz_mx 0 (tz_mn (nI k) 120) = nI k := by
  have h1 : ¬ (120 : Int32) < nI k := fun z => nI_nlt (a := 120) (b := k) hk (by omega) z
  unfold tz_mn
  rw [if_neg h1]
  unfold tz_mx
  split
  · rfl
  · rename_i h2
    have h3 : (0 : Int32) ≤ nI k := nI_pos' (by omega)
    have h4 := Int32.not_lt.mp h2
    exact Int32.le_antisymm h3 h4
theorem tz_le_nlt {x y : Int32} (h : y ≤ x) : ¬ x < y := Int32.not_lt.mpr h
theorem tz_nle_lt {x y : Int32} (h : ¬ y ≤ x) : x < y := Int32.not_le.mp h
theorem tz_lt_nI120 {i : Int32} (h : i < 120) : i < nI 120 := h
theorem tz_lt120 {n : Nat} {i : Int32} (hn : n ≤ 120) (h : i < nI n) : i < 120 := by
  have h1 := Int32.lt_iff_toInt_lt.mp h
  rw [nI_toInt (by omega)] at h1
  apply Int32.lt_iff_toInt_lt.mpr
  have z : (120 : Int32).toInt = 120 := rfl
  rw [z]; omega
def tz_fl (h g : Nat → Int32) (i : Nat) : Nat → Int32 := fun k => if k < i then h k else g k
theorem tz_fl_0 (h g : Nat → Int32) : tz_fl h g 0 = g := by funext k; simp [tz_fl]
theorem tz_fl_s (h g : Nat → Int32) (i : Nat) {x : Int32} (hx : x = h i) : upd (tz_fl h g i) i x = tz_fl h g (i + 1) := by
  funext k
  simp only [upd, tz_fl]
  by_cases e : k = i
  · subst e; simp [hx]
  · rw [if_neg e]
    by_cases h1 : k < i
    · rw [if_pos h1, if_pos (by omega)]
    · rw [if_neg h1, if_neg (by omega)]
theorem tz_fl_in {h g : Nat → Int32} {i k : Nat} (hk : k < i) : tz_fl h g i k = h k := by simp [tz_fl, hk]
def tz_ct (p : Nat → Bool) : Nat → Nat
  | 0 => 0
  | n + 1 => tz_ct p n + (if p n then 1 else 0)
theorem tz_ct_s (p : Nat → Bool) (n : Nat) : tz_ct p (n + 1) = tz_ct p n + (if p n then 1 else 0) := rfl
theorem tz_ct_le (p : Nat → Bool) : ∀ n, tz_ct p n ≤ n
  | 0 => Nat.le_refl _
  | n + 1 => by
    have := tz_ct_le p n
    rw [tz_ct_s]
    split <;> omega
theorem tz_ct_y {p : Nat → Bool} {n : Nat} (h : p n = true) : tz_ct p (n + 1) = tz_ct p n + 1 := by rw [tz_ct_s, h]; rfl
theorem tz_ct_n {p : Nat → Bool} {n : Nat} (h : p n = false) : tz_ct p (n + 1) = tz_ct p n := by rw [tz_ct_s, h]; rfl

abbrev rm_J_max : Room := { frames := 0, cells := 0, slots := 0, locals := 0 }
set_option maxHeartbeats 4000000 in
set_option maxRecDepth 100000 in
theorem ct_J_max {l : Launch} {A : Nat → Prop} {D : va_G} {cs : Nat → ClassId} {sz : Nat} {f : tz_PH} {x y : Int32} : tz_CN l tyJ_max prog_14_method_65_code 2 (some (.int)) rm_J_max 0 0 A D cs sz [.int x, .int y] f (some (.int (tz_mx x y))) (fun f' => f' = f) := by
  refine tz_C.ofB (lv0 := [(0, .int x), (1, .int y)]) (by decide +kernel) (Nat.le_of_ble_eq_true rfl) rfl ?_
  intro p_ e_ s_ m_ ar_ be_ me_ c_ Q_ C_ hr_ hk_ hnm_ hz_ hQ_
  refine tz_iload_n C_ 0 rfl rfl td_J_max_0 ?_
  refine tz_iload_n C_ 1 rfl rfl td_J_max_1 ?_
  refine tz_icmp_lt C_ td_J_max_2 (fun h2 => ?_) (fun h2 => ?_)
  · skip
    refine tz_iload_n C_ 1 rfl rfl td_J_max_9 ?_
    refine tz_riret C_ hr_ hk_ hQ_ rfl td_J_max_10 ?_
    exact ⟨tz_ri (by simp [tz_mx, h2]), rfl⟩
  · skip
    refine tz_iload_n C_ 0 rfl rfl td_J_max_5 ?_
    refine tz_goto C_ td_J_max_6 ?_
    refine tz_riret C_ hr_ hk_ hQ_ rfl td_J_max_10 ?_
    exact ⟨tz_ri (by simp [tz_mx, h2]), rfl⟩

abbrev rm_J_min : Room := { frames := 0, cells := 0, slots := 0, locals := 0 }
set_option maxHeartbeats 4000000 in
set_option maxRecDepth 100000 in
theorem ct_J_min {l : Launch} {A : Nat → Prop} {D : va_G} {cs : Nat → ClassId} {sz : Nat} {f : tz_PH} {x y : Int32} : tz_CN l tyJ_min prog_14_method_69_code 2 (some (.int)) rm_J_min 0 0 A D cs sz [.int x, .int y] f (some (.int (tz_mn x y))) (fun f' => f' = f) := by
  refine tz_C.ofB (lv0 := [(0, .int x), (1, .int y)]) (by decide +kernel) (Nat.le_of_ble_eq_true rfl) rfl ?_
  intro p_ e_ s_ m_ ar_ be_ me_ c_ Q_ C_ hr_ hk_ hnm_ hz_ hQ_
  refine tz_iload_n C_ 0 rfl rfl td_J_min_0 ?_
  refine tz_iload_n C_ 1 rfl rfl td_J_min_1 ?_
  refine tz_icmp_gt C_ td_J_min_2 (fun h2 => ?_) (fun h2 => ?_)
  · skip
    refine tz_iload_n C_ 1 rfl rfl td_J_min_9 ?_
    refine tz_riret C_ hr_ hk_ hQ_ rfl td_J_min_10 ?_
    exact ⟨tz_ri (by simp [tz_mn, h2]), rfl⟩
  · skip
    refine tz_iload_n C_ 0 rfl rfl td_J_min_5 ?_
    refine tz_goto C_ td_J_min_6 ?_
    refine tz_riret C_ hr_ hk_ hQ_ rfl td_J_min_10 ?_
    exact ⟨tz_ri (by simp [tz_mn, h2]), rfl⟩

abbrev rm_J_abs : Room := { frames := 0, cells := 0, slots := 0, locals := 0 }
set_option maxHeartbeats 4000000 in
set_option maxRecDepth 100000 in
theorem ct_J_abs {l : Launch} {A : Nat → Prop} {D : va_G} {cs : Nat → ClassId} {sz : Nat} {f : tz_PH} {x : Int32} : tz_CN l tyJ_abs prog_14_method_59_code 1 (some (.int)) rm_J_abs 0 0 A D cs sz [.int x] f (some (.int (tz_ab x))) (fun f' => f' = f) := by
  refine tz_C.ofB (lv0 := [(0, .int x)]) (by decide +kernel) (Nat.le_of_ble_eq_true rfl) rfl ?_
  intro p_ e_ s_ m_ ar_ be_ me_ c_ Q_ C_ hr_ hk_ hnm_ hz_ hQ_
  refine tz_iload_n C_ 0 rfl rfl td_J_abs_0 ?_
  refine tz_if_ge C_ td_J_abs_1 (fun h1 => ?_) (fun h1 => ?_)
  · skip
    refine tz_iload_n C_ 0 rfl rfl td_J_abs_9 ?_
    refine tz_riret C_ hr_ hk_ hQ_ rfl td_J_abs_10 ?_
    exact ⟨tz_ri (by simp [tz_ab, h1]), rfl⟩
  · skip
    refine tz_iload_n C_ 0 rfl rfl td_J_abs_4 ?_
    refine tz_ineg C_ td_J_abs_5 ?_
    refine tz_goto C_ td_J_abs_6 ?_
    refine tz_riret C_ hr_ hk_ hQ_ rfl td_J_abs_10 ?_
    exact ⟨tz_ri (by simp [tz_ab, h1]), rfl⟩

abbrev rm_J_floorDiv : Room := { frames := 0, cells := 0, slots := 0, locals := 0 }
set_option maxHeartbeats 4000000 in
set_option maxRecDepth 100000 in
theorem ct_J_floorDiv {l : Launch} {A : Nat → Prop} {D : va_G} {cs : Nat → ClassId} {sz : Nat} {f : tz_PH} {x y : Int32} (h0 : ¬ y = 0) : tz_CN l tyJ_floorDiv prog_14_method_47_code 3 (some (.int)) rm_J_floorDiv 0 0 A D cs sz [.int x, .int y] f (some (.int (tz_fd x y))) (fun f' => f' = f) := by
  refine tz_C.ofB (lv0 := [(0, .int x), (1, .int y)]) (by decide +kernel) (Nat.le_of_ble_eq_true rfl) rfl ?_
  intro p_ e_ s_ m_ ar_ be_ me_ c_ Q_ C_ hr_ hk_ hnm_ hz_ hQ_
  refine tz_iload_n C_ 0 rfl rfl td_J_floorDiv_0 ?_
  refine tz_iload_n C_ 1 rfl rfl td_J_floorDiv_1 ?_
  refine tz_idiv C_ h0 td_J_floorDiv_2 ?_
  refine tz_istore_n C_ (lv' := [(0, .int x), (1, .int y), (2, .int (x / y))]) [1, 2, 0] rfl (by decide) rfl td_J_floorDiv_3 ?_
  refine tz_iload_n C_ 0 rfl rfl td_J_floorDiv_4 ?_
  refine tz_iload_n C_ 1 rfl rfl td_J_floorDiv_5 ?_
  refine tz_ixor C_ td_J_floorDiv_6 ?_
  refine tz_if_ge C_ td_J_floorDiv_7 (fun h7 => ?_) (fun h7 => ?_)
  · skip
    refine tz_iload_n C_ 2 rfl rfl td_J_floorDiv_21 ?_
    refine tz_riret C_ hr_ hk_ hQ_ rfl td_J_floorDiv_22 ?_
    exact ⟨tz_ri (by simp [tz_fd, *] <;> rfl), rfl⟩
  · skip
    refine tz_iload_n C_ 2 rfl rfl td_J_floorDiv_10 ?_
    refine tz_iload_n C_ 1 rfl rfl td_J_floorDiv_11 ?_
    refine tz_imul C_ td_J_floorDiv_12 ?_
    refine tz_iload_n C_ 0 rfl rfl td_J_floorDiv_13 ?_
    refine tz_icmp_eq C_ td_J_floorDiv_14 (fun h14 => ?_) (fun h14 => ?_)
    · skip
      refine tz_iload_n C_ 2 rfl rfl td_J_floorDiv_21 ?_
      refine tz_riret C_ hr_ hk_ hQ_ rfl td_J_floorDiv_22 ?_
      exact ⟨tz_ri (by simp [tz_fd, *] <;> rfl), rfl⟩
    · skip
      refine tz_iload_n C_ 2 rfl rfl td_J_floorDiv_17 ?_
      refine tz_iconst C_ (v := 1) (by decide) td_J_floorDiv_18 ?_
      refine tz_isub C_ td_J_floorDiv_19 ?_
      refine tz_riret C_ hr_ hk_ hQ_ rfl td_J_floorDiv_20 ?_
      exact ⟨tz_ri (by simp [tz_fd, *] <;> rfl), rfl⟩

abbrev rm_K_fill : Room := { frames := 0, cells := 0, slots := 0, locals := 0 }
set_option maxHeartbeats 4000000 in
set_option maxRecDepth 100000 in
theorem ct_K_fill {l : Launch} {A : Nat → Prop} {D : va_G} {cs : Nat → ClassId} {sz : Nat} {f : tz_PH} {a n : Nat} {g : Nat → Int32} {v : Int32} (hI : f a = some (tz_ints cs n g)) (hn : n ≤ 100000) : tz_CN l tyK_fill prog_16_method_103_code 4 (none) rm_K_fill 0 0 A D cs sz [.ref a, .int v] f (none) (fun f' => f' a = some (tz_ints cs n (tz_fl (fun _ => v) g n)) ∧ ∀ q, q ≠ a → f' q = f q) := by
  refine tz_C.ofB (lv0 := [(0, .ref a), (1, .int v)]) (by decide +kernel) (Nat.le_of_ble_eq_true rfl) rfl ?_
  intro p_ e_ s_ m_ ar_ be_ me_ c_ Q_ C_ hr_ hk_ hnm_ hz_ hQ_
  refine tz_iconst C_ (v := 0) (by decide) td_K_fill_0 ?_
  refine tz_istore_n C_ (lv' := [(0, .ref a), (1, .int v), (2, .int 0)]) [1, 2, 0] rfl (by decide) rfl td_K_fill_1 ?_
  refine tz_aload_n C_ 0 rfl rfl td_K_fill_2 ?_
  refine tz_alenI C_ hI (v := nI n) rfl td_K_fill_3 ?_
  refine tz_istore_n C_ (lv' := [(0, .ref a), (1, .int v), (2, .int 0), (3, .int (nI n))]) [1, 2, 3, 0] rfl (by decide) rfl td_K_fill_4 ?_
  have loop5 : ∀ (kk5 : Nat) (i : Nat) (f5 : tz_PH), (f5 a = some (tz_ints cs n (tz_fl (fun _ => v) g i))) → (∀ q, q ≠ a → f5 q = f q) → (i ≤ n) → (n - i) < kk5 → tz_V p_ l e_ rm_K_fill s_ m_ ar_ be_ me_ c_ Q_ A D 4 f5 sz 0 0 5 [(0, .ref a), (1, .int v), (2, .int (nI i)), (3, .int (nI n))] [] := by
    intro kk5
    induction kk5 with
    | zero => intro i f5 hL hfr hi hm5; omega
    | succ kk5 ih5 =>
      intro i f5 hL hfr hi hm5
      refine tz_iload_n C_ 2 rfl rfl td_K_fill_5 ?_
      refine tz_iload_n C_ 3 rfl rfl td_K_fill_6 ?_
      refine tz_icmp_ge C_ td_K_fill_7 (fun h7 => ?_) (fun h7 => ?_)
      · skip
        replace h7 := (nI_leI (a := n) (b := i) (by omega) (by omega)).mp h7
        refine tz_rvret C_ hr_ hk_ hQ_ rfl td_K_fill_20 ?_
        have e9 : i = n := by omega
        subst e9
        exact ⟨rfl, hL, hfr⟩
      · skip
        replace h7 := mt (nI_leI (a := n) (b := i) (by omega) (by omega)).mpr h7
        refine tz_aload_n C_ 0 rfl rfl td_K_fill_10 ?_
        refine tz_iload_n C_ 2 rfl rfl td_K_fill_11 ?_
        refine tz_iload_n C_ 1 rfl rfl td_K_fill_12 ?_
        refine tz_wiastN C_ hL (by omega) (by omega) (g' := upd (tz_fl (fun _ => v) g i) i v) rfl td_K_fill_13 (fun f1 hs1 hq1 => ?_)
        refine tz_iinc C_ (k := 1) (v := nI (i + 1)) (lv' := [(0, .ref a), (1, .int v), (2, .int (nI (i + 1))), (3, .int (nI n))]) 2 rfl (nI_1 i) [1, 2, 0, 3] (by decide) rfl td_K_fill_14 ?_
        refine tz_goto C_ td_K_fill_17 ?_
        exact ih5 (i + 1) f1 (by rw [← tz_fl_s (fun _ => v) g i rfl]; exact hs1) (fun q hh => by rw [hq1 q hh, hfr q hh]) (by omega) (by omega)
  exact loop5 _ 0 f (by rw [tz_fl_0]; exact hI) (fun _ _ => rfl) (Nat.zero_le _) (Nat.lt_succ_self _)
