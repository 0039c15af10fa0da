
theorem tz_pc {P Q : Prop} [Decidable P] [Decidable Q] (h : P ↔ Q) : tz_p P = tz_p Q := by
  unfold tz_p
  by_cases e : P
  · rw [if_pos e, if_pos (h.mp e)]
  · rw [if_neg e, if_neg (mt h.mpr e)]
theorem tz_pTr {P : Prop} [Decidable P] (h : P) : (1 : Int32) = tz_p P := by unfold tz_p; rw [if_pos h]
theorem tz_pFa {P : Prop} [Decidable P] (h : ¬ P) : (0 : Int32) = tz_p P := by unfold tz_p; rw [if_neg h]
theorem tz_canI {k a b lo hi : Int32} (h0 : 0 ≤ k ∧ k ≤ 6) (hl : tz_low k.toNatClampNeg = lo) (hh : tz_high k.toNatClampNeg = hi) : tz_can k a b ↔ (lo ≤ a ∧ a ≤ hi) ∧ (¬ k = 2 ∨ (0 ≤ b ∧ b ≤ 9)) ∧ (¬ k = 5 ∨ (1 ≤ b ∧ b ≤ 120)) := by
  subst hl; subst hh
  exact ⟨fun z => ⟨⟨z.2.2.1, z.2.2.2.1⟩, z.2.2.2.2.1, z.2.2.2.2.2⟩, fun z => ⟨h0.1, h0.2, z.1.1, z.1.2, z.2.1, z.2.2⟩⟩
theorem tz_canS {k a b lo hi : Int32} (h0 : 0 ≤ k ∧ k ≤ 6) (hl : tz_low k.toNatClampNeg = lo) (hh : tz_high k.toNatClampNeg = hi) (h2 : ¬ k = 2) (h5 : ¬ k = 5) : tz_can k a b ↔ (lo ≤ a ∧ a ≤ hi) :=
  (tz_canI h0 hl hh).trans ⟨fun z => z.1, fun z => ⟨z, Or.inl h2, Or.inl h5⟩⟩
theorem tz_can2I {a b : Int32} : tz_can 2 a b ↔ (0 ≤ a ∧ a < 4) ∧ (0 ≤ b ∧ b ≤ 9) :=
  (tz_canI (lo := 0) (hi := 3) (by decide) rfl rfl).trans ⟨fun z => ⟨⟨z.1.1, tz_le3.mp z.1.2⟩, z.2.1.resolve_left (fun h => h rfl)⟩, fun z => ⟨⟨z.1.1, tz_le3.mpr z.1.2⟩, Or.inr z.2, Or.inl (by decide)⟩⟩
theorem tz_can5I {a b : Int32} : tz_can 5 a b ↔ (0 ≤ a ∧ a ≤ 119) ∧ (1 ≤ b ∧ b ≤ 120) :=
  (tz_canI (lo := 0) (hi := 119) (by decide) rfl rfl).trans ⟨fun z => ⟨z.1, z.2.2.resolve_left (fun h => h rfl)⟩, fun z => ⟨z.1, Or.inl (by decide), Or.inr z.2⟩⟩
def tz_stl (nw : Nat → Int32) (q : Nat) (x y z u : Int32) : Nat → Int32 := upd (upd (upd (upd nw (488 + q) x) (496 + q) y) (504 + q) z) (512 + q) u
theorem tz_stl_o {nw : Nat → Int32} {q i : Nat} {x y z u : Int32} (hq : q < 8) (h : i < 488 ∨ 520 ≤ i) : tz_stl nw q x y z u i = nw i := by
  unfold tz_stl
  rw [tz_updo (by omega), tz_updo (by omega), tz_updo (by omega), tz_updo (by omega)]
def tz_enL (nw : Nat → Int32) (n : Nat) (lay : Nat → tz_V4) : Prop := ∀ k, k < n → nw (488 + k) = (lay k).1 ∧ nw (496 + k) = (lay k).2.1 ∧ nw (504 + k) = (lay k).2.2.1 ∧ nw (512 + k) = (lay k).2.2.2
theorem tz_enL_set {nw : Nat → Int32} {n k : Nat} {lay : Nat → tz_V4} {x y z u : Int32} (h : tz_enL nw n lay) (hn : n ≤ 8) (hk : k < 8) : tz_enL (tz_stl nw k x y z u) n (va_up lay k (x, y, z, u)) := by
  intro q hq
  unfold tz_stl va_up
  by_cases e : q = k
  · subst e
    rw [if_pos rfl]
    refine ⟨?_, ?_, ?_, ?_⟩
    · rw [tz_updo (by omega), tz_updo (by omega), tz_updo (by omega), tz_updk]
    · rw [tz_updo (by omega), tz_updo (by omega), tz_updk]
    · rw [tz_updo (by omega), tz_updk]
    · rw [tz_updk]
  · rw [if_neg e]
    obtain ⟨a, b, c, d⟩ := h q hq
    refine ⟨?_, ?_, ?_, ?_⟩
    · rw [tz_updo (by omega), tz_updo (by omega), tz_updo (by omega), tz_updo (by omega)]; exact a
    · rw [tz_updo (by omega), tz_updo (by omega), tz_updo (by omega), tz_updo (by omega)]; exact b
    · rw [tz_updo (by omega), tz_updo (by omega), tz_updo (by omega), tz_updo (by omega)]; exact c
    · rw [tz_updo (by omega), tz_updo (by omega), tz_updo (by omega), tz_updo (by omega)]; exact d
theorem tz_enL_cg {nw : Nat → Int32} {n : Nat} {lay lay' : Nat → tz_V4} (h : tz_enL nw n lay) (e : ∀ q, q < n → lay' q = lay q) : tz_enL nw n lay' := by
  intro q hq
  rw [e q hq]
  exact h q hq
theorem tz_enL_cp {nw : Nat → Int32} {n c d : Nat} {lay lay' : Nat → tz_V4} (h : tz_enL nw n lay) (hn : n ≤ 8) (hc : c < n) (hd : d < n) (e : ∀ q, q < n → lay' q = va_up lay d (lay c) q) : tz_enL (tz_stl nw d (nw (488 + c)) (nw (496 + c)) (nw (504 + c)) (nw (512 + c))) n lay' := by
  obtain ⟨a1, a2, a3, a4⟩ := h c hc
  rw [a1, a2, a3, a4]
  exact tz_enL_cg (tz_enL_set h hn (by omega)) e
theorem tz_en_lay {nw nw' : Nat → Int32} {t : tz_TS} {n : Nat} {lay : Nat → tz_V4} (hE : tz_en nw t) (hW : tz_WT t) (ho : ∀ q, (q < 484 ∨ (484 < q ∧ q < 488) ∨ 520 ≤ q) → nw' q = nw q) (hn : nw' 484 = nI n) (hL : tz_enL nw' n lay) : tz_en nw' (tz_sl t n lay) := by
  obtain ⟨h1, h2, h3, h4, h5⟩ := hE
  refine ⟨fun p hp => (ho _ (by omega)).trans (h1 p hp), fun p hp j hj => ?_, hn, hL, fun k hk => ?_⟩
  · have : (t.1 p).1 ≤ 120 := (hW.1 p hp).1
    have hj' : j < (t.1 p).1 := hj
    exact (ho _ (by omega)).trans (h2 p hp j hj)
  · obtain ⟨a, b⟩ := h5 k hk
    exact ⟨(ho _ (by omega)).trans a, (ho _ (by omega)).trans b⟩
theorem tz_en_add {nw : Nat → Int32} {t : tz_TS} {x y z u : Int32} (hE : tz_en nw t) (hW : tz_WT t) (hn : t.2.1 < 8) : tz_en (upd (tz_stl nw t.2.1 x y z u) 484 (tz_stl nw t.2.1 x y z u 484 + 1)) (tz_sl t (t.2.1 + 1) (tz_inl t.2.2.1 t.2.1 t.2.1 (x, y, z, u))) := by
  refine tz_en_lay hE hW (fun q hq => ?_) ?_ ?_
  · rw [tz_updo (by omega), tz_stl_o hn (by omega)]
  · rw [tz_updk, tz_stl_o hn (by omega), hE.2.2.1]; exact nI_1 _
  · intro q hq
    rw [tz_updo (by omega), tz_updo (by omega), tz_updo (by omega), tz_updo (by omega)]
    unfold tz_inl
    by_cases e : q = t.2.1
    · subst e
      rw [if_pos rfl]
      unfold tz_stl
      refine ⟨?_, ?_, ?_, ?_⟩
      · rw [tz_updo (by omega), tz_updo (by omega), tz_updo (by omega), tz_updk]
      · rw [tz_updo (by omega), tz_updo (by omega), tz_updk]
      · rw [tz_updo (by omega), tz_updk]
      · rw [tz_updk]
    · rw [if_neg e, if_neg (by omega)]
      have h := tz_enL_set (nw := nw) (n := t.2.1) (lay := t.2.2.1) (k := t.2.1) (x := x) (y := y) (z := z) (u := u) hE.2.2.2.1 hW.2.1 hn q (by omega)
      have e2 : va_up t.2.2.1 t.2.1 (x, y, z, u) q = t.2.2.1 q := by unfold va_up; rw [if_neg e]
      rw [e2] at h
      exact h
theorem tz_en_on {nw : Nat → Int32} {t : tz_TS} {k : Nat} {x : Int32} (hE : tz_en nw t) (hW : tz_WT t) (hk : k < t.2.1) : tz_en (upd nw (512 + k) x) (tz_sl t t.2.1 (va_up t.2.2.1 k ((t.2.2.1 k).1, (t.2.2.1 k).2.1, (t.2.2.1 k).2.2.1, x))) := by
  have h8 := hW.2.1
  refine tz_en_lay hE hW (fun q hq => tz_updo (by omega)) ((tz_updo (by omega)).trans hE.2.2.1) (fun q hq => ?_)
  rw [tz_updo (by omega), tz_updo (by omega), tz_updo (by omega)]
  obtain ⟨a, b, c, d⟩ := hE.2.2.2.1 q hq
  unfold va_up
  by_cases e : q = k
  · subst e
    rw [if_pos rfl, tz_updk]
    exact ⟨a, b, c, rfl⟩
  · rw [if_neg e, tz_updo (by omega)]
    exact ⟨a, b, c, d⟩
def tz_dl (lay : Nat → tz_V4) (a l : Nat) : Nat → tz_V4 := fun q => if a ≤ q ∧ q < l then lay (q + 1) else lay q
def tz_ul (lay : Nat → tz_V4) (a l : Nat) : Nat → tz_V4 := fun q => if l < q ∧ q ≤ a then lay (q - 1) else lay q
theorem tz_dl_0 (lay : Nat → tz_V4) (a : Nat) : tz_dl lay a a = lay := by funext q; unfold tz_dl; rw [if_neg (by omega)]
theorem tz_ul_0 (lay : Nat → tz_V4) (a : Nat) : tz_ul lay a a = lay := by funext q; unfold tz_ul; rw [if_neg (by omega)]
theorem tz_dl_s {lay : Nat → tz_V4} {a l : Nat} (h : a ≤ l) (q : Nat) : tz_dl lay a (l + 1) q = va_up (tz_dl lay a l) l (tz_dl lay a l (l + 1)) q := by
  simp only [tz_dl, va_up]
  by_cases e : q = l
  · subst e; rw [if_pos rfl, if_pos (by omega), if_neg (by omega)]
  · rw [if_neg e]
    by_cases e2 : a ≤ q ∧ q < l
    · rw [if_pos e2, if_pos (by omega)]
    · rw [if_neg e2, if_neg (by omega)]
theorem tz_ul_s {lay : Nat → tz_V4} {a l : Nat} (h : l ≤ a) (h0 : 0 < l) (q : Nat) : tz_ul lay a (l - 1) q = va_up (tz_ul lay a l) l (tz_ul lay a l (l - 1)) q := by
  simp only [tz_ul, va_up]
  by_cases e : q = l
  · subst e; rw [if_pos rfl, if_pos (by omega), if_neg (by omega)]
  · rw [if_neg e]
    by_cases e2 : l < q ∧ q ≤ a
    · rw [if_pos e2, if_pos (by omega)]
    · rw [if_neg e2, if_neg (by omega)]
theorem tz_mv {lay : Nat → tz_V4} {a b n l m : Nat} {v : tz_V4} (ha : a < n) (hb : b < n) (h1 : a ≤ l ∧ (l ≤ b ∨ l = a) ∧ b ≤ l) (h2 : m ≤ a ∧ (b ≤ m ∨ m = a) ∧ m ≤ b) (q : Nat) (hq : q < n) : tz_inl (tz_rml lay a n) (n - 1) b v q = va_up (tz_ul (tz_dl lay a l) a m) b v q := by
  simp only [tz_inl, tz_rml, va_up, tz_ul, tz_dl]
  by_cases e : q = b
  · rw [if_pos e, if_pos e]
  · rw [if_neg e, if_neg e]
    rcases Nat.lt_or_ge b a with h | h
    · have e1 : l = a := by omega
      have e2 : m = b := by omega
      subst e1; subst e2
      by_cases c : m < q ∧ q ≤ l
      · rw [if_pos c, if_pos (by omega), if_neg (by omega), if_neg (by omega)]
      · rw [if_neg c, if_neg (show ¬ (l ≤ q ∧ q < l) by omega)]
        by_cases d : m < q ∧ q ≤ n - 1
        · rw [if_pos d, if_pos (by omega), show q - 1 + 1 = q by omega]
        · rw [if_neg d, if_neg (by omega)]
    · have e1 : l = b := by omega
      have e2 : m = a := by omega
      subst e1; subst e2
      rw [if_neg (show ¬ (m < q ∧ q ≤ m) by omega)]
      by_cases c : l < q ∧ q ≤ n - 1
      · rw [if_pos c, if_pos (by omega), if_neg (by omega), show q - 1 + 1 = q by omega]
      · rw [if_neg c]
        by_cases d : m ≤ q ∧ q < l
        · rw [if_pos d, if_pos (by omega)]
        · rw [if_neg d, if_neg (by omega)]
theorem tz_lk_y {s : tz_SG} {i : Int32} (h : 0 ≤ i ∧ i < nI (tz_cur s).2.1) (h8 : (tz_cur s).2.1 ≤ 8) : ∃ k, k < (tz_cur s).2.1 ∧ i = nI k ∧ tz_lk s i = some k := by
  obtain ⟨j, hj, e⟩ := vp_in_of (x := i) (n := (tz_cur s).2.1) (tz_inI (tz_le_nlt h.1) h.2 (by omega)) (by omega)
  exact ⟨j, hj, e, by rw [e]; exact tz_lk_N hj h8⟩
theorem tz_lk_n {s : tz_SG} {i : Int32} (h : ¬ (0 ≤ i ∧ i < nI (tz_cur s).2.1)) : tz_lk s i = none := by unfold tz_lk; rw [if_neg h]
theorem tz_isaN {k w : Int32} (h : 0 ≤ k ∧ k ≤ 6) : tz_isa k w ↔ (w = -1 ∨ k = w ∨ (w = 1 ∧ (k = 2 ∨ k = 3)) ∨ (w = 4 ∧ k = 5)) := by
  obtain ⟨j, hj, e⟩ := tz_toN (m := 6) (tz_le_nlt h.1) h.2 (by decide)
  subst e
  have key : ∀ b : Int32, tz_abov (nI j).toNatClampNeg = b → (b = -1 ∨ (b = 1 ∧ (nI j = 2 ∨ nI j = 3)) ∨ (b = 4 ∧ nI j = 5)) → (∀ c : Int32, c = 1 ∧ (nI j = 2 ∨ nI j = 3) → b = 1) → (∀ c : Int32, c = 4 ∧ nI j = 5 → b = 4) → (tz_isa (nI j) w ↔ (w = -1 ∨ nI j = w ∨ (w = 1 ∧ (nI j = 2 ∨ nI j = 3)) ∨ (w = 4 ∧ nI j = 5))) := by
    intro b eb h1 h2 h3
    unfold tz_isa
    rw [eb]
    constructor
    · rintro (z | z | ⟨-, -, z⟩)
      · exact Or.inl z
      · exact Or.inr (Or.inl z.symm)
      · rcases h1 with y | ⟨y, y2⟩ | ⟨y, y2⟩
        · exact Or.inl (z.symm.trans y)
        · exact Or.inr (Or.inr (Or.inl ⟨z.symm.trans y, y2⟩))
        · exact Or.inr (Or.inr (Or.inr ⟨z.symm.trans y, y2⟩))
    · rintro (z | z | z | z)
      · exact Or.inl z
      · exact Or.inr (Or.inl z.symm)
      · exact Or.inr (Or.inr ⟨h.1, h.2, (h2 w z).trans z.1.symm⟩)
      · exact Or.inr (Or.inr ⟨h.1, h.2, (h3 w z).trans z.1.symm⟩)
  rcases (show j = 0 ∨ j = 1 ∨ j = 2 ∨ j = 3 ∨ j = 4 ∨ j = 5 ∨ j = 6 by omega) with e | e | e | e | e | e | e <;> subst e
  · exact key (-1) rfl (by decide) (fun c z => absurd z.2 (by decide)) (fun c z => absurd z.2 (by decide))
  · exact key (-1) rfl (by decide) (fun c z => absurd z.2 (by decide)) (fun c z => absurd z.2 (by decide))
  · exact key 1 rfl (by decide) (fun c z => rfl) (fun c z => absurd z.2 (by decide))
  · exact key 1 rfl (by decide) (fun c z => rfl) (fun c z => absurd z.2 (by decide))
  · exact key (-1) rfl (by decide) (fun c z => absurd z.2 (by decide)) (fun c z => absurd z.2 (by decide))
  · exact key 4 rfl (by decide) (fun c z => absurd z.2 (by decide)) (fun c z => rfl)
  · exact key (-1) rfl (by decide) (fun c z => absurd z.2 (by decide)) (fun c z => absurd z.2 (by decide))
theorem tz_can06 {k a b : Int32} (h : tz_can k a b) : 0 ≤ k ∧ k ≤ 6 := ⟨h.1, h.2.1⟩

abbrev rm_M_hasB : Room := { frames := 0, cells := 0, slots := 0, locals := 0 }
set_option maxHeartbeats 4000000 in
set_option maxRecDepth 100000 in
theorem ct_M_hasB {l : Launch} {A : Nat → Prop} {D : va_G} {cs : Nat → ClassId} {sz : Nat} {f : tz_PH} {k : Int32} : tz_CN l tyM_hasB prog_13_method_28_code 1 (some (.boolean)) rm_M_hasB 0 0 A D cs sz [.int k] f (some (.int (tz_p (k = 2 ∨ k = 5)))) (fun f' => f' = f) := by
  refine tz_C.ofB (lv0 := [(0, .int k)]) (plainFor_of_name (by decide)) (Nat.le_of_ble_eq_true rfl) rfl ?_
  intro p_ e_ s_ m_ ar_ be_ me_ c_ Q_ C_ hr_ hk_ hnm_ hz_ hQ_
  refine tz_iload_n C_ 0 rfl rfl td_M_hasB_0 ?_
  refine tz_iconst C_ (v := 2) (by decide) td_M_hasB_1 ?_
  refine tz_icmp_eq C_ td_M_hasB_2 (fun h2 => ?_) (fun h2 => ?_)
  · skip
    refine tz_iconst C_ (v := 1) (by decide) td_M_hasB_10 ?_
    refine tz_goto C_ td_M_hasB_11 ?_
    refine tz_rzret C_ hr_ hk_ hQ_ (by first | exact Or.inl rfl | exact Or.inr rfl | exact tz_p01) rfl td_M_hasB_15 ?_
    exact ⟨tz_ri (by grind [tz_p]), rfl⟩
  · skip
    refine tz_iload_n C_ 0 rfl rfl td_M_hasB_5 ?_
    refine tz_iconst C_ (v := 5) (by decide) td_M_hasB_6 ?_
    refine tz_icmp_ne C_ td_M_hasB_7 (fun h7 => ?_) (fun h7 => ?_)
    · skip
      refine tz_iconst C_ (v := 0) (by decide) td_M_hasB_14 ?_
      refine tz_rzret C_ hr_ hk_ hQ_ (by first | exact Or.inl rfl | exact Or.inr rfl | exact tz_p01) rfl td_M_hasB_15 ?_
      exact ⟨tz_ri (by grind [tz_p]), rfl⟩
    · skip
      refine tz_iconst C_ (v := 1) (by decide) td_M_hasB_10 ?_
      refine tz_goto C_ td_M_hasB_11 ?_
      refine tz_rzret C_ hr_ hk_ hQ_ (by first | exact Or.inl rfl | exact Or.inr rfl | exact tz_p01) rfl td_M_hasB_15 ?_
      exact ⟨tz_ri (by grind [tz_p]), rfl⟩

abbrev rm_M_isTold : Room := { frames := 2, cells := 0, slots := 0, locals := 42 }
set_option maxHeartbeats 4000000 in
set_option maxRecDepth 100000 in
theorem ct_M_isTold {l : Launch} {A : Nat → Prop} {D : va_G} {cs : Nat → ClassId} {sz : Nat} {f : tz_PH} {k x y : Int32} : tz_CN l tyM_isTold prog_13_method_29_code 3 (some (.boolean)) rm_M_isTold 0 0 A D cs sz [.int k, .int x, .int y] f (some (.int (tz_p (tz_can k x y)))) (fun f' => f' = f) := by
  refine tz_C.ofB (lv0 := [(0, .int k), (1, .int x), (2, .int y)]) (plainFor_of_name (by decide)) (Nat.le_of_ble_eq_true rfl) rfl ?_
  intro p_ e_ s_ m_ ar_ be_ me_ c_ Q_ C_ hr_ hk_ hnm_ hz_ hQ_
  refine tz_iload_n C_ 0 rfl rfl td_M_isTold_0 ?_
  by_cases h1_0 : k = 0
  · skip
    refine tz_tableIn C_ td_M_isTold_1 (off := 43) (tgt := 44) (by rw [h1_0]; decide) (by decide) ?_
    refine tz_iload_n C_ 1 rfl rfl td_M_isTold_44 ?_
    refine tz_sipush C_ (v := -400) (by decide) td_M_isTold_45 ?_
    refine tz_sipush C_ (v := 400) (by decide) td_M_isTold_48 ?_
    refine tz_rS C_ tmi_M_in tw_810 tw_809 (As := [.int x, .int (-400), .int 400]) (by exact ct_M_in) rfl (rest := []) rfl (by decide) (Nat.le_of_ble_eq_true rfl) td_M_isTold_51 (st1 := [.int (tz_p ((-400) ≤ x ∧ x ≤ 400))]) rfl ?_
    refine tz_rzret C_ hr_ hk_ hQ_ (by first | exact Or.inl rfl | exact Or.inr rfl | exact tz_p01) rfl td_M_isTold_54 ?_
    exact ⟨tz_ri (by subst h1_0; exact tz_pc (tz_canS (lo := -400) (hi := 400) (by decide) rfl rfl (by decide) (by decide)).symm), rfl⟩
  by_cases h1_1 : k = 1
  · skip
    refine tz_tableIn C_ td_M_isTold_1 (off := 54) (tgt := 55) (by rw [h1_1]; decide) (by decide) ?_
    refine tz_iload_n C_ 1 rfl rfl td_M_isTold_55 ?_
    refine tz_iconst C_ (v := 1) (by decide) td_M_isTold_56 ?_
    refine tz_ldc C_ tw_907 td_M_isTold_57 ?_
    refine tz_rS C_ tmi_M_in tw_810 tw_809 (As := [.int x, .int 1, .int 40000]) (by exact ct_M_in) rfl (rest := []) rfl (by decide) (Nat.le_of_ble_eq_true rfl) td_M_isTold_59 (st1 := [.int (tz_p (1 ≤ x ∧ x ≤ 40000))]) rfl ?_
    refine tz_rzret C_ hr_ hk_ hQ_ (by first | exact Or.inl rfl | exact Or.inr rfl | exact tz_p01) rfl td_M_isTold_62 ?_
    exact ⟨tz_ri (by subst h1_1; exact tz_pc (tz_canS (lo := 1) (hi := 40000) (by decide) rfl rfl (by decide) (by decide)).symm), rfl⟩
  by_cases h1_2 : k = 2
  · skip
    refine tz_tableIn C_ td_M_isTold_1 (off := 62) (tgt := 63) (by rw [h1_2]; decide) (by decide) ?_
    refine tz_iload_n C_ 1 rfl rfl td_M_isTold_63 ?_
    refine tz_rS C_ tmi_M_isPass tw_807 tw_806 (As := [.int x]) (by exact ct_M_isPass) rfl (rest := []) rfl (by decide) (Nat.le_of_ble_eq_true rfl) td_M_isTold_64 (st1 := [.int (tz_p (0 ≤ x ∧ x < 4))]) rfl ?_
    refine tz_if_eq C_ td_M_isTold_67 (fun h67 => ?_) (fun h67 => ?_)
    · skip
      replace h67 := tz_p0.mp h67
      refine tz_iconst C_ (v := 0) (by decide) td_M_isTold_84 ?_
      refine tz_rzret C_ hr_ hk_ hQ_ (by first | exact Or.inl rfl | exact Or.inr rfl | exact tz_p01) rfl td_M_isTold_85 ?_
      exact ⟨tz_ri (by subst h1_2; exact tz_pFa (fun z => h67 (tz_can2I.mp z).1)), rfl⟩
    · skip
      replace h67 := tz_p1.mp h67
      refine tz_iload_n C_ 2 rfl rfl td_M_isTold_70 ?_
      refine tz_iconst C_ (v := 0) (by decide) td_M_isTold_71 ?_
      refine tz_bipush C_ (v := 9) (by decide) td_M_isTold_72 ?_
      refine tz_rS C_ tmi_M_in tw_810 tw_809 (As := [.int y, .int 0, .int 9]) (by exact ct_M_in) rfl (rest := []) rfl (by decide) (Nat.le_of_ble_eq_true rfl) td_M_isTold_74 (st1 := [.int (tz_p (0 ≤ y ∧ y ≤ 9))]) rfl ?_
      refine tz_if_eq C_ td_M_isTold_77 (fun h77 => ?_) (fun h77 => ?_)
      · skip
        replace h77 := tz_p0.mp h77
        refine tz_iconst C_ (v := 0) (by decide) td_M_isTold_84 ?_
        refine tz_rzret C_ hr_ hk_ hQ_ (by first | exact Or.inl rfl | exact Or.inr rfl | exact tz_p01) rfl td_M_isTold_85 ?_
        exact ⟨tz_ri (by subst h1_2; exact tz_pFa (fun z => h77 (tz_can2I.mp z).2)), rfl⟩
      · skip
        replace h77 := tz_p1.mp h77
        refine tz_iconst C_ (v := 1) (by decide) td_M_isTold_80 ?_
        refine tz_goto C_ td_M_isTold_81 ?_
        refine tz_rzret C_ hr_ hk_ hQ_ (by first | exact Or.inl rfl | exact Or.inr rfl | exact tz_p01) rfl td_M_isTold_85 ?_
        exact ⟨tz_ri (by subst h1_2; exact tz_pTr (tz_can2I.mpr ⟨h67, h77⟩)), rfl⟩
  by_cases h1_3 : k = 3
  · skip
    refine tz_tableIn C_ td_M_isTold_1 (off := 85) (tgt := 86) (by rw [h1_3]; decide) (by decide) ?_
    refine tz_iload_n C_ 1 rfl rfl td_M_isTold_86 ?_
    refine tz_iconst C_ (v := 1) (by decide) td_M_isTold_87 ?_
    refine tz_bipush C_ (v := 20) (by decide) td_M_isTold_88 ?_
    refine tz_rS C_ tmi_M_in tw_810 tw_809 (As := [.int x, .int 1, .int 20]) (by exact ct_M_in) rfl (rest := []) rfl (by decide) (Nat.le_of_ble_eq_true rfl) td_M_isTold_90 (st1 := [.int (tz_p (1 ≤ x ∧ x ≤ 20))]) rfl ?_
    refine tz_rzret C_ hr_ hk_ hQ_ (by first | exact Or.inl rfl | exact Or.inr rfl | exact tz_p01) rfl td_M_isTold_93 ?_
    exact ⟨tz_ri (by subst h1_3; exact tz_pc (tz_canS (lo := 1) (hi := 20) (by decide) rfl rfl (by decide) (by decide)).symm), rfl⟩
  by_cases h1_4 : k = 4
  · skip
    refine tz_tableIn C_ td_M_isTold_1 (off := 93) (tgt := 94) (by rw [h1_4]; decide) (by decide) ?_
    refine tz_iload_n C_ 1 rfl rfl td_M_isTold_94 ?_
    refine tz_iconst C_ (v := 1) (by decide) td_M_isTold_95 ?_
    refine tz_bipush C_ (v := 30) (by decide) td_M_isTold_96 ?_
    refine tz_rS C_ tmi_M_in tw_810 tw_809 (As := [.int x, .int 1, .int 30]) (by exact ct_M_in) rfl (rest := []) rfl (by decide) (Nat.le_of_ble_eq_true rfl) td_M_isTold_98 (st1 := [.int (tz_p (1 ≤ x ∧ x ≤ 30))]) rfl ?_
    refine tz_rzret C_ hr_ hk_ hQ_ (by first | exact Or.inl rfl | exact Or.inr rfl | exact tz_p01) rfl td_M_isTold_101 ?_
    exact ⟨tz_ri (by subst h1_4; exact tz_pc (tz_canS (lo := 1) (hi := 30) (by decide) rfl rfl (by decide) (by decide)).symm), rfl⟩
  by_cases h1_5 : k = 5
  · skip
    refine tz_tableIn C_ td_M_isTold_1 (off := 101) (tgt := 102) (by rw [h1_5]; decide) (by decide) ?_
    refine tz_iload_n C_ 1 rfl rfl td_M_isTold_102 ?_
    refine tz_iconst C_ (v := 0) (by decide) td_M_isTold_103 ?_
    refine tz_bipush C_ (v := 119) (by decide) td_M_isTold_104 ?_
    refine tz_rS C_ tmi_M_in tw_810 tw_809 (As := [.int x, .int 0, .int 119]) (by exact ct_M_in) rfl (rest := []) rfl (by decide) (Nat.le_of_ble_eq_true rfl) td_M_isTold_106 (st1 := [.int (tz_p (0 ≤ x ∧ x ≤ 119))]) rfl ?_
    refine tz_if_eq C_ td_M_isTold_109 (fun h109 => ?_) (fun h109 => ?_)
    · skip
      replace h109 := tz_p0.mp h109
      refine tz_iconst C_ (v := 0) (by decide) td_M_isTold_126 ?_
      refine tz_rzret C_ hr_ hk_ hQ_ (by first | exact Or.inl rfl | exact Or.inr rfl | exact tz_p01) rfl td_M_isTold_127 ?_
      exact ⟨tz_ri (by subst h1_5; exact tz_pFa (fun z => h109 (tz_can5I.mp z).1)), rfl⟩
    · skip
      replace h109 := tz_p1.mp h109
      refine tz_iload_n C_ 2 rfl rfl td_M_isTold_112 ?_
      refine tz_iconst C_ (v := 1) (by decide) td_M_isTold_113 ?_
      refine tz_bipush C_ (v := 120) (by decide) td_M_isTold_114 ?_
      refine tz_rS C_ tmi_M_in tw_810 tw_809 (As := [.int y, .int 1, .int 120]) (by exact ct_M_in) rfl (rest := []) rfl (by decide) (Nat.le_of_ble_eq_true rfl) td_M_isTold_116 (st1 := [.int (tz_p (1 ≤ y ∧ y ≤ 120))]) rfl ?_
      refine tz_if_eq C_ td_M_isTold_119 (fun h119 => ?_) (fun h119 => ?_)
      · skip
        replace h119 := tz_p0.mp h119
        refine tz_iconst C_ (v := 0) (by decide) td_M_isTold_126 ?_
        refine tz_rzret C_ hr_ hk_ hQ_ (by first | exact Or.inl rfl | exact Or.inr rfl | exact tz_p01) rfl td_M_isTold_127 ?_
        exact ⟨tz_ri (by subst h1_5; exact tz_pFa (fun z => h119 (tz_can5I.mp z).2)), rfl⟩
      · skip
        replace h119 := tz_p1.mp h119
        refine tz_iconst C_ (v := 1) (by decide) td_M_isTold_122 ?_
        refine tz_goto C_ td_M_isTold_123 ?_
        refine tz_rzret C_ hr_ hk_ hQ_ (by first | exact Or.inl rfl | exact Or.inr rfl | exact tz_p01) rfl td_M_isTold_127 ?_
        exact ⟨tz_ri (by subst h1_5; exact tz_pTr (tz_can5I.mpr ⟨h109, h119⟩)), rfl⟩
  by_cases h1_6 : k = 6
  · skip
    refine tz_tableIn C_ td_M_isTold_1 (off := 127) (tgt := 128) (by rw [h1_6]; decide) (by decide) ?_
    refine tz_iload_n C_ 1 rfl rfl td_M_isTold_128 ?_
    refine tz_iconst C_ (v := 1) (by decide) td_M_isTold_129 ?_
    refine tz_bipush C_ (v := 120) (by decide) td_M_isTold_130 ?_
    refine tz_rS C_ tmi_M_in tw_810 tw_809 (As := [.int x, .int 1, .int 120]) (by exact ct_M_in) rfl (rest := []) rfl (by decide) (Nat.le_of_ble_eq_true rfl) td_M_isTold_132 (st1 := [.int (tz_p (1 ≤ x ∧ x ≤ 120))]) rfl ?_
    refine tz_rzret C_ hr_ hk_ hQ_ (by first | exact Or.inl rfl | exact Or.inr rfl | exact tz_p01) rfl td_M_isTold_135 ?_
    exact ⟨tz_ri (by subst h1_6; exact tz_pc (tz_canS (lo := 1) (hi := 120) (by decide) rfl rfl (by decide) (by decide)).symm), rfl⟩
  refine tz_tableOut C_ td_M_isTold_1 (tgt := 136) (by decide) ?_ ?_
  · skip
    have := lv_neT h1_0 (show (0 : Int32).toInt = 0 by decide)
    have := lv_neT h1_1 (show (1 : Int32).toInt = 1 by decide)
    have := lv_neT h1_2 (show (2 : Int32).toInt = 2 by decide)
    have := lv_neT h1_3 (show (3 : Int32).toInt = 3 by decide)
    have := lv_neT h1_4 (show (4 : Int32).toInt = 4 by decide)
    have := lv_neT h1_5 (show (5 : Int32).toInt = 5 by decide)
    have := lv_neT h1_6 (show (6 : Int32).toInt = 6 by decide)
    omega
  refine tz_iconst C_ (v := 0) (by decide) td_M_isTold_136 ?_
  refine tz_rzret C_ hr_ hk_ hQ_ (by first | exact Or.inl rfl | exact Or.inr rfl | exact tz_p01) rfl td_M_isTold_137 ?_
  exact ⟨tz_ri (tz_pFa (fun z => by rcases tz_can_cases z with z | z | z | z | z | z | z; exact h1_0 z.1; exact h1_1 z.1; exact h1_2 z.1; exact h1_3 z.1; exact h1_4 z.1; exact h1_5 z.1; exact h1_6 z.1)), rfl⟩

abbrev rm_M_isLayer : Room := { frames := 1, cells := 0, slots := 0, locals := 22 }
set_option maxHeartbeats 4000000 in
set_option maxRecDepth 100000 in
theorem ct_M_isLayer {l : Launch} {A : Nat → Prop} {D : va_G} {cs : Nat → ClassId} {sz : Nat} {f : tz_PH} {M kp : Nat} {fn ms ns tg : Int32} {nw pa bi nu sh ro ma ca : Nat → Int32} (hM : tz_MB cs f M kp fn ms ns tg nw pa bi nu sh ro ma ca) {t : tz_TS} (hE : tz_en nw t) (hW : tz_WT t) {q : Int32} : tz_CN l tyM_isLayer prog_13_method_30_code 2 (some (.boolean)) rm_M_isLayer 0 0 A D cs sz [.ref M, .int q] f (some (.int (tz_p (0 ≤ q ∧ q < nI t.2.1)))) (fun f' => f' = f) := by
  refine tz_C.ofB (lv0 := [(0, .ref M), (1, .int q)]) (plainFor_of_name (by decide)) (Nat.le_of_ble_eq_true rfl) rfl ?_
  intro p_ e_ s_ m_ ar_ be_ me_ c_ Q_ C_ hr_ hk_ hnm_ hz_ hQ_
  refine tz_iload_n C_ 1 rfl rfl td_M_isLayer_0 ?_
  refine tz_iconst C_ (v := 0) (by decide) td_M_isLayer_1 ?_
  refine tz_aload_n C_ 0 rfl rfl td_M_isLayer_2 ?_
  refine tz_get C_ tci_M 0 (by decide) tw_753 hM.1 rfl td_M_isLayer_3 ?_
  refine tz_sipush C_ (v := nI 484) (by decide) td_M_isLayer_6 ?_
  refine tz_ialdN C_ hM.2.1 (by omega) (by decide) td_M_isLayer_9 ?_
  refine tz_iconst C_ (v := 1) (by decide) td_M_isLayer_10 ?_
  refine tz_isub C_ td_M_isLayer_11 ?_
  refine tz_rS C_ tmi_M_in tw_810 tw_809 (As := [.int q, .int 0, .int ((nw 484) - 1)]) (by exact ct_M_in) rfl (rest := []) rfl (by decide) (Nat.le_of_ble_eq_true rfl) td_M_isLayer_12 (st1 := [.int (tz_p (0 ≤ q ∧ q ≤ ((nw 484) - 1)))]) rfl ?_
  refine tz_rzret C_ hr_ hk_ hQ_ (by first | exact Or.inl rfl | exact Or.inr rfl | exact tz_p01) rfl td_M_isLayer_15 ?_
  exact ⟨tz_ri (by rw [hE.2.2.1]; exact tz_pc (and_congr Iff.rfl (tz_leN (by have := hW.2.1; omega)))), rfl⟩

abbrev rm_M_setLayer : Room := { frames := 0, cells := 0, slots := 0, locals := 0 }
set_option maxHeartbeats 4000000 in
set_option maxRecDepth 100000 in
theorem ct_M_setLayer {l : Launch} {A : Nat → Prop} {D : va_G} {cs : Nat → ClassId} {sz : Nat} {f : tz_PH} {M kp : Nat} {fn ms ns tg : Int32} {nw pa bi nu sh ro ma ca : Nat → Int32} (hM : tz_MB cs f M kp fn ms ns tg nw pa bi nu sh ro ma ca) {q : Nat} (hq : q < 8) {x y z u : Int32} : tz_CN l tyM_setLayer prog_13_method_31_code 6 (none) rm_M_setLayer 0 0 A D cs sz [.ref M, .int (nI q), .int x, .int y, .int z, .int u] f (none) (fun f' => tz_MB cs f' M kp fn ms ns tg ((tz_stl nw q x y z u)) pa bi nu sh ro ma ca ∧ ∀ q, (q < M ∨ M + 9 ≤ q) → f' q = f q) := by
  refine tz_C.ofB (lv0 := [(0, .ref M), (1, .int (nI q)), (2, .int x), (3, .int y), (4, .int z), (5, .int u)]) (plainFor_of_name (by decide)) (Nat.le_of_ble_eq_true rfl) rfl ?_
  intro p_ e_ s_ m_ ar_ be_ me_ c_ Q_ C_ hr_ hk_ hnm_ hz_ hQ_
  refine tz_aload_n C_ 0 rfl rfl td_M_setLayer_0 ?_
  refine tz_get C_ tci_M 0 (by decide) tw_753 hM.1 rfl td_M_setLayer_1 ?_
  refine tz_sipush C_ (v := 488) (by decide) td_M_setLayer_4 ?_
  refine tz_iload_n C_ 1 rfl rfl td_M_setLayer_7 ?_
  refine tz_iadd C_ td_M_setLayer_8 ?_
  rw [show (488 + (nI q) : Int32) = nI (488 + q) from nI_add (488) (q)]
  refine tz_iload_n C_ 2 rfl rfl td_M_setLayer_9 ?_
  refine tz_wiastN C_ hM.2.1 (by omega) (by decide) (g' := upd nw ((488 + q)) x) rfl td_M_setLayer_10 (fun f1 hs1 hq1 => ?_)
  refine tz_aload_n C_ 0 rfl rfl td_M_setLayer_11 ?_
  have k2 : f1 M = some (tz_obj 11 [.ref (M + 1), .ref (M + 2), .int (nI kp), .int fn, .ref (M + 3), .ref (M + 4), .ref (M + 5), .int ms, .ref (M + 6), .int ns, .ref (M + 7), .ref (M + 8), .int tg]) := ((hq1 _ (by omega)).trans hM.1)
  refine tz_get C_ tci_M 0 (by decide) tw_753 k2 rfl td_M_setLayer_12 ?_
  refine tz_sipush C_ (v := 496) (by decide) td_M_setLayer_15 ?_
  refine tz_iload_n C_ 1 rfl rfl td_M_setLayer_18 ?_
  refine tz_iadd C_ td_M_setLayer_19 ?_
  rw [show (496 + (nI q) : Int32) = nI (496 + q) from nI_add (496) (q)]
  refine tz_iload_n C_ 3 rfl rfl td_M_setLayer_20 ?_
  refine tz_wiastN C_ hs1 (by omega) (by decide) (g' := upd (upd nw ((488 + q)) x) ((496 + q)) y) rfl td_M_setLayer_21 (fun f3 hs3 hq3 => ?_)
  refine tz_aload_n C_ 0 rfl rfl td_M_setLayer_22 ?_
  have k4 : f3 M = some (tz_obj 11 [.ref (M + 1), .ref (M + 2), .int (nI kp), .int fn, .ref (M + 3), .ref (M + 4), .ref (M + 5), .int ms, .ref (M + 6), .int ns, .ref (M + 7), .ref (M + 8), .int tg]) := ((hq3 _ (by omega)).trans k2)
  refine tz_get C_ tci_M 0 (by decide) tw_753 k4 rfl td_M_setLayer_23 ?_
  refine tz_sipush C_ (v := 504) (by decide) td_M_setLayer_26 ?_
  refine tz_iload_n C_ 1 rfl rfl td_M_setLayer_29 ?_
  refine tz_iadd C_ td_M_setLayer_30 ?_
  rw [show (504 + (nI q) : Int32) = nI (504 + q) from nI_add (504) (q)]
  refine tz_iload C_ 4 rfl td_M_setLayer_31 ?_
  refine tz_wiastN C_ hs3 (by omega) (by decide) (g' := upd (upd (upd nw ((488 + q)) x) ((496 + q)) y) ((504 + q)) z) rfl td_M_setLayer_33 (fun f5 hs5 hq5 => ?_)
  refine tz_aload_n C_ 0 rfl rfl td_M_setLayer_34 ?_
  have k6 : f5 M = some (tz_obj 11 [.ref (M + 1), .ref (M + 2), .int (nI kp), .int fn, .ref (M + 3), .ref (M + 4), .ref (M + 5), .int ms, .ref (M + 6), .int ns, .ref (M + 7), .ref (M + 8), .int tg]) := ((hq5 _ (by omega)).trans k4)
  refine tz_get C_ tci_M 0 (by decide) tw_753 k6 rfl td_M_setLayer_35 ?_
  refine tz_sipush C_ (v := 512) (by decide) td_M_setLayer_38 ?_
  refine tz_iload_n C_ 1 rfl rfl td_M_setLayer_41 ?_
  refine tz_iadd C_ td_M_setLayer_42 ?_
  rw [show (512 + (nI q) : Int32) = nI (512 + q) from nI_add (512) (q)]
  refine tz_iload C_ 5 rfl td_M_setLayer_43 ?_
  refine tz_wiastN C_ hs5 (by omega) (by decide) (g' := upd (upd (upd (upd nw ((488 + q)) x) ((496 + q)) y) ((504 + q)) z) ((512 + q)) u) rfl td_M_setLayer_45 (fun f7 hs7 hq7 => ?_)
  refine tz_rvret C_ hr_ hk_ hQ_ rfl td_M_setLayer_46 ?_
  have k8 : f7 M = some (tz_obj 11 [.ref (M + 1), .ref (M + 2), .int (nI kp), .int fn, .ref (M + 3), .ref (M + 4), .ref (M + 5), .int ms, .ref (M + 6), .int ns, .ref (M + 7), .ref (M + 8), .int tg]) := ((hq7 _ (by omega)).trans k6)
  have k9 : f7 (M + 2) = some (tz_ints cs 10640 pa) := ((hq7 _ (by omega)).trans ((hq5 _ (by omega)).trans ((hq3 _ (by omega)).trans ((hq1 _ (by omega)).trans hM.2.2.1))))
  have k10 : f7 (M + 3) = some (tz_ints cs 4 bi) := ((hq7 _ (by omega)).trans ((hq5 _ (by omega)).trans ((hq3 _ (by omega)).trans ((hq1 _ (by omega)).trans hM.2.2.2.1))))
  have k11 : f7 (M + 4) = some (tz_ints cs 4 nu) := ((hq7 _ (by omega)).trans ((hq5 _ (by omega)).trans ((hq3 _ (by omega)).trans ((hq1 _ (by omega)).trans hM.2.2.2.2.1))))
  have k12 : f7 (M + 5) = some (tz_ints cs 480 sh) := ((hq7 _ (by omega)).trans ((hq5 _ (by omega)).trans ((hq3 _ (by omega)).trans ((hq1 _ (by omega)).trans hM.2.2.2.2.2.1))))
  have k13 : f7 (M + 6) = some (tz_ints cs 120 ro) := ((hq7 _ (by omega)).trans ((hq5 _ (by omega)).trans ((hq3 _ (by omega)).trans ((hq1 _ (by omega)).trans hM.2.2.2.2.2.2.1))))
  have k14 : f7 (M + 7) = some (tz_ints cs 120 ma) := ((hq7 _ (by omega)).trans ((hq5 _ (by omega)).trans ((hq3 _ (by omega)).trans ((hq1 _ (by omega)).trans hM.2.2.2.2.2.2.2.1))))
  have k15 : f7 (M + 8) = some (tz_ints cs 120 ca) := ((hq7 _ (by omega)).trans ((hq5 _ (by omega)).trans ((hq3 _ (by omega)).trans ((hq1 _ (by omega)).trans hM.2.2.2.2.2.2.2.2))))
  exact ⟨rfl, ⟨k8, hs7, k9, k10, k11, k12, k13, k14, k15⟩, (fun q hh => by rw [hq7 q (by omega), hq5 q (by omega), hq3 q (by omega), hq1 q (by omega)])⟩

abbrev rm_M_copyLayer : Room := { frames := 1, cells := 0, slots := 0, locals := 25 }
set_option maxHeartbeats 4000000 in
set_option maxRecDepth 100000 in
theorem ct_M_copyLayer {l : Launch} {A : Nat → Prop} {D : va_G} {cs : Nat → ClassId} {sz : Nat} {f : tz_PH} {M kp : Nat} {fn ms ns tg : Int32} {nw pa bi nu sh ro ma ca : Nat → Int32} (hM : tz_MB cs f M kp fn ms ns tg nw pa bi nu sh ro ma ca) {a b : Nat} (ha : a < 8) (hb : b < 8) : tz_CN l tyM_copyLayer prog_13_method_32_code 3 (none) rm_M_copyLayer 0 0 A D cs sz [.ref M, .int (nI a), .int (nI b)] f (none) (fun f' => tz_MB cs f' M kp fn ms ns tg ((tz_stl nw b (nw (488 + a)) (nw (496 + a)) (nw (504 + a)) (nw (512 + a)))) pa bi nu sh ro ma ca ∧ ∀ q, (q < M ∨ M + 9 ≤ q) → f' q = f q) := by
  refine tz_C.ofB (lv0 := [(0, .ref M), (1, .int (nI a)), (2, .int (nI b))]) (plainFor_of_name (by decide)) (Nat.le_of_ble_eq_true rfl) rfl ?_
  intro p_ e_ s_ m_ ar_ be_ me_ c_ Q_ C_ hr_ hk_ hnm_ hz_ hQ_
  refine tz_aload_n C_ 0 rfl rfl td_M_copyLayer_0 ?_
  refine tz_iload_n C_ 2 rfl rfl td_M_copyLayer_1 ?_
  refine tz_aload_n C_ 0 rfl rfl td_M_copyLayer_2 ?_
  refine tz_get C_ tci_M 0 (by decide) tw_753 hM.1 rfl td_M_copyLayer_3 ?_
  refine tz_sipush C_ (v := 488) (by decide) td_M_copyLayer_6 ?_
  refine tz_iload_n C_ 1 rfl rfl td_M_copyLayer_9 ?_
  refine tz_iadd C_ td_M_copyLayer_10 ?_
  rw [show (488 + (nI a) : Int32) = nI (488 + a) from nI_add (488) (a)]
  refine tz_ialdN C_ hM.2.1 (by omega) (by decide) td_M_copyLayer_11 ?_
  refine tz_aload_n C_ 0 rfl rfl td_M_copyLayer_12 ?_
  refine tz_get C_ tci_M 0 (by decide) tw_753 hM.1 rfl td_M_copyLayer_13 ?_
  refine tz_sipush C_ (v := 496) (by decide) td_M_copyLayer_16 ?_
  refine tz_iload_n C_ 1 rfl rfl td_M_copyLayer_19 ?_
  refine tz_iadd C_ td_M_copyLayer_20 ?_
  rw [show (496 + (nI a) : Int32) = nI (496 + a) from nI_add (496) (a)]
  refine tz_ialdN C_ hM.2.1 (by omega) (by decide) td_M_copyLayer_21 ?_
  refine tz_aload_n C_ 0 rfl rfl td_M_copyLayer_22 ?_
  refine tz_get C_ tci_M 0 (by decide) tw_753 hM.1 rfl td_M_copyLayer_23 ?_
  refine tz_sipush C_ (v := 504) (by decide) td_M_copyLayer_26 ?_
  refine tz_iload_n C_ 1 rfl rfl td_M_copyLayer_29 ?_
  refine tz_iadd C_ td_M_copyLayer_30 ?_
  rw [show (504 + (nI a) : Int32) = nI (504 + a) from nI_add (504) (a)]
  refine tz_ialdN C_ hM.2.1 (by omega) (by decide) td_M_copyLayer_31 ?_
  refine tz_aload_n C_ 0 rfl rfl td_M_copyLayer_32 ?_
  refine tz_get C_ tci_M 0 (by decide) tw_753 hM.1 rfl td_M_copyLayer_33 ?_
  refine tz_sipush C_ (v := 512) (by decide) td_M_copyLayer_36 ?_
  refine tz_iload_n C_ 1 rfl rfl td_M_copyLayer_39 ?_
  refine tz_iadd C_ td_M_copyLayer_40 ?_
  rw [show (512 + (nI a) : Int32) = nI (512 + a) from nI_add (512) (a)]
  refine tz_ialdN C_ hM.2.1 (by omega) (by decide) td_M_copyLayer_41 ?_
  refine tz_cV C_ tmi_M_setLayer tw_914 tw_25 tw_912 hM.1 rfl (As := [.int (nI b), .int (nw ((488 + a))), .int (nw ((496 + a))), .int (nw ((504 + a))), .int (nw ((512 + a)))]) (by exact (ct_M_setLayer ⟨hM.1, hM.2.1, hM.2.2.1, hM.2.2.2.1, hM.2.2.2.2.1, hM.2.2.2.2.2.1, hM.2.2.2.2.2.2.1, hM.2.2.2.2.2.2.2.1, hM.2.2.2.2.2.2.2.2⟩ (q := b) (by omega))) rfl (rest := []) rfl (by decide) (Nat.le_of_ble_eq_true rfl) td_M_copyLayer_42 (st1 := []) rfl (fun f1 hF1 => ?_)
  obtain ⟨hSL2, hq2⟩ := hF1
  refine tz_rvret C_ hr_ hk_ hQ_ rfl td_M_copyLayer_45 ?_
  exact ⟨rfl, ⟨hSL2.1, hSL2.2.1, hSL2.2.2.1, hSL2.2.2.2.1, hSL2.2.2.2.2.1, hSL2.2.2.2.2.2.1, hSL2.2.2.2.2.2.2.1, hSL2.2.2.2.2.2.2.2.1, hSL2.2.2.2.2.2.2.2.2⟩, (fun q hh => by rw [hq2 q (by omega)])⟩

abbrev rm_M_layer : Room := { frames := 3, cells := 0, slots := 0, locals := 64 }
set_option maxHeartbeats 4000000 in
set_option maxRecDepth 100000 in
theorem ct_M_layer {l : Launch} {A : Nat → Prop} {D : va_G} {cs : Nat → ClassId} {sz : Nat} {f : tz_PH} {M : Nat} {σ : tz_SG} (hX : tz_AM cs f M σ) (hW : tz_WF σ) {k a b : Int32} : tz_CN l tyM_layer prog_13_method_33_code 5 (some (.int)) rm_M_layer 0 0 A D cs sz [.ref M, .int k, .int a, .int b] f (some (.int (sp_layer σ k a b).1)) (fun f' => tz_AM cs f' M (sp_layer σ k a b).2 ∧ ∀ q, (q < M ∨ M + 9 ≤ q) → f' q = f q) := by
  refine tz_C.ofB (lv0 := [(0, .ref M), (1, .int k), (2, .int a), (3, .int b)]) (plainFor_of_name (by decide)) (Nat.le_of_ble_eq_true rfl) rfl ?_
  intro p_ e_ s_ m_ ar_ be_ me_ c_ Q_ C_ hr_ hk_ hnm_ hz_ hQ_
  obtain ⟨ms, ns, tg, nw, pa, bi, nu, sh, ro, ma, ca, hM, hE, hH, hQ⟩ := hX
  have hWT := hW.cur
  have hkp : σ.2.1 ≤ 20 := hW.1
  have hl8 := hWT.2.1
  refine tz_iload_n C_ 1 rfl rfl td_M_layer_0 ?_
  refine tz_iload_n C_ 2 rfl rfl td_M_layer_1 ?_
  refine tz_iload_n C_ 3 rfl rfl td_M_layer_2 ?_
  refine tz_rS C_ tmi_M_isTold tw_905 tw_904 (As := [.int k, .int a, .int b]) (by exact ct_M_isTold) rfl (rest := []) rfl (by decide) (Nat.le_of_ble_eq_true rfl) td_M_layer_3 (st1 := [.int (tz_p (tz_can k a b))]) rfl ?_
  refine tz_if_ne C_ td_M_layer_6 (fun h6 => ?_) (fun h6 => ?_)
  · skip
    replace h6 := tz_p1.mp h6
    refine tz_aload_n C_ 0 rfl rfl td_M_layer_16 ?_
    refine tz_get C_ tci_M 0 (by decide) tw_753 hM.1 rfl td_M_layer_17 ?_
    refine tz_sipush C_ (v := nI 484) (by decide) td_M_layer_20 ?_
    refine tz_ialdN C_ hM.2.1 (by omega) (by decide) td_M_layer_23 ?_
    rw [hE.2.2.1]
    refine tz_istore C_ (lv' := [(0, .ref M), (1, .int k), (2, .int a), (3, .int b), (4, .int (nI (tz_cur σ).2.1))]) [1, 2, 3, 4, 0] (by decide) rfl td_M_layer_24 ?_
    refine tz_iload C_ 4 rfl td_M_layer_26 ?_
    refine tz_bipush C_ (v := 8) (by decide) td_M_layer_28 ?_
    refine tz_icmp_ne C_ td_M_layer_30 (fun h30 => ?_) (fun h30 => ?_)
    · skip
      replace h30 := mt (nI_eq (a := (tz_cur σ).2.1) (b := 8) (by omega) (by omega)).mpr h30
      have hn8 : (tz_cur σ).2.1 < 8 := by omega
      refine tz_aload_n C_ 0 rfl rfl td_M_layer_40 ?_
      refine tz_cV C_ tmi_M_keep tw_815 tw_15 tw_813 hM.1 rfl (As := []) (by exact (ct_M_keep ⟨hM.1, hM.2.1, hM.2.2.1, hM.2.2.2.1, hM.2.2.2.2.1, hM.2.2.2.2.2.1, hM.2.2.2.2.2.2.1, hM.2.2.2.2.2.2.2.1, hM.2.2.2.2.2.2.2.2⟩ hH hE (fun j hj => hW.2.1 j hj) hkp)) rfl (rest := []) rfl (by decide) (Nat.le_of_ble_eq_true rfl) td_M_layer_41 (st1 := []) rfl (fun f1 hF1 => ?_)
      obtain ⟨⟨paK, hMK, hHK⟩, hqK⟩ := hF1
      refine tz_aload_n C_ 0 rfl rfl td_M_layer_44 ?_
      refine tz_iload C_ 4 rfl td_M_layer_45 ?_
      refine tz_iload_n C_ 1 rfl rfl td_M_layer_47 ?_
      refine tz_iload_n C_ 2 rfl rfl td_M_layer_48 ?_
      refine tz_iload_n C_ 1 rfl rfl td_M_layer_49 ?_
      refine tz_rS C_ tmi_M_hasB tw_910 tw_909 (As := [.int k]) (by exact ct_M_hasB) rfl (rest := [.int a, .int k, .int (nI (tz_cur σ).2.1), .ref M]) rfl (by decide) (Nat.le_of_ble_eq_true rfl) td_M_layer_50 (st1 := [.int (tz_p (k = 2 ∨ k = 5)), .int a, .int k, .int (nI (tz_cur σ).2.1), .ref M]) rfl ?_
      refine tz_if_eq C_ td_M_layer_53 (fun h53 => ?_) (fun h53 => ?_)
      · skip
        replace h53 := tz_p0.mp h53
        refine tz_iconst C_ (v := 0) (by decide) td_M_layer_60 ?_
        refine tz_iconst C_ (v := 1) (by decide) td_M_layer_61 ?_
        refine tz_cV C_ tmi_M_setLayer tw_914 tw_25 tw_912 hMK.1 rfl (As := [.int (nI (tz_cur σ).2.1), .int k, .int a, .int 0, .int 1]) (by exact (ct_M_setLayer ⟨hMK.1, hMK.2.1, hMK.2.2.1, hMK.2.2.2.1, hMK.2.2.2.2.1, hMK.2.2.2.2.2.1, hMK.2.2.2.2.2.2.1, hMK.2.2.2.2.2.2.2.1, hMK.2.2.2.2.2.2.2.2⟩ (q := (tz_cur σ).2.1) hn8)) rfl (rest := []) rfl (by decide) (Nat.le_of_ble_eq_true rfl) td_M_layer_62 (st1 := []) rfl (fun f2 hF2 => ?_)
        obtain ⟨hSL3, hq3⟩ := hF2
        refine tz_aload_n C_ 0 rfl rfl td_M_layer_65 ?_
        refine tz_get C_ tci_M 0 (by decide) tw_753 hSL3.1 rfl td_M_layer_66 ?_
        refine tz_sipush C_ (v := nI 484) (by decide) td_M_layer_69 ?_
        refine tz_dup2 C_ rfl rfl td_M_layer_72 ?_
        refine tz_ialdN C_ hSL3.2.1 (by omega) (by decide) td_M_layer_73 ?_
        refine tz_iconst C_ (v := 1) (by decide) td_M_layer_74 ?_
        refine tz_iadd C_ td_M_layer_75 ?_
        refine tz_wiastN C_ hSL3.2.1 (by omega) (by decide) (g' := upd ((tz_stl nw (tz_cur σ).2.1 k a 0 1)) 484 ((((tz_stl nw (tz_cur σ).2.1 k a 0 1)) 484) + 1)) rfl td_M_layer_76 (fun f4 hs4 hq4 => ?_)
        refine tz_iload C_ 4 rfl td_M_layer_77 ?_
        refine tz_riret C_ hr_ hk_ hQ_ rfl td_M_layer_79 ?_
        have k5 : f4 M = some (tz_obj 11 [.ref (M + 1), .ref (M + 2), .int (nI (min (σ.2.1 + 1) 20)), .int σ.2.2.2, .ref (M + 3), .ref (M + 4), .ref (M + 5), .int ms, .ref (M + 6), .int ns, .ref (M + 7), .ref (M + 8), .int tg]) := ((hq4 _ (by omega)).trans hSL3.1)
        have k6 : f4 (M + 2) = some (tz_ints cs 10640 paK) := ((hq4 _ (by omega)).trans hSL3.2.2.1)
        have k7 : f4 (M + 3) = some (tz_ints cs 4 bi) := ((hq4 _ (by omega)).trans hSL3.2.2.2.1)
        have k8 : f4 (M + 4) = some (tz_ints cs 4 nu) := ((hq4 _ (by omega)).trans hSL3.2.2.2.2.1)
        have k9 : f4 (M + 5) = some (tz_ints cs 480 sh) := ((hq4 _ (by omega)).trans hSL3.2.2.2.2.2.1)
        have k10 : f4 (M + 6) = some (tz_ints cs 120 ro) := ((hq4 _ (by omega)).trans hSL3.2.2.2.2.2.2.1)
        have k11 : f4 (M + 7) = some (tz_ints cs 120 ma) := ((hq4 _ (by omega)).trans hSL3.2.2.2.2.2.2.2.1)
        have k12 : f4 (M + 8) = some (tz_ints cs 120 ca) := ((hq4 _ (by omega)).trans hSL3.2.2.2.2.2.2.2.2)
        have e9 : sp_layer σ k a b = (nI (tz_cur σ).2.1, tz_act σ (tz_sl (tz_cur σ) ((tz_cur σ).2.1 + 1) (tz_inl (tz_lyr σ) (tz_cur σ).2.1 (tz_cur σ).2.1 (k, a, 0, 1)))) := by rw [sp_layer, if_pos h6, if_pos hn8, if_neg h53]
        rw [e9]
        exact ⟨rfl, tz_AM_act hW ⟨k5, hs4, k6, k7, k8, k9, k10, k11, k12⟩ (tz_en_add hE hWT hn8) hHK hQ, (fun q hh => by rw [hq4 q (by omega), hq3 q (by omega), hqK q (by omega)])⟩
      · skip
        replace h53 := tz_p1.mp h53
        refine tz_iload_n C_ 3 rfl rfl td_M_layer_56 ?_
        refine tz_goto C_ td_M_layer_57 ?_
        refine tz_iconst C_ (v := 1) (by decide) td_M_layer_61 ?_
        refine tz_cV C_ tmi_M_setLayer tw_914 tw_25 tw_912 hMK.1 rfl (As := [.int (nI (tz_cur σ).2.1), .int k, .int a, .int b, .int 1]) (by exact (ct_M_setLayer ⟨hMK.1, hMK.2.1, hMK.2.2.1, hMK.2.2.2.1, hMK.2.2.2.2.1, hMK.2.2.2.2.2.1, hMK.2.2.2.2.2.2.1, hMK.2.2.2.2.2.2.2.1, hMK.2.2.2.2.2.2.2.2⟩ (q := (tz_cur σ).2.1) hn8)) rfl (rest := []) rfl (by decide) (Nat.le_of_ble_eq_true rfl) td_M_layer_62 (st1 := []) rfl (fun f13 hF13 => ?_)
        obtain ⟨hSL14, hq14⟩ := hF13
        refine tz_aload_n C_ 0 rfl rfl td_M_layer_65 ?_
        refine tz_get C_ tci_M 0 (by decide) tw_753 hSL14.1 rfl td_M_layer_66 ?_
        refine tz_sipush C_ (v := nI 484) (by decide) td_M_layer_69 ?_
        refine tz_dup2 C_ rfl rfl td_M_layer_72 ?_
        refine tz_ialdN C_ hSL14.2.1 (by omega) (by decide) td_M_layer_73 ?_
        refine tz_iconst C_ (v := 1) (by decide) td_M_layer_74 ?_
        refine tz_iadd C_ td_M_layer_75 ?_
        refine tz_wiastN C_ hSL14.2.1 (by omega) (by decide) (g' := upd ((tz_stl nw (tz_cur σ).2.1 k a b 1)) 484 ((((tz_stl nw (tz_cur σ).2.1 k a b 1)) 484) + 1)) rfl td_M_layer_76 (fun f15 hs15 hq15 => ?_)
        refine tz_iload C_ 4 rfl td_M_layer_77 ?_
        refine tz_riret C_ hr_ hk_ hQ_ rfl td_M_layer_79 ?_
        have k16 : f15 M = some (tz_obj 11 [.ref (M + 1), .ref (M + 2), .int (nI (min (σ.2.1 + 1) 20)), .int σ.2.2.2, .ref (M + 3), .ref (M + 4), .ref (M + 5), .int ms, .ref (M + 6), .int ns, .ref (M + 7), .ref (M + 8), .int tg]) := ((hq15 _ (by omega)).trans hSL14.1)
        have k17 : f15 (M + 2) = some (tz_ints cs 10640 paK) := ((hq15 _ (by omega)).trans hSL14.2.2.1)
        have k18 : f15 (M + 3) = some (tz_ints cs 4 bi) := ((hq15 _ (by omega)).trans hSL14.2.2.2.1)
        have k19 : f15 (M + 4) = some (tz_ints cs 4 nu) := ((hq15 _ (by omega)).trans hSL14.2.2.2.2.1)
        have k20 : f15 (M + 5) = some (tz_ints cs 480 sh) := ((hq15 _ (by omega)).trans hSL14.2.2.2.2.2.1)
        have k21 : f15 (M + 6) = some (tz_ints cs 120 ro) := ((hq15 _ (by omega)).trans hSL14.2.2.2.2.2.2.1)
        have k22 : f15 (M + 7) = some (tz_ints cs 120 ma) := ((hq15 _ (by omega)).trans hSL14.2.2.2.2.2.2.2.1)
        have k23 : f15 (M + 8) = some (tz_ints cs 120 ca) := ((hq15 _ (by omega)).trans hSL14.2.2.2.2.2.2.2.2)
        have e9 : sp_layer σ k a b = (nI (tz_cur σ).2.1, tz_act σ (tz_sl (tz_cur σ) ((tz_cur σ).2.1 + 1) (tz_inl (tz_lyr σ) (tz_cur σ).2.1 (tz_cur σ).2.1 (k, a, b, 1)))) := by rw [sp_layer, if_pos h6, if_pos hn8, if_pos h53]
        rw [e9]
        exact ⟨rfl, tz_AM_act hW ⟨k16, hs15, k17, k18, k19, k20, k21, k22, k23⟩ (tz_en_add hE hWT hn8) hHK hQ, (fun q hh => by rw [hq15 q (by omega), hq14 q (by omega), hqK q (by omega)])⟩
    · skip
      replace h30 := (nI_eq (a := (tz_cur σ).2.1) (b := 8) (by omega) (by omega)).mp h30
      refine tz_aload_n C_ 0 rfl rfl td_M_layer_33 ?_
      refine tz_ldc C_ tw_908 td_M_layer_34 ?_
      refine tz_cV C_ tmi_M_finding tw_800 tw_14 tw_798 hM.1 rfl (As := [.int (-100005)]) (by exact (ct_M_finding (v := -100005) hM.1)) rfl (rest := []) rfl (by decide) (Nat.le_of_ble_eq_true rfl) td_M_layer_36 (st1 := [.int (-100005)]) rfl (fun f24 hF24 => ?_)
      obtain ⟨hs25, hq25⟩ := hF24
      refine tz_riret C_ hr_ hk_ hQ_ rfl td_M_layer_39 ?_
      have k26 : f24 (M + 1) = some (tz_ints cs 532 nw) := ((hq25 _ (by omega)).trans hM.2.1)
      have k27 : f24 (M + 2) = some (tz_ints cs 10640 pa) := ((hq25 _ (by omega)).trans hM.2.2.1)
      have k28 : f24 (M + 3) = some (tz_ints cs 4 bi) := ((hq25 _ (by omega)).trans hM.2.2.2.1)
      have k29 : f24 (M + 4) = some (tz_ints cs 4 nu) := ((hq25 _ (by omega)).trans hM.2.2.2.2.1)
      have k30 : f24 (M + 5) = some (tz_ints cs 480 sh) := ((hq25 _ (by omega)).trans hM.2.2.2.2.2.1)
      have k31 : f24 (M + 6) = some (tz_ints cs 120 ro) := ((hq25 _ (by omega)).trans hM.2.2.2.2.2.2.1)
      have k32 : f24 (M + 7) = some (tz_ints cs 120 ma) := ((hq25 _ (by omega)).trans hM.2.2.2.2.2.2.2.1)
      have k33 : f24 (M + 8) = some (tz_ints cs 120 ca) := ((hq25 _ (by omega)).trans hM.2.2.2.2.2.2.2.2)
      have e9 : sp_layer σ k a b = (-100005, tz_fnd σ) := by rw [sp_layer, if_pos h6, if_neg (show ¬ (tz_cur σ).2.1 < 8 by omega), tz_an_f (by decide)]
      rw [e9]
      exact ⟨rfl, ⟨_, _, _, _, _, _, _, _, _, _, _, ⟨hs25, k26, k27, k28, k29, k30, k31, k32, k33⟩, hE, hH, hQ⟩, (fun q hh => by rw [hq25 q (by omega)])⟩
  · skip
    replace h6 := tz_p0.mp h6
    refine tz_aload_n C_ 0 rfl rfl td_M_layer_9 ?_
    refine tz_ldc C_ tw_812 td_M_layer_10 ?_
    refine tz_cV C_ tmi_M_finding tw_800 tw_14 tw_798 hM.1 rfl (As := [.int (-100001)]) (by exact (ct_M_finding (v := -100001) hM.1)) rfl (rest := []) rfl (by decide) (Nat.le_of_ble_eq_true rfl) td_M_layer_12 (st1 := [.int (-100001)]) rfl (fun f34 hF34 => ?_)
    obtain ⟨hs35, hq35⟩ := hF34
    refine tz_riret C_ hr_ hk_ hQ_ rfl td_M_layer_15 ?_
    have k36 : f34 (M + 1) = some (tz_ints cs 532 nw) := ((hq35 _ (by omega)).trans hM.2.1)
    have k37 : f34 (M + 2) = some (tz_ints cs 10640 pa) := ((hq35 _ (by omega)).trans hM.2.2.1)
    have k38 : f34 (M + 3) = some (tz_ints cs 4 bi) := ((hq35 _ (by omega)).trans hM.2.2.2.1)
    have k39 : f34 (M + 4) = some (tz_ints cs 4 nu) := ((hq35 _ (by omega)).trans hM.2.2.2.2.1)
    have k40 : f34 (M + 5) = some (tz_ints cs 480 sh) := ((hq35 _ (by omega)).trans hM.2.2.2.2.2.1)
    have k41 : f34 (M + 6) = some (tz_ints cs 120 ro) := ((hq35 _ (by omega)).trans hM.2.2.2.2.2.2.1)
    have k42 : f34 (M + 7) = some (tz_ints cs 120 ma) := ((hq35 _ (by omega)).trans hM.2.2.2.2.2.2.2.1)
    have k43 : f34 (M + 8) = some (tz_ints cs 120 ca) := ((hq35 _ (by omega)).trans hM.2.2.2.2.2.2.2.2)
    have e9 : sp_layer σ k a b = (-100001, tz_fnd σ) := by rw [sp_layer, if_neg h6, tz_an_f (by decide)]
    rw [e9]
    exact ⟨rfl, ⟨_, _, _, _, _, _, _, _, _, _, _, ⟨hs35, k36, k37, k38, k39, k40, k41, k42, k43⟩, hE, hH, hQ⟩, (fun q hh => by rw [hq35 q (by omega)])⟩

abbrev rm_M_turnOn : Room := { frames := 2, cells := 0, slots := 0, locals := 43 }
set_option maxHeartbeats 4000000 in
set_option maxRecDepth 100000 in
theorem ct_M_turnOn {l : Launch} {A : Nat → Prop} {D : va_G} {cs : Nat → ClassId} {sz : Nat} {f : tz_PH} {M : Nat} {σ : tz_SG} (hX : tz_AM cs f M σ) (hW : tz_WF σ) {i on : Int32} (hon : on = 0 ∨ on = 1) : tz_CN l tyM_turnOn prog_13_method_34_code 4 (some (.int)) rm_M_turnOn 0 0 A D cs sz [.ref M, .int i, .int on] f (some (.int (sp_turnOn σ i on).1)) (fun f' => tz_AM cs f' M (sp_turnOn σ i on).2 ∧ ∀ q, (q < M ∨ M + 9 ≤ q) → f' q = f q) := by
  refine tz_C.ofB (lv0 := [(0, .ref M), (1, .int i), (2, .int on)]) (plainFor_of_name (by decide)) (Nat.le_of_ble_eq_true rfl) rfl ?_
  intro p_ e_ s_ m_ ar_ be_ me_ c_ Q_ C_ hr_ hk_ hnm_ hz_ hQ_
  obtain ⟨ms, ns, tg, nw, pa, bi, nu, sh, ro, ma, ca, hM, hE, hH, hQ⟩ := hX
  have hWT := hW.cur
  have hkp : σ.2.1 ≤ 20 := hW.1
  have hl8 := hWT.2.1
  refine tz_aload_n C_ 0 rfl rfl td_M_turnOn_0 ?_
  refine tz_iload_n C_ 1 rfl rfl td_M_turnOn_1 ?_
  refine tz_rV C_ tmi_M_isLayer tw_922 tw_26 tw_920 hM.1 rfl (As := [.int i]) (by exact (ct_M_isLayer ⟨hM.1, hM.2.1, hM.2.2.1, hM.2.2.2.1, hM.2.2.2.2.1, hM.2.2.2.2.2.1, hM.2.2.2.2.2.2.1, hM.2.2.2.2.2.2.2.1, hM.2.2.2.2.2.2.2.2⟩ hE hWT)) rfl (rest := []) rfl (by decide) (Nat.le_of_ble_eq_true rfl) td_M_turnOn_2 (st1 := [.int (tz_p (0 ≤ i ∧ i < nI (tz_cur σ).2.1))]) rfl ?_
  refine tz_if_ne C_ td_M_turnOn_5 (fun h5 => ?_) (fun h5 => ?_)
  · skip
    replace h5 := tz_p1.mp h5
    obtain ⟨k, hk, ek, hlk5⟩ := tz_lk_y h5 hl8
    subst ek
    refine tz_aload_n C_ 0 rfl rfl td_M_turnOn_15 ?_
    refine tz_cV C_ tmi_M_keep tw_815 tw_15 tw_813 hM.1 rfl (As := []) (by exact (ct_M_keep ⟨hM.1, hM.2.1, hM.2.2.1, hM.2.2.2.1, hM.2.2.2.2.1, hM.2.2.2.2.2.1, hM.2.2.2.2.2.2.1, hM.2.2.2.2.2.2.2.1, hM.2.2.2.2.2.2.2.2⟩ hH hE (fun j hj => hW.2.1 j hj) hkp)) rfl (rest := []) rfl (by decide) (Nat.le_of_ble_eq_true rfl) td_M_turnOn_16 (st1 := []) rfl (fun f1 hF1 => ?_)
    obtain ⟨⟨paK, hMK, hHK⟩, hqK⟩ := hF1
    refine tz_aload_n C_ 0 rfl rfl td_M_turnOn_19 ?_
    refine tz_get C_ tci_M 0 (by decide) tw_753 hMK.1 rfl td_M_turnOn_20 ?_
    refine tz_sipush C_ (v := 512) (by decide) td_M_turnOn_23 ?_
    refine tz_iload_n C_ 1 rfl rfl td_M_turnOn_26 ?_
    refine tz_iadd C_ td_M_turnOn_27 ?_
    rw [show (512 + (nI k) : Int32) = nI (512 + k) from nI_add (512) (k)]
    refine tz_ialdN C_ hMK.2.1 (by omega) (by decide) td_M_turnOn_28 ?_
    refine tz_iconst C_ (v := 1) (by decide) td_M_turnOn_29 ?_
    refine tz_icmp_ne C_ td_M_turnOn_30 (fun h30 => ?_) (fun h30 => ?_)
    · skip
      have hw9 : (tz_lyr σ k).2.2.2 = 0 := (hWT.2.2.1 k hk).2.resolve_right (fun e => h30 ((hE.2.2.2.1 k hk).2.2.2.trans e))
      refine tz_iconst C_ (v := 0) (by decide) td_M_turnOn_37 ?_
      refine tz_istore_n C_ (lv' := [(0, .ref M), (1, .int (nI k)), (2, .int on), (3, .int 0)]) [1, 2, 3, 0] rfl (by decide) rfl td_M_turnOn_38 ?_
      refine tz_aload_n C_ 0 rfl rfl td_M_turnOn_39 ?_
      refine tz_get C_ tci_M 0 (by decide) tw_753 hMK.1 rfl td_M_turnOn_40 ?_
      refine tz_sipush C_ (v := 512) (by decide) td_M_turnOn_43 ?_
      refine tz_iload_n C_ 1 rfl rfl td_M_turnOn_46 ?_
      refine tz_iadd C_ td_M_turnOn_47 ?_
      rw [show (512 + (nI k) : Int32) = nI (512 + k) from nI_add (512) (k)]
      refine tz_iload_n C_ 2 rfl rfl td_M_turnOn_48 ?_
      refine tz_if_eq C_ td_M_turnOn_49 (fun h49 => ?_) (fun h49 => ?_)
      · skip
        subst h49
        refine tz_iconst C_ (v := 0) (by decide) td_M_turnOn_56 ?_
        refine tz_wiastN C_ hMK.2.1 (by omega) (by decide) (g' := upd nw ((512 + k)) 0) rfl td_M_turnOn_57 (fun f2 hs2 hq2 => ?_)
        refine tz_iload_n C_ 3 rfl rfl td_M_turnOn_58 ?_
        refine tz_iload_n C_ 2 rfl rfl td_M_turnOn_59 ?_
        refine tz_icmp_ne C_ td_M_turnOn_60 (fun h60 => ?_) (fun h60 => ?_)
        · skip
          exact absurd rfl h60
        · skip
          refine tz_iconst C_ (v := 0) (by decide) td_M_turnOn_63 ?_
          refine tz_goto C_ td_M_turnOn_64 ?_
          refine tz_riret C_ hr_ hk_ hQ_ rfl td_M_turnOn_68 ?_
          have k3 : f2 M = some (tz_obj 11 [.ref (M + 1), .ref (M + 2), .int (nI (min (σ.2.1 + 1) 20)), .int σ.2.2.2, .ref (M + 3), .ref (M + 4), .ref (M + 5), .int ms, .ref (M + 6), .int ns, .ref (M + 7), .ref (M + 8), .int tg]) := ((hq2 _ (by omega)).trans hMK.1)
          have k4 : f2 (M + 2) = some (tz_ints cs 10640 paK) := ((hq2 _ (by omega)).trans hMK.2.2.1)
          have k5 : f2 (M + 3) = some (tz_ints cs 4 bi) := ((hq2 _ (by omega)).trans hMK.2.2.2.1)
          have k6 : f2 (M + 4) = some (tz_ints cs 4 nu) := ((hq2 _ (by omega)).trans hMK.2.2.2.2.1)
          have k7 : f2 (M + 5) = some (tz_ints cs 480 sh) := ((hq2 _ (by omega)).trans hMK.2.2.2.2.2.1)
          have k8 : f2 (M + 6) = some (tz_ints cs 120 ro) := ((hq2 _ (by omega)).trans hMK.2.2.2.2.2.2.1)
          have k9 : f2 (M + 7) = some (tz_ints cs 120 ma) := ((hq2 _ (by omega)).trans hMK.2.2.2.2.2.2.2.1)
          have k10 : f2 (M + 8) = some (tz_ints cs 120 ca) := ((hq2 _ (by omega)).trans hMK.2.2.2.2.2.2.2.2)
          have e9 : sp_turnOn σ (nI k) 0 = (0, tz_act σ (tz_sl (tz_cur σ) (tz_cur σ).2.1 (va_up (tz_lyr σ) k ((tz_lyr σ k).1, (tz_lyr σ k).2.1, (tz_lyr σ k).2.2.1, 0)))) := by simp only [sp_turnOn, hlk5]; rw [if_pos hw9]
          rw [e9]
          exact ⟨rfl, tz_AM_act hW ⟨k3, hs2, k4, k5, k6, k7, k8, k9, k10⟩ (tz_en_on hE hWT hk) hHK hQ, (fun q hh => by rw [hq2 q (by omega), hqK q (by omega)])⟩
      · skip
        have e49 : on = 1 := hon.resolve_left h49
        subst e49
        refine tz_iconst C_ (v := 1) (by decide) td_M_turnOn_52 ?_
        refine tz_goto C_ td_M_turnOn_53 ?_
        refine tz_wiastN C_ hMK.2.1 (by omega) (by decide) (g' := upd nw ((512 + k)) 1) rfl td_M_turnOn_57 (fun f11 hs11 hq11 => ?_)
        refine tz_iload_n C_ 3 rfl rfl td_M_turnOn_58 ?_
        refine tz_iload_n C_ 2 rfl rfl td_M_turnOn_59 ?_
        refine tz_icmp_ne C_ td_M_turnOn_60 (fun h60 => ?_) (fun h60 => ?_)
        · skip
          refine tz_iconst C_ (v := 1) (by decide) td_M_turnOn_67 ?_
          refine tz_riret C_ hr_ hk_ hQ_ rfl td_M_turnOn_68 ?_
          have k12 : f11 M = some (tz_obj 11 [.ref (M + 1), .ref (M + 2), .int (nI (min (σ.2.1 + 1) 20)), .int σ.2.2.2, .ref (M + 3), .ref (M + 4), .ref (M + 5), .int ms, .ref (M + 6), .int ns, .ref (M + 7), .ref (M + 8), .int tg]) := ((hq11 _ (by omega)).trans hMK.1)
          have k13 : f11 (M + 2) = some (tz_ints cs 10640 paK) := ((hq11 _ (by omega)).trans hMK.2.2.1)
          have k14 : f11 (M + 3) = some (tz_ints cs 4 bi) := ((hq11 _ (by omega)).trans hMK.2.2.2.1)
          have k15 : f11 (M + 4) = some (tz_ints cs 4 nu) := ((hq11 _ (by omega)).trans hMK.2.2.2.2.1)
          have k16 : f11 (M + 5) = some (tz_ints cs 480 sh) := ((hq11 _ (by omega)).trans hMK.2.2.2.2.2.1)
          have k17 : f11 (M + 6) = some (tz_ints cs 120 ro) := ((hq11 _ (by omega)).trans hMK.2.2.2.2.2.2.1)
          have k18 : f11 (M + 7) = some (tz_ints cs 120 ma) := ((hq11 _ (by omega)).trans hMK.2.2.2.2.2.2.2.1)
          have k19 : f11 (M + 8) = some (tz_ints cs 120 ca) := ((hq11 _ (by omega)).trans hMK.2.2.2.2.2.2.2.2)
          have e9 : sp_turnOn σ (nI k) 1 = (1, tz_act σ (tz_sl (tz_cur σ) (tz_cur σ).2.1 (va_up (tz_lyr σ) k ((tz_lyr σ k).1, (tz_lyr σ k).2.1, (tz_lyr σ k).2.2.1, 1)))) := by simp only [sp_turnOn, hlk5]; rw [if_neg (by rw [hw9]; decide)]
          rw [e9]
          exact ⟨rfl, tz_AM_act hW ⟨k12, hs11, k13, k14, k15, k16, k17, k18, k19⟩ (tz_en_on hE hWT hk) hHK hQ, (fun q hh => by rw [hq11 q (by omega), hqK q (by omega)])⟩
        · skip
          exact absurd h60 (by decide)
    · skip
      have hw9 : (tz_lyr σ k).2.2.2 = 1 := (hE.2.2.2.1 k hk).2.2.2.symm.trans h30
      refine tz_iconst C_ (v := 1) (by decide) td_M_turnOn_33 ?_
      refine tz_goto C_ td_M_turnOn_34 ?_
      refine tz_istore_n C_ (lv' := [(0, .ref M), (1, .int (nI k)), (2, .int on), (3, .int 1)]) [1, 2, 3, 0] rfl (by decide) rfl td_M_turnOn_38 ?_
      refine tz_aload_n C_ 0 rfl rfl td_M_turnOn_39 ?_
      refine tz_get C_ tci_M 0 (by decide) tw_753 hMK.1 rfl td_M_turnOn_40 ?_
      refine tz_sipush C_ (v := 512) (by decide) td_M_turnOn_43 ?_
      refine tz_iload_n C_ 1 rfl rfl td_M_turnOn_46 ?_
      refine tz_iadd C_ td_M_turnOn_47 ?_
      rw [show (512 + (nI k) : Int32) = nI (512 + k) from nI_add (512) (k)]
      refine tz_iload_n C_ 2 rfl rfl td_M_turnOn_48 ?_
      refine tz_if_eq C_ td_M_turnOn_49 (fun h49 => ?_) (fun h49 => ?_)
      · skip
        subst h49
        refine tz_iconst C_ (v := 0) (by decide) td_M_turnOn_56 ?_
        refine tz_wiastN C_ hMK.2.1 (by omega) (by decide) (g' := upd nw ((512 + k)) 0) rfl td_M_turnOn_57 (fun f20 hs20 hq20 => ?_)
        refine tz_iload_n C_ 3 rfl rfl td_M_turnOn_58 ?_
        refine tz_iload_n C_ 2 rfl rfl td_M_turnOn_59 ?_
        refine tz_icmp_ne C_ td_M_turnOn_60 (fun h60 => ?_) (fun h60 => ?_)
        · skip
          refine tz_iconst C_ (v := 1) (by decide) td_M_turnOn_67 ?_
          refine tz_riret C_ hr_ hk_ hQ_ rfl td_M_turnOn_68 ?_
          have k21 : f20 M = some (tz_obj 11 [.ref (M + 1), .ref (M + 2), .int (nI (min (σ.2.1 + 1) 20)), .int σ.2.2.2, .ref (M + 3), .ref (M + 4), .ref (M + 5), .int ms, .ref (M + 6), .int ns, .ref (M + 7), .ref (M + 8), .int tg]) := ((hq20 _ (by omega)).trans hMK.1)
          have k22 : f20 (M + 2) = some (tz_ints cs 10640 paK) := ((hq20 _ (by omega)).trans hMK.2.2.1)
          have k23 : f20 (M + 3) = some (tz_ints cs 4 bi) := ((hq20 _ (by omega)).trans hMK.2.2.2.1)
          have k24 : f20 (M + 4) = some (tz_ints cs 4 nu) := ((hq20 _ (by omega)).trans hMK.2.2.2.2.1)
          have k25 : f20 (M + 5) = some (tz_ints cs 480 sh) := ((hq20 _ (by omega)).trans hMK.2.2.2.2.2.1)
          have k26 : f20 (M + 6) = some (tz_ints cs 120 ro) := ((hq20 _ (by omega)).trans hMK.2.2.2.2.2.2.1)
          have k27 : f20 (M + 7) = some (tz_ints cs 120 ma) := ((hq20 _ (by omega)).trans hMK.2.2.2.2.2.2.2.1)
          have k28 : f20 (M + 8) = some (tz_ints cs 120 ca) := ((hq20 _ (by omega)).trans hMK.2.2.2.2.2.2.2.2)
          have e9 : sp_turnOn σ (nI k) 0 = (1, tz_act σ (tz_sl (tz_cur σ) (tz_cur σ).2.1 (va_up (tz_lyr σ) k ((tz_lyr σ k).1, (tz_lyr σ k).2.1, (tz_lyr σ k).2.2.1, 0)))) := by simp only [sp_turnOn, hlk5]; rw [if_neg (by rw [hw9]; decide)]
          rw [e9]
          exact ⟨rfl, tz_AM_act hW ⟨k21, hs20, k22, k23, k24, k25, k26, k27, k28⟩ (tz_en_on hE hWT hk) hHK hQ, (fun q hh => by rw [hq20 q (by omega), hqK q (by omega)])⟩
        · skip
          exact absurd h60 (by decide)
      · skip
        have e49 : on = 1 := hon.resolve_left h49
        subst e49
        refine tz_iconst C_ (v := 1) (by decide) td_M_turnOn_52 ?_
        refine tz_goto C_ td_M_turnOn_53 ?_
        refine tz_wiastN C_ hMK.2.1 (by omega) (by decide) (g' := upd nw ((512 + k)) 1) rfl td_M_turnOn_57 (fun f29 hs29 hq29 => ?_)
        refine tz_iload_n C_ 3 rfl rfl td_M_turnOn_58 ?_
        refine tz_iload_n C_ 2 rfl rfl td_M_turnOn_59 ?_
        refine tz_icmp_ne C_ td_M_turnOn_60 (fun h60 => ?_) (fun h60 => ?_)
        · skip
          exact absurd rfl h60
        · skip
          refine tz_iconst C_ (v := 0) (by decide) td_M_turnOn_63 ?_
          refine tz_goto C_ td_M_turnOn_64 ?_
          refine tz_riret C_ hr_ hk_ hQ_ rfl td_M_turnOn_68 ?_
          have k30 : f29 M = some (tz_obj 11 [.ref (M + 1), .ref (M + 2), .int (nI (min (σ.2.1 + 1) 20)), .int σ.2.2.2, .ref (M + 3), .ref (M + 4), .ref (M + 5), .int ms, .ref (M + 6), .int ns, .ref (M + 7), .ref (M + 8), .int tg]) := ((hq29 _ (by omega)).trans hMK.1)
          have k31 : f29 (M + 2) = some (tz_ints cs 10640 paK) := ((hq29 _ (by omega)).trans hMK.2.2.1)
          have k32 : f29 (M + 3) = some (tz_ints cs 4 bi) := ((hq29 _ (by omega)).trans hMK.2.2.2.1)
          have k33 : f29 (M + 4) = some (tz_ints cs 4 nu) := ((hq29 _ (by omega)).trans hMK.2.2.2.2.1)
          have k34 : f29 (M + 5) = some (tz_ints cs 480 sh) := ((hq29 _ (by omega)).trans hMK.2.2.2.2.2.1)
          have k35 : f29 (M + 6) = some (tz_ints cs 120 ro) := ((hq29 _ (by omega)).trans hMK.2.2.2.2.2.2.1)
          have k36 : f29 (M + 7) = some (tz_ints cs 120 ma) := ((hq29 _ (by omega)).trans hMK.2.2.2.2.2.2.2.1)
          have k37 : f29 (M + 8) = some (tz_ints cs 120 ca) := ((hq29 _ (by omega)).trans hMK.2.2.2.2.2.2.2.2)
          have e9 : sp_turnOn σ (nI k) 1 = (0, tz_act σ (tz_sl (tz_cur σ) (tz_cur σ).2.1 (va_up (tz_lyr σ) k ((tz_lyr σ k).1, (tz_lyr σ k).2.1, (tz_lyr σ k).2.2.1, 1)))) := by simp only [sp_turnOn, hlk5]; rw [if_pos hw9]
          rw [e9]
          exact ⟨rfl, tz_AM_act hW ⟨k30, hs29, k31, k32, k33, k34, k35, k36, k37⟩ (tz_en_on hE hWT hk) hHK hQ, (fun q hh => by rw [hq29 q (by omega), hqK q (by omega)])⟩
  · skip
    replace h5 := tz_p0.mp h5
    have hlk5 := tz_lk_n h5
    refine tz_aload_n C_ 0 rfl rfl td_M_turnOn_8 ?_
    refine tz_ldc C_ tw_812 td_M_turnOn_9 ?_
    refine tz_cV C_ tmi_M_finding tw_800 tw_14 tw_798 hM.1 rfl (As := [.int (-100001)]) (by exact (ct_M_finding (v := -100001) hM.1)) rfl (rest := []) rfl (by decide) (Nat.le_of_ble_eq_true rfl) td_M_turnOn_11 (st1 := [.int (-100001)]) rfl (fun f38 hF38 => ?_)
    obtain ⟨hs39, hq39⟩ := hF38
    refine tz_riret C_ hr_ hk_ hQ_ rfl td_M_turnOn_14 ?_
    have k40 : f38 (M + 1) = some (tz_ints cs 532 nw) := ((hq39 _ (by omega)).trans hM.2.1)
    have k41 : f38 (M + 2) = some (tz_ints cs 10640 pa) := ((hq39 _ (by omega)).trans hM.2.2.1)
    have k42 : f38 (M + 3) = some (tz_ints cs 4 bi) := ((hq39 _ (by omega)).trans hM.2.2.2.1)
    have k43 : f38 (M + 4) = some (tz_ints cs 4 nu) := ((hq39 _ (by omega)).trans hM.2.2.2.2.1)
    have k44 : f38 (M + 5) = some (tz_ints cs 480 sh) := ((hq39 _ (by omega)).trans hM.2.2.2.2.2.1)
    have k45 : f38 (M + 6) = some (tz_ints cs 120 ro) := ((hq39 _ (by omega)).trans hM.2.2.2.2.2.2.1)
    have k46 : f38 (M + 7) = some (tz_ints cs 120 ma) := ((hq39 _ (by omega)).trans hM.2.2.2.2.2.2.2.1)
    have k47 : f38 (M + 8) = some (tz_ints cs 120 ca) := ((hq39 _ (by omega)).trans hM.2.2.2.2.2.2.2.2)
    have e9 : sp_turnOn σ i on = (-100001, tz_fnd σ) := by simp only [sp_turnOn, hlk5]; rw [tz_an_f (by decide)]
    rw [e9]
    exact ⟨rfl, ⟨_, _, _, _, _, _, _, _, _, _, _, ⟨hs39, k40, k41, k42, k43, k44, k45, k46, k47⟩, hE, hH, hQ⟩, (fun q hh => by rw [hq39 q (by omega)])⟩

abbrev rm_M_told : Room := { frames := 2, cells := 0, slots := 0, locals := 43 }
set_option maxHeartbeats 4000000 in
set_option maxRecDepth 100000 in
theorem ct_M_told {l : Launch} {A : Nat → Prop} {D : va_G} {cs : Nat → ClassId} {sz : Nat} {f : tz_PH} {M : Nat} {σ : tz_SG} (hX : tz_AM cs f M σ) (hW : tz_WF σ) {i w : Int32} : tz_CN l tyM_told prog_13_method_37_code 3 (some (.int)) rm_M_told 0 0 A D cs sz [.ref M, .int i, .int w] f (some (.int (sp_told σ i w).1)) (fun f' => tz_AM cs f' M (sp_told σ i w).2 ∧ ∀ q, (q < M ∨ M + 9 ≤ q) → f' q = f q) := by
  refine tz_C.ofB (lv0 := [(0, .ref M), (1, .int i), (2, .int w)]) (plainFor_of_name (by decide)) (Nat.le_of_ble_eq_true rfl) rfl ?_
  intro p_ e_ s_ m_ ar_ be_ me_ c_ Q_ C_ hr_ hk_ hnm_ hz_ hQ_
  obtain ⟨ms, ns, tg, nw, pa, bi, nu, sh, ro, ma, ca, hM, hE, hH, hQ⟩ := hX
  have hWT := hW.cur
  have hkp : σ.2.1 ≤ 20 := hW.1
  have hl8 := hWT.2.1
  refine tz_aload_n C_ 0 rfl rfl td_M_told_0 ?_
  refine tz_iload_n C_ 1 rfl rfl td_M_told_1 ?_
  refine tz_rV C_ tmi_M_isLayer tw_922 tw_26 tw_920 hM.1 rfl (As := [.int i]) (by exact (ct_M_isLayer ⟨hM.1, hM.2.1, hM.2.2.1, hM.2.2.2.1, hM.2.2.2.2.1, hM.2.2.2.2.2.1, hM.2.2.2.2.2.2.1, hM.2.2.2.2.2.2.2.1, hM.2.2.2.2.2.2.2.2⟩ hE hWT)) rfl (rest := []) rfl (by decide) (Nat.le_of_ble_eq_true rfl) td_M_told_2 (st1 := [.int (tz_p (0 ≤ i ∧ i < nI (tz_cur σ).2.1))]) rfl ?_
  refine tz_if_eq C_ td_M_told_5 (fun h5 => ?_) (fun h5 => ?_)
  · skip
    replace h5 := tz_p0.mp h5
    have hlk5 := tz_lk_n h5
    refine tz_aload_n C_ 0 rfl rfl td_M_told_17 ?_
    refine tz_ldc C_ tw_812 td_M_told_18 ?_
    refine tz_cV C_ tmi_M_finding tw_800 tw_14 tw_798 hM.1 rfl (As := [.int (-100001)]) (by exact (ct_M_finding (v := -100001) hM.1)) rfl (rest := []) rfl (by decide) (Nat.le_of_ble_eq_true rfl) td_M_told_20 (st1 := [.int (-100001)]) rfl (fun f1 hF1 => ?_)
    obtain ⟨hs2, hq2⟩ := hF1
    refine tz_riret C_ hr_ hk_ hQ_ rfl td_M_told_23 ?_
    have k3 : f1 (M + 1) = some (tz_ints cs 532 nw) := ((hq2 _ (by omega)).trans hM.2.1)
    have k4 : f1 (M + 2) = some (tz_ints cs 10640 pa) := ((hq2 _ (by omega)).trans hM.2.2.1)
    have k5 : f1 (M + 3) = some (tz_ints cs 4 bi) := ((hq2 _ (by omega)).trans hM.2.2.2.1)
    have k6 : f1 (M + 4) = some (tz_ints cs 4 nu) := ((hq2 _ (by omega)).trans hM.2.2.2.2.1)
    have k7 : f1 (M + 5) = some (tz_ints cs 480 sh) := ((hq2 _ (by omega)).trans hM.2.2.2.2.2.1)
    have k8 : f1 (M + 6) = some (tz_ints cs 120 ro) := ((hq2 _ (by omega)).trans hM.2.2.2.2.2.2.1)
    have k9 : f1 (M + 7) = some (tz_ints cs 120 ma) := ((hq2 _ (by omega)).trans hM.2.2.2.2.2.2.2.1)
    have k10 : f1 (M + 8) = some (tz_ints cs 120 ca) := ((hq2 _ (by omega)).trans hM.2.2.2.2.2.2.2.2)
    have e9 : sp_told σ i w = (-100001, tz_fnd σ) := by simp only [sp_told, hlk5]; rw [tz_an_f (by decide)]
    rw [e9]
    exact ⟨rfl, ⟨_, _, _, _, _, _, _, _, _, _, _, ⟨hs2, k3, k4, k5, k6, k7, k8, k9, k10⟩, hE, hH, hQ⟩, (fun q hh => by rw [hq2 q (by omega)])⟩
  · skip
    replace h5 := tz_p1.mp h5
    obtain ⟨k, hk, ek, hlk5⟩ := tz_lk_y h5 hl8
    subst ek
    refine tz_iload_n C_ 2 rfl rfl td_M_told_8 ?_
    refine tz_iconst C_ (v := 0) (by decide) td_M_told_9 ?_
    refine tz_iconst C_ (v := 3) (by decide) td_M_told_10 ?_
    refine tz_rS C_ tmi_M_in tw_810 tw_809 (As := [.int w, .int 0, .int 3]) (by exact ct_M_in) rfl (rest := []) rfl (by decide) (Nat.le_of_ble_eq_true rfl) td_M_told_11 (st1 := [.int (tz_p (0 ≤ w ∧ w ≤ 3))]) rfl ?_
    refine tz_if_ne C_ td_M_told_14 (fun h14 => ?_) (fun h14 => ?_)
    · skip
      replace h14 := tz_p1.mp h14
      obtain ⟨w9, hw9, ew9⟩ := tz_toN (m := 3) (tz_le_nlt h14.1) h14.2 (by decide)
      subst ew9
      refine tz_aload_n C_ 0 rfl rfl td_M_told_24 ?_
      refine tz_get C_ tci_M 0 (by decide) tw_753 hM.1 rfl td_M_told_25 ?_
      refine tz_sipush C_ (v := 488) (by decide) td_M_told_28 ?_
      refine tz_bipush C_ (v := 8) (by decide) td_M_told_31 ?_
      refine tz_iload_n C_ 2 rfl rfl td_M_told_33 ?_
      refine tz_imul C_ td_M_told_34 ?_
      rw [show (8 * (nI w9) : Int32) = nI (8 * w9) from pk_mul (8) (w9)]
      refine tz_iadd C_ td_M_told_35 ?_
      rw [show (488 + (nI (8 * w9)) : Int32) = nI (488 + (8 * w9)) from nI_add (488) (8 * w9)]
      refine tz_iload_n C_ 1 rfl rfl td_M_told_36 ?_
      refine tz_iadd C_ td_M_told_37 ?_
      rw [show ((nI (488 + (8 * w9))) + (nI k) : Int32) = nI (488 + (8 * w9) + k) from nI_add (488 + (8 * w9)) (k)]
      refine tz_ialdN C_ hM.2.1 (by omega) (by decide) td_M_told_38 ?_
      refine tz_riret C_ hr_ hk_ hQ_ rfl td_M_told_39 ?_
      have e9 : sp_told σ (nI k) (nI w9) = (nw ((488 + (8 * w9) + k)), σ) := by 
        obtain ⟨a1, a2, a3, a4⟩ := hE.2.2.2.1 k hk
        simp only [sp_told, hlk5]
        rcases (show w9 = 0 ∨ w9 = 1 ∨ w9 = 2 ∨ w9 = 3 by omega) with e | e | e | e <;> subst e
        · rw [if_pos (show nI 0 = 0 from rfl)]; exact congrArg (fun x => (x, σ)) a1.symm
        · rw [if_neg (by decide), if_pos (show nI 1 = 1 from rfl)]; exact congrArg (fun x => (x, σ)) a2.symm
        · rw [if_neg (by decide), if_neg (by decide), if_pos (show nI 2 = 2 from rfl)]; exact congrArg (fun x => (x, σ)) a3.symm
        · rw [if_neg (by decide), if_neg (by decide), if_neg (by decide), if_pos (show nI 3 = 3 from rfl)]; exact congrArg (fun x => (x, σ)) a4.symm
      rw [e9]
      exact ⟨rfl, ⟨_, _, _, _, _, _, _, _, _, _, _, ⟨hM.1, hM.2.1, hM.2.2.1, hM.2.2.2.1, hM.2.2.2.2.1, hM.2.2.2.2.2.1, hM.2.2.2.2.2.2.1, hM.2.2.2.2.2.2.2.1, hM.2.2.2.2.2.2.2.2⟩, hE, hH, hQ⟩, (fun q hh => rfl)⟩
    · skip
      replace h14 := tz_p0.mp h14
      refine tz_aload_n C_ 0 rfl rfl td_M_told_17 ?_
      refine tz_ldc C_ tw_812 td_M_told_18 ?_
      refine tz_cV C_ tmi_M_finding tw_800 tw_14 tw_798 hM.1 rfl (As := [.int (-100001)]) (by exact (ct_M_finding (v := -100001) hM.1)) rfl (rest := []) rfl (by decide) (Nat.le_of_ble_eq_true rfl) td_M_told_20 (st1 := [.int (-100001)]) rfl (fun f11 hF11 => ?_)
      obtain ⟨hs12, hq12⟩ := hF11
      refine tz_riret C_ hr_ hk_ hQ_ rfl td_M_told_23 ?_
      have k13 : f11 (M + 1) = some (tz_ints cs 532 nw) := ((hq12 _ (by omega)).trans hM.2.1)
      have k14 : f11 (M + 2) = some (tz_ints cs 10640 pa) := ((hq12 _ (by omega)).trans hM.2.2.1)
      have k15 : f11 (M + 3) = some (tz_ints cs 4 bi) := ((hq12 _ (by omega)).trans hM.2.2.2.1)
      have k16 : f11 (M + 4) = some (tz_ints cs 4 nu) := ((hq12 _ (by omega)).trans hM.2.2.2.2.1)
      have k17 : f11 (M + 5) = some (tz_ints cs 480 sh) := ((hq12 _ (by omega)).trans hM.2.2.2.2.2.1)
      have k18 : f11 (M + 6) = some (tz_ints cs 120 ro) := ((hq12 _ (by omega)).trans hM.2.2.2.2.2.2.1)
      have k19 : f11 (M + 7) = some (tz_ints cs 120 ma) := ((hq12 _ (by omega)).trans hM.2.2.2.2.2.2.2.1)
      have k20 : f11 (M + 8) = some (tz_ints cs 120 ca) := ((hq12 _ (by omega)).trans hM.2.2.2.2.2.2.2.2)
      have e9 : sp_told σ (nI k) w = (-100001, tz_fnd σ) := by simp only [sp_told, hlk5]; rw [if_neg (fun e => h14 (by rw [e]; decide)), if_neg (fun e => h14 (by rw [e]; decide)), if_neg (fun e => h14 (by rw [e]; decide)), if_neg (fun e => h14 (by rw [e]; decide)), tz_an_f (by decide)]
      rw [e9]
      exact ⟨rfl, ⟨_, _, _, _, _, _, _, _, _, _, _, ⟨hs12, k13, k14, k15, k16, k17, k18, k19, k20⟩, hE, hH, hQ⟩, (fun q hh => by rw [hq12 q (by omega)])⟩

abbrev rm_M_as : Room := { frames := 2, cells := 0, slots := 0, locals := 43 }
set_option maxHeartbeats 4000000 in
set_option maxRecDepth 100000 in
theorem ct_M_as {l : Launch} {A : Nat → Prop} {D : va_G} {cs : Nat → ClassId} {sz : Nat} {f : tz_PH} {M : Nat} {σ : tz_SG} (hX : tz_AM cs f M σ) (hW : tz_WF σ) {i w : Int32} : tz_CN l tyM_as prog_13_method_38_code 5 (some (.int)) rm_M_as 0 0 A D cs sz [.ref M, .int i, .int w] f (some (.int (sp_as σ i w).1)) (fun f' => tz_AM cs f' M (sp_as σ i w).2 ∧ ∀ q, (q < M ∨ M + 9 ≤ q) → f' q = f q) := by
  refine tz_C.ofB (lv0 := [(0, .ref M), (1, .int i), (2, .int w)]) (plainFor_of_name (by decide)) (Nat.le_of_ble_eq_true rfl) rfl ?_
  intro p_ e_ s_ m_ ar_ be_ me_ c_ Q_ C_ hr_ hk_ hnm_ hz_ hQ_
  obtain ⟨ms, ns, tg, nw, pa, bi, nu, sh, ro, ma, ca, hM, hE, hH, hQ⟩ := hX
  have hWT := hW.cur
  have hkp : σ.2.1 ≤ 20 := hW.1
  have hl8 := hWT.2.1
  refine tz_aload_n C_ 0 rfl rfl td_M_as_0 ?_
  refine tz_iload_n C_ 1 rfl rfl td_M_as_1 ?_
  refine tz_rV C_ tmi_M_isLayer tw_922 tw_26 tw_920 hM.1 rfl (As := [.int i]) (by exact (ct_M_isLayer ⟨hM.1, hM.2.1, hM.2.2.1, hM.2.2.2.1, hM.2.2.2.2.1, hM.2.2.2.2.2.1, hM.2.2.2.2.2.2.1, hM.2.2.2.2.2.2.2.1, hM.2.2.2.2.2.2.2.2⟩ hE hWT)) rfl (rest := []) rfl (by decide) (Nat.le_of_ble_eq_true rfl) td_M_as_2 (st1 := [.int (tz_p (0 ≤ i ∧ i < nI (tz_cur σ).2.1))]) rfl ?_
  refine tz_if_eq C_ td_M_as_5 (fun h5 => ?_) (fun h5 => ?_)
  · skip
    replace h5 := tz_p0.mp h5
    have hlk5 := tz_lk_n h5
    refine tz_aload_n C_ 0 rfl rfl td_M_as_18 ?_
    refine tz_ldc C_ tw_812 td_M_as_19 ?_
    refine tz_cV C_ tmi_M_finding tw_800 tw_14 tw_798 hM.1 rfl (As := [.int (-100001)]) (by exact (ct_M_finding (v := -100001) hM.1)) rfl (rest := []) rfl (by decide) (Nat.le_of_ble_eq_true rfl) td_M_as_21 (st1 := [.int (-100001)]) rfl (fun f1 hF1 => ?_)
    obtain ⟨hs2, hq2⟩ := hF1
    refine tz_riret C_ hr_ hk_ hQ_ rfl td_M_as_24 ?_
    have k3 : f1 (M + 1) = some (tz_ints cs 532 nw) := ((hq2 _ (by omega)).trans hM.2.1)
    have k4 : f1 (M + 2) = some (tz_ints cs 10640 pa) := ((hq2 _ (by omega)).trans hM.2.2.1)
    have k5 : f1 (M + 3) = some (tz_ints cs 4 bi) := ((hq2 _ (by omega)).trans hM.2.2.2.1)
    have k6 : f1 (M + 4) = some (tz_ints cs 4 nu) := ((hq2 _ (by omega)).trans hM.2.2.2.2.1)
    have k7 : f1 (M + 5) = some (tz_ints cs 480 sh) := ((hq2 _ (by omega)).trans hM.2.2.2.2.2.1)
    have k8 : f1 (M + 6) = some (tz_ints cs 120 ro) := ((hq2 _ (by omega)).trans hM.2.2.2.2.2.2.1)
    have k9 : f1 (M + 7) = some (tz_ints cs 120 ma) := ((hq2 _ (by omega)).trans hM.2.2.2.2.2.2.2.1)
    have k10 : f1 (M + 8) = some (tz_ints cs 120 ca) := ((hq2 _ (by omega)).trans hM.2.2.2.2.2.2.2.2)
    have e9 : sp_as σ i w = (-100001, tz_fnd σ) := by simp only [sp_as, hlk5]; rw [tz_an_f (by decide)]
    rw [e9]
    exact ⟨rfl, ⟨_, _, _, _, _, _, _, _, _, _, _, ⟨hs2, k3, k4, k5, k6, k7, k8, k9, k10⟩, hE, hH, hQ⟩, (fun q hh => by rw [hq2 q (by omega)])⟩
  · skip
    replace h5 := tz_p1.mp h5
    obtain ⟨k, hk, ek, hlk5⟩ := tz_lk_y h5 hl8
    subst ek
    refine tz_iload_n C_ 2 rfl rfl td_M_as_8 ?_
    refine tz_iconst C_ (v := -1) (by decide) td_M_as_9 ?_
    refine tz_bipush C_ (v := 6) (by decide) td_M_as_10 ?_
    refine tz_rS C_ tmi_M_in tw_810 tw_809 (As := [.int w, .int (-1), .int 6]) (by exact ct_M_in) rfl (rest := []) rfl (by decide) (Nat.le_of_ble_eq_true rfl) td_M_as_12 (st1 := [.int (tz_p ((-1) ≤ w ∧ w ≤ 6))]) rfl ?_
    refine tz_if_ne C_ td_M_as_15 (fun h15 => ?_) (fun h15 => ?_)
    · skip
      replace h15 := tz_p1.mp h15
      refine tz_aload_n C_ 0 rfl rfl td_M_as_25 ?_
      refine tz_get C_ tci_M 0 (by decide) tw_753 hM.1 rfl td_M_as_26 ?_
      refine tz_sipush C_ (v := 488) (by decide) td_M_as_29 ?_
      refine tz_iload_n C_ 1 rfl rfl td_M_as_32 ?_
      refine tz_iadd C_ td_M_as_33 ?_
      rw [show (488 + (nI k) : Int32) = nI (488 + k) from nI_add (488) (k)]
      refine tz_ialdN C_ hM.2.1 (by omega) (by decide) td_M_as_34 ?_
      rw [(hE.2.2.2.1 k hk).1]
      refine tz_istore_n C_ (lv' := [(0, .ref M), (1, .int (nI k)), (2, .int w), (3, .int ((tz_lyr σ k).1))]) [1, 2, 3, 0] rfl (by decide) rfl td_M_as_35 ?_
      refine tz_iload_n C_ 2 rfl rfl td_M_as_36 ?_
      refine tz_iconst C_ (v := -1) (by decide) td_M_as_37 ?_
      refine tz_icmp_eq C_ td_M_as_38 (fun h38 => ?_) (fun h38 => ?_)
      · skip
        refine tz_iconst C_ (v := 1) (by decide) td_M_as_71 ?_
        refine tz_goto C_ td_M_as_72 ?_
        refine tz_istore C_ (lv' := [(0, .ref M), (1, .int (nI k)), (2, .int w), (3, .int ((tz_lyr σ k).1)), (4, .int 1)]) [1, 2, 3, 4, 0] (by decide) rfl td_M_as_76 ?_
        refine tz_iload C_ 4 rfl td_M_as_78 ?_
        refine tz_if_eq C_ td_M_as_80 (fun h80 => ?_) (fun h80 => ?_)
        · skip
          exact absurd h80 (by decide)
        · skip
          refine tz_iload_n C_ 1 rfl rfl td_M_as_83 ?_
          refine tz_goto C_ td_M_as_84 ?_
          refine tz_riret C_ hr_ hk_ hQ_ rfl td_M_as_93 ?_
          have e9 : sp_as σ (nI k) w = (nI k, σ) := by simp only [sp_as, hlk5]; rw [if_pos h15, if_pos ((tz_isaN (tz_can06 (hWT.2.2.1 k hk).1)).mpr (by grind))]
          rw [e9]
          exact ⟨rfl, ⟨_, _, _, _, _, _, _, _, _, _, _, ⟨hM.1, hM.2.1, hM.2.2.1, hM.2.2.2.1, hM.2.2.2.2.1, hM.2.2.2.2.2.1, hM.2.2.2.2.2.2.1, hM.2.2.2.2.2.2.2.1, hM.2.2.2.2.2.2.2.2⟩, hE, hH, hQ⟩, (fun q hh => rfl)⟩
      · skip
        refine tz_iload_n C_ 3 rfl rfl td_M_as_41 ?_
        refine tz_iload_n C_ 2 rfl rfl td_M_as_42 ?_
        refine tz_icmp_eq C_ td_M_as_43 (fun h43 => ?_) (fun h43 => ?_)
        · skip
          refine tz_iconst C_ (v := 1) (by decide) td_M_as_71 ?_
          refine tz_goto C_ td_M_as_72 ?_
          refine tz_istore C_ (lv' := [(0, .ref M), (1, .int (nI k)), (2, .int w), (3, .int ((tz_lyr σ k).1)), (4, .int 1)]) [1, 2, 3, 4, 0] (by decide) rfl td_M_as_76 ?_
          refine tz_iload C_ 4 rfl td_M_as_78 ?_
          refine tz_if_eq C_ td_M_as_80 (fun h80 => ?_) (fun h80 => ?_)
          · skip
            exact absurd h80 (by decide)
          · skip
            refine tz_iload_n C_ 1 rfl rfl td_M_as_83 ?_
            refine tz_goto C_ td_M_as_84 ?_
            refine tz_riret C_ hr_ hk_ hQ_ rfl td_M_as_93 ?_
            have e9 : sp_as σ (nI k) w = (nI k, σ) := by simp only [sp_as, hlk5]; rw [if_pos h15, if_pos ((tz_isaN (tz_can06 (hWT.2.2.1 k hk).1)).mpr (by grind))]
            rw [e9]
            exact ⟨rfl, ⟨_, _, _, _, _, _, _, _, _, _, _, ⟨hM.1, hM.2.1, hM.2.2.1, hM.2.2.2.1, hM.2.2.2.2.1, hM.2.2.2.2.2.1, hM.2.2.2.2.2.2.1, hM.2.2.2.2.2.2.2.1, hM.2.2.2.2.2.2.2.2⟩, hE, hH, hQ⟩, (fun q hh => rfl)⟩
        · skip
          refine tz_iload_n C_ 2 rfl rfl td_M_as_46 ?_
          refine tz_iconst C_ (v := 1) (by decide) td_M_as_47 ?_
          refine tz_icmp_ne C_ td_M_as_48 (fun h48 => ?_) (fun h48 => ?_)
          · skip
            refine tz_iload_n C_ 2 rfl rfl td_M_as_61 ?_
            refine tz_iconst C_ (v := 4) (by decide) td_M_as_62 ?_
            refine tz_icmp_ne C_ td_M_as_63 (fun h63 => ?_) (fun h63 => ?_)
            · skip
              refine tz_iconst C_ (v := 0) (by decide) td_M_as_75 ?_
              refine tz_istore C_ (lv' := [(0, .ref M), (1, .int (nI k)), (2, .int w), (3, .int ((tz_lyr σ k).1)), (4, .int 0)]) [1, 2, 3, 4, 0] (by decide) rfl td_M_as_76 ?_
              refine tz_iload C_ 4 rfl td_M_as_78 ?_
              refine tz_if_eq C_ td_M_as_80 (fun h80 => ?_) (fun h80 => ?_)
              · skip
                refine tz_aload_n C_ 0 rfl rfl td_M_as_87 ?_
                refine tz_ldc C_ tw_891 td_M_as_88 ?_
                refine tz_cV C_ tmi_M_finding tw_800 tw_14 tw_798 hM.1 rfl (As := [.int (-100004)]) (by exact (ct_M_finding (v := -100004) hM.1)) rfl (rest := []) rfl (by decide) (Nat.le_of_ble_eq_true rfl) td_M_as_90 (st1 := [.int (-100004)]) rfl (fun f11 hF11 => ?_)
                obtain ⟨hs12, hq12⟩ := hF11
                refine tz_riret C_ hr_ hk_ hQ_ rfl td_M_as_93 ?_
                have k13 : f11 (M + 1) = some (tz_ints cs 532 nw) := ((hq12 _ (by omega)).trans hM.2.1)
                have k14 : f11 (M + 2) = some (tz_ints cs 10640 pa) := ((hq12 _ (by omega)).trans hM.2.2.1)
                have k15 : f11 (M + 3) = some (tz_ints cs 4 bi) := ((hq12 _ (by omega)).trans hM.2.2.2.1)
                have k16 : f11 (M + 4) = some (tz_ints cs 4 nu) := ((hq12 _ (by omega)).trans hM.2.2.2.2.1)
                have k17 : f11 (M + 5) = some (tz_ints cs 480 sh) := ((hq12 _ (by omega)).trans hM.2.2.2.2.2.1)
                have k18 : f11 (M + 6) = some (tz_ints cs 120 ro) := ((hq12 _ (by omega)).trans hM.2.2.2.2.2.2.1)
                have k19 : f11 (M + 7) = some (tz_ints cs 120 ma) := ((hq12 _ (by omega)).trans hM.2.2.2.2.2.2.2.1)
                have k20 : f11 (M + 8) = some (tz_ints cs 120 ca) := ((hq12 _ (by omega)).trans hM.2.2.2.2.2.2.2.2)
                have e9 : sp_as σ (nI k) w = (-100004, tz_fnd σ) := by simp only [sp_as, hlk5]; rw [if_pos h15, if_neg (fun z => absurd ((tz_isaN (tz_can06 (hWT.2.2.1 k hk).1)).mp z) (by grind)), tz_an_f (by decide)]
                rw [e9]
                exact ⟨rfl, ⟨_, _, _, _, _, _, _, _, _, _, _, ⟨hs12, k13, k14, k15, k16, k17, k18, k19, k20⟩, hE, hH, hQ⟩, (fun q hh => by rw [hq12 q (by omega)])⟩
              · skip
                exact absurd rfl h80
            · skip
              refine tz_iload_n C_ 3 rfl rfl td_M_as_66 ?_
              refine tz_iconst C_ (v := 5) (by decide) td_M_as_67 ?_
              refine tz_icmp_ne C_ td_M_as_68 (fun h68 => ?_) (fun h68 => ?_)
              · skip
                refine tz_iconst C_ (v := 0) (by decide) td_M_as_75 ?_
                refine tz_istore C_ (lv' := [(0, .ref M), (1, .int (nI k)), (2, .int w), (3, .int ((tz_lyr σ k).1)), (4, .int 0)]) [1, 2, 3, 4, 0] (by decide) rfl td_M_as_76 ?_
                refine tz_iload C_ 4 rfl td_M_as_78 ?_
                refine tz_if_eq C_ td_M_as_80 (fun h80 => ?_) (fun h80 => ?_)
                · skip
                  refine tz_aload_n C_ 0 rfl rfl td_M_as_87 ?_
                  refine tz_ldc C_ tw_891 td_M_as_88 ?_
                  refine tz_cV C_ tmi_M_finding tw_800 tw_14 tw_798 hM.1 rfl (As := [.int (-100004)]) (by exact (ct_M_finding (v := -100004) hM.1)) rfl (rest := []) rfl (by decide) (Nat.le_of_ble_eq_true rfl) td_M_as_90 (st1 := [.int (-100004)]) rfl (fun f21 hF21 => ?_)
                  obtain ⟨hs22, hq22⟩ := hF21
                  refine tz_riret C_ hr_ hk_ hQ_ rfl td_M_as_93 ?_
                  have k23 : f21 (M + 1) = some (tz_ints cs 532 nw) := ((hq22 _ (by omega)).trans hM.2.1)
                  have k24 : f21 (M + 2) = some (tz_ints cs 10640 pa) := ((hq22 _ (by omega)).trans hM.2.2.1)
                  have k25 : f21 (M + 3) = some (tz_ints cs 4 bi) := ((hq22 _ (by omega)).trans hM.2.2.2.1)
                  have k26 : f21 (M + 4) = some (tz_ints cs 4 nu) := ((hq22 _ (by omega)).trans hM.2.2.2.2.1)
                  have k27 : f21 (M + 5) = some (tz_ints cs 480 sh) := ((hq22 _ (by omega)).trans hM.2.2.2.2.2.1)
                  have k28 : f21 (M + 6) = some (tz_ints cs 120 ro) := ((hq22 _ (by omega)).trans hM.2.2.2.2.2.2.1)
                  have k29 : f21 (M + 7) = some (tz_ints cs 120 ma) := ((hq22 _ (by omega)).trans hM.2.2.2.2.2.2.2.1)
                  have k30 : f21 (M + 8) = some (tz_ints cs 120 ca) := ((hq22 _ (by omega)).trans hM.2.2.2.2.2.2.2.2)
                  have e9 : sp_as σ (nI k) w = (-100004, tz_fnd σ) := by simp only [sp_as, hlk5]; rw [if_pos h15, if_neg (fun z => absurd ((tz_isaN (tz_can06 (hWT.2.2.1 k hk).1)).mp z) (by grind)), tz_an_f (by decide)]
                  rw [e9]
                  exact ⟨rfl, ⟨_, _, _, _, _, _, _, _, _, _, _, ⟨hs22, k23, k24, k25, k26, k27, k28, k29, k30⟩, hE, hH, hQ⟩, (fun q hh => by rw [hq22 q (by omega)])⟩
                · skip
                  exact absurd rfl h80
              · skip
                refine tz_iconst C_ (v := 1) (by decide) td_M_as_71 ?_
                refine tz_goto C_ td_M_as_72 ?_
                refine tz_istore C_ (lv' := [(0, .ref M), (1, .int (nI k)), (2, .int w), (3, .int ((tz_lyr σ k).1)), (4, .int 1)]) [1, 2, 3, 4, 0] (by decide) rfl td_M_as_76 ?_
                refine tz_iload C_ 4 rfl td_M_as_78 ?_
                refine tz_if_eq C_ td_M_as_80 (fun h80 => ?_) (fun h80 => ?_)
                · skip
                  exact absurd h80 (by decide)
                · skip
                  refine tz_iload_n C_ 1 rfl rfl td_M_as_83 ?_
                  refine tz_goto C_ td_M_as_84 ?_
                  refine tz_riret C_ hr_ hk_ hQ_ rfl td_M_as_93 ?_
                  have e9 : sp_as σ (nI k) w = (nI k, σ) := by simp only [sp_as, hlk5]; rw [if_pos h15, if_pos ((tz_isaN (tz_can06 (hWT.2.2.1 k hk).1)).mpr (by grind))]
                  rw [e9]
                  exact ⟨rfl, ⟨_, _, _, _, _, _, _, _, _, _, _, ⟨hM.1, hM.2.1, hM.2.2.1, hM.2.2.2.1, hM.2.2.2.2.1, hM.2.2.2.2.2.1, hM.2.2.2.2.2.2.1, hM.2.2.2.2.2.2.2.1, hM.2.2.2.2.2.2.2.2⟩, hE, hH, hQ⟩, (fun q hh => rfl)⟩
          · skip
            refine tz_iload_n C_ 3 rfl rfl td_M_as_51 ?_
            refine tz_iconst C_ (v := 2) (by decide) td_M_as_52 ?_
            refine tz_icmp_eq C_ td_M_as_53 (fun h53 => ?_) (fun h53 => ?_)
            · skip
              refine tz_iconst C_ (v := 1) (by decide) td_M_as_71 ?_
              refine tz_goto C_ td_M_as_72 ?_
              refine tz_istore C_ (lv' := [(0, .ref M), (1, .int (nI k)), (2, .int w), (3, .int ((tz_lyr σ k).1)), (4, .int 1)]) [1, 2, 3, 4, 0] (by decide) rfl td_M_as_76 ?_
              refine tz_iload C_ 4 rfl td_M_as_78 ?_
              refine tz_if_eq C_ td_M_as_80 (fun h80 => ?_) (fun h80 => ?_)
              · skip
                exact absurd h80 (by decide)
              · skip
                refine tz_iload_n C_ 1 rfl rfl td_M_as_83 ?_
                refine tz_goto C_ td_M_as_84 ?_
                refine tz_riret C_ hr_ hk_ hQ_ rfl td_M_as_93 ?_
                have e9 : sp_as σ (nI k) w = (nI k, σ) := by simp only [sp_as, hlk5]; rw [if_pos h15, if_pos ((tz_isaN (tz_can06 (hWT.2.2.1 k hk).1)).mpr (by grind))]
                rw [e9]
                exact ⟨rfl, ⟨_, _, _, _, _, _, _, _, _, _, _, ⟨hM.1, hM.2.1, hM.2.2.1, hM.2.2.2.1, hM.2.2.2.2.1, hM.2.2.2.2.2.1, hM.2.2.2.2.2.2.1, hM.2.2.2.2.2.2.2.1, hM.2.2.2.2.2.2.2.2⟩, hE, hH, hQ⟩, (fun q hh => rfl)⟩
            · skip
              refine tz_iload_n C_ 3 rfl rfl td_M_as_56 ?_
              refine tz_iconst C_ (v := 3) (by decide) td_M_as_57 ?_
              refine tz_icmp_eq C_ td_M_as_58 (fun h58 => ?_) (fun h58 => ?_)
              · skip
                refine tz_iconst C_ (v := 1) (by decide) td_M_as_71 ?_
                refine tz_goto C_ td_M_as_72 ?_
                refine tz_istore C_ (lv' := [(0, .ref M), (1, .int (nI k)), (2, .int w), (3, .int ((tz_lyr σ k).1)), (4, .int 1)]) [1, 2, 3, 4, 0] (by decide) rfl td_M_as_76 ?_
                refine tz_iload C_ 4 rfl td_M_as_78 ?_
                refine tz_if_eq C_ td_M_as_80 (fun h80 => ?_) (fun h80 => ?_)
                · skip
                  exact absurd h80 (by decide)
                · skip
                  refine tz_iload_n C_ 1 rfl rfl td_M_as_83 ?_
                  refine tz_goto C_ td_M_as_84 ?_
                  refine tz_riret C_ hr_ hk_ hQ_ rfl td_M_as_93 ?_
                  have e9 : sp_as σ (nI k) w = (nI k, σ) := by simp only [sp_as, hlk5]; rw [if_pos h15, if_pos ((tz_isaN (tz_can06 (hWT.2.2.1 k hk).1)).mpr (by grind))]
                  rw [e9]
                  exact ⟨rfl, ⟨_, _, _, _, _, _, _, _, _, _, _, ⟨hM.1, hM.2.1, hM.2.2.1, hM.2.2.2.1, hM.2.2.2.2.1, hM.2.2.2.2.2.1, hM.2.2.2.2.2.2.1, hM.2.2.2.2.2.2.2.1, hM.2.2.2.2.2.2.2.2⟩, hE, hH, hQ⟩, (fun q hh => rfl)⟩
              · skip
                refine tz_iload_n C_ 2 rfl rfl td_M_as_61 ?_
                refine tz_iconst C_ (v := 4) (by decide) td_M_as_62 ?_
                refine tz_icmp_ne C_ td_M_as_63 (fun h63 => ?_) (fun h63 => ?_)
                · skip
                  refine tz_iconst C_ (v := 0) (by decide) td_M_as_75 ?_
                  refine tz_istore C_ (lv' := [(0, .ref M), (1, .int (nI k)), (2, .int w), (3, .int ((tz_lyr σ k).1)), (4, .int 0)]) [1, 2, 3, 4, 0] (by decide) rfl td_M_as_76 ?_
                  refine tz_iload C_ 4 rfl td_M_as_78 ?_
                  refine tz_if_eq C_ td_M_as_80 (fun h80 => ?_) (fun h80 => ?_)
                  · skip
                    refine tz_aload_n C_ 0 rfl rfl td_M_as_87 ?_
                    refine tz_ldc C_ tw_891 td_M_as_88 ?_
                    refine tz_cV C_ tmi_M_finding tw_800 tw_14 tw_798 hM.1 rfl (As := [.int (-100004)]) (by exact (ct_M_finding (v := -100004) hM.1)) rfl (rest := []) rfl (by decide) (Nat.le_of_ble_eq_true rfl) td_M_as_90 (st1 := [.int (-100004)]) rfl (fun f31 hF31 => ?_)
                    obtain ⟨hs32, hq32⟩ := hF31
                    refine tz_riret C_ hr_ hk_ hQ_ rfl td_M_as_93 ?_
                    have k33 : f31 (M + 1) = some (tz_ints cs 532 nw) := ((hq32 _ (by omega)).trans hM.2.1)
                    have k34 : f31 (M + 2) = some (tz_ints cs 10640 pa) := ((hq32 _ (by omega)).trans hM.2.2.1)
                    have k35 : f31 (M + 3) = some (tz_ints cs 4 bi) := ((hq32 _ (by omega)).trans hM.2.2.2.1)
                    have k36 : f31 (M + 4) = some (tz_ints cs 4 nu) := ((hq32 _ (by omega)).trans hM.2.2.2.2.1)
                    have k37 : f31 (M + 5) = some (tz_ints cs 480 sh) := ((hq32 _ (by omega)).trans hM.2.2.2.2.2.1)
                    have k38 : f31 (M + 6) = some (tz_ints cs 120 ro) := ((hq32 _ (by omega)).trans hM.2.2.2.2.2.2.1)
                    have k39 : f31 (M + 7) = some (tz_ints cs 120 ma) := ((hq32 _ (by omega)).trans hM.2.2.2.2.2.2.2.1)
                    have k40 : f31 (M + 8) = some (tz_ints cs 120 ca) := ((hq32 _ (by omega)).trans hM.2.2.2.2.2.2.2.2)
                    have e9 : sp_as σ (nI k) w = (-100004, tz_fnd σ) := by simp only [sp_as, hlk5]; rw [if_pos h15, if_neg (fun z => absurd ((tz_isaN (tz_can06 (hWT.2.2.1 k hk).1)).mp z) (by grind)), tz_an_f (by decide)]
                    rw [e9]
                    exact ⟨rfl, ⟨_, _, _, _, _, _, _, _, _, _, _, ⟨hs32, k33, k34, k35, k36, k37, k38, k39, k40⟩, hE, hH, hQ⟩, (fun q hh => by rw [hq32 q (by omega)])⟩
                  · skip
                    exact absurd rfl h80
                · skip
                  refine tz_iload_n C_ 3 rfl rfl td_M_as_66 ?_
                  refine tz_iconst C_ (v := 5) (by decide) td_M_as_67 ?_
                  refine tz_icmp_ne C_ td_M_as_68 (fun h68 => ?_) (fun h68 => ?_)
                  · skip
                    refine tz_iconst C_ (v := 0) (by decide) td_M_as_75 ?_
                    refine tz_istore C_ (lv' := [(0, .ref M), (1, .int (nI k)), (2, .int w), (3, .int ((tz_lyr σ k).1)), (4, .int 0)]) [1, 2, 3, 4, 0] (by decide) rfl td_M_as_76 ?_
                    refine tz_iload C_ 4 rfl td_M_as_78 ?_
                    refine tz_if_eq C_ td_M_as_80 (fun h80 => ?_) (fun h80 => ?_)
                    · skip
                      refine tz_aload_n C_ 0 rfl rfl td_M_as_87 ?_
                      refine tz_ldc C_ tw_891 td_M_as_88 ?_
                      refine tz_cV C_ tmi_M_finding tw_800 tw_14 tw_798 hM.1 rfl (As := [.int (-100004)]) (by exact (ct_M_finding (v := -100004) hM.1)) rfl (rest := []) rfl (by decide) (Nat.le_of_ble_eq_true rfl) td_M_as_90 (st1 := [.int (-100004)]) rfl (fun f41 hF41 => ?_)
                      obtain ⟨hs42, hq42⟩ := hF41
                      refine tz_riret C_ hr_ hk_ hQ_ rfl td_M_as_93 ?_
                      have k43 : f41 (M + 1) = some (tz_ints cs 532 nw) := ((hq42 _ (by omega)).trans hM.2.1)
                      have k44 : f41 (M + 2) = some (tz_ints cs 10640 pa) := ((hq42 _ (by omega)).trans hM.2.2.1)
                      have k45 : f41 (M + 3) = some (tz_ints cs 4 bi) := ((hq42 _ (by omega)).trans hM.2.2.2.1)
                      have k46 : f41 (M + 4) = some (tz_ints cs 4 nu) := ((hq42 _ (by omega)).trans hM.2.2.2.2.1)
                      have k47 : f41 (M + 5) = some (tz_ints cs 480 sh) := ((hq42 _ (by omega)).trans hM.2.2.2.2.2.1)
                      have k48 : f41 (M + 6) = some (tz_ints cs 120 ro) := ((hq42 _ (by omega)).trans hM.2.2.2.2.2.2.1)
                      have k49 : f41 (M + 7) = some (tz_ints cs 120 ma) := ((hq42 _ (by omega)).trans hM.2.2.2.2.2.2.2.1)
                      have k50 : f41 (M + 8) = some (tz_ints cs 120 ca) := ((hq42 _ (by omega)).trans hM.2.2.2.2.2.2.2.2)
                      have e9 : sp_as σ (nI k) w = (-100004, tz_fnd σ) := by simp only [sp_as, hlk5]; rw [if_pos h15, if_neg (fun z => absurd ((tz_isaN (tz_can06 (hWT.2.2.1 k hk).1)).mp z) (by grind)), tz_an_f (by decide)]
                      rw [e9]
                      exact ⟨rfl, ⟨_, _, _, _, _, _, _, _, _, _, _, ⟨hs42, k43, k44, k45, k46, k47, k48, k49, k50⟩, hE, hH, hQ⟩, (fun q hh => by rw [hq42 q (by omega)])⟩
                    · skip
                      exact absurd rfl h80
                  · skip
                    refine tz_iconst C_ (v := 1) (by decide) td_M_as_71 ?_
                    refine tz_goto C_ td_M_as_72 ?_
                    refine tz_istore C_ (lv' := [(0, .ref M), (1, .int (nI k)), (2, .int w), (3, .int ((tz_lyr σ k).1)), (4, .int 1)]) [1, 2, 3, 4, 0] (by decide) rfl td_M_as_76 ?_
                    refine tz_iload C_ 4 rfl td_M_as_78 ?_
                    refine tz_if_eq C_ td_M_as_80 (fun h80 => ?_) (fun h80 => ?_)
                    · skip
                      exact absurd h80 (by decide)
                    · skip
                      refine tz_iload_n C_ 1 rfl rfl td_M_as_83 ?_
                      refine tz_goto C_ td_M_as_84 ?_
                      refine tz_riret C_ hr_ hk_ hQ_ rfl td_M_as_93 ?_
                      have e9 : sp_as σ (nI k) w = (nI k, σ) := by simp only [sp_as, hlk5]; rw [if_pos h15, if_pos ((tz_isaN (tz_can06 (hWT.2.2.1 k hk).1)).mpr (by grind))]
                      rw [e9]
                      exact ⟨rfl, ⟨_, _, _, _, _, _, _, _, _, _, _, ⟨hM.1, hM.2.1, hM.2.2.1, hM.2.2.2.1, hM.2.2.2.2.1, hM.2.2.2.2.2.1, hM.2.2.2.2.2.2.1, hM.2.2.2.2.2.2.2.1, hM.2.2.2.2.2.2.2.2⟩, hE, hH, hQ⟩, (fun q hh => rfl)⟩
    · skip
      replace h15 := tz_p0.mp h15
      refine tz_aload_n C_ 0 rfl rfl td_M_as_18 ?_
      refine tz_ldc C_ tw_812 td_M_as_19 ?_
      refine tz_cV C_ tmi_M_finding tw_800 tw_14 tw_798 hM.1 rfl (As := [.int (-100001)]) (by exact (ct_M_finding (v := -100001) hM.1)) rfl (rest := []) rfl (by decide) (Nat.le_of_ble_eq_true rfl) td_M_as_21 (st1 := [.int (-100001)]) rfl (fun f51 hF51 => ?_)
      obtain ⟨hs52, hq52⟩ := hF51
      refine tz_riret C_ hr_ hk_ hQ_ rfl td_M_as_24 ?_
      have k53 : f51 (M + 1) = some (tz_ints cs 532 nw) := ((hq52 _ (by omega)).trans hM.2.1)
      have k54 : f51 (M + 2) = some (tz_ints cs 10640 pa) := ((hq52 _ (by omega)).trans hM.2.2.1)
      have k55 : f51 (M + 3) = some (tz_ints cs 4 bi) := ((hq52 _ (by omega)).trans hM.2.2.2.1)
      have k56 : f51 (M + 4) = some (tz_ints cs 4 nu) := ((hq52 _ (by omega)).trans hM.2.2.2.2.1)
      have k57 : f51 (M + 5) = some (tz_ints cs 480 sh) := ((hq52 _ (by omega)).trans hM.2.2.2.2.2.1)
      have k58 : f51 (M + 6) = some (tz_ints cs 120 ro) := ((hq52 _ (by omega)).trans hM.2.2.2.2.2.2.1)
      have k59 : f51 (M + 7) = some (tz_ints cs 120 ma) := ((hq52 _ (by omega)).trans hM.2.2.2.2.2.2.2.1)
      have k60 : f51 (M + 8) = some (tz_ints cs 120 ca) := ((hq52 _ (by omega)).trans hM.2.2.2.2.2.2.2.2)
      have e9 : sp_as σ (nI k) w = (-100001, tz_fnd σ) := by simp only [sp_as, hlk5]; rw [if_neg h15, tz_an_f (by decide)]
      rw [e9]
      exact ⟨rfl, ⟨_, _, _, _, _, _, _, _, _, _, _, ⟨hs52, k53, k54, k55, k56, k57, k58, k59, k60⟩, hE, hH, hQ⟩, (fun q hh => by rw [hq52 q (by omega)])⟩
