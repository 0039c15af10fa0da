
abbrev tz_F (n : Nat) (g : Nat → Int32) (k : Nat) : Nat := tz_nth (tz_tp n g) n k
theorem tz_F_in {n k : Nat} {g : Nat → Int32} (h : k < tz_T n g) : tz_F n g k < n := (tz_nth_in (tz_tp n g) h).1
theorem tz_F_lt {n k : Nat} {g : Nat → Int32} (h : k + 1 < tz_T n g) : tz_F n g k < tz_F n g (k + 1) := by
  have a3 : tz_ct (tz_tp n g) (tz_F n g k) = k := (tz_nth_in (tz_tp n g) (show k < tz_T n g by omega)).2.2
  have b3 : tz_ct (tz_tp n g) (tz_F n g (k + 1)) = k + 1 := (tz_nth_in (tz_tp n g) h).2.2
  refine Nat.not_le.mp (fun z => ?_)
  have := tz_ct_mono (tz_tp n g) z
  omega
theorem tz_tua_N {n k : Nat} {g : Nat → Int32} (h : k < tz_T n g) : tz_tua n g k = nI (tz_F n g k) := by unfold tz_tua; rw [if_pos h]
theorem tz_pl_T {n k : Nat} {g : Nat → Int32} (hn : n ≤ 120) (h : k < tz_T n g) : tz_pl (tz_T n g) (tz_tg n g) (nI k) = nI (tz_F n g k) := by
  have : tz_T n g ≤ n := tz_ct_le (tz_tp n g) n
  unfold tz_pl
  rw [if_pos ⟨nI_pos' (by omega), nI_lt h (by omega)⟩, nI_clamp (by omega)]
  rfl
theorem tz_wpf {n v tt : Nat} {g : Nat → Int32} (hn : n ≤ 120) (hv : 1 ≤ v ∧ v ≤ 30) (hT : ¬ tz_T n g < 2) (ht : tt < tz_wl n g v) : tt < 120 ∧ tt / v < tz_T n g ∧ (¬ tt % v = 0 → tt / v + 1 < tz_T n g) := by
  unfold tz_wl at ht
  have h1 : tt ≤ v * (tz_T n g - 1) := by rw [Nat.mul_comm]; omega
  have h2 : tt / v ≤ tz_T n g - 1 := Nat.div_le_of_le_mul h1
  refine ⟨by omega, by omega, fun h => ?_⟩
  refine Nat.not_le.mp (fun z => ?_)
  have e : tt / v = tz_T n g - 1 := by omega
  have h3 := Nat.div_add_mod tt v
  rw [e] at h3
  omega
theorem tz_wpg {n v tt : Nat} {g : Nat → Int32} (hn : n ≤ 120) (hv : 1 ≤ v ∧ v ≤ 30) (h : tt / v + 1 < tz_T n g) : tz_F n g (tt / v) < tz_F n g (tt / v + 1) ∧ tz_F n g (tt / v + 1) < n ∧ tt % v * (tz_F n g (tt / v + 1) - tz_F n g (tt / v)) < 4000 ∧ tt % v * (tz_F n g (tt / v + 1) - tz_F n g (tt / v)) / v < tz_F n g (tt / v + 1) - tz_F n g (tt / v) := by
  have h1 := tz_F_lt h
  have h2 := tz_F_in h
  have h3 : tt % v < v := Nat.mod_lt _ (by omega)
  have h4 : tt % v * (tz_F n g (tt / v + 1) - tz_F n g (tt / v)) < v * (tz_F n g (tt / v + 1) - tz_F n g (tt / v)) := Nat.mul_lt_mul_of_pos_right h3 (by omega)
  have h5 : v * (tz_F n g (tt / v + 1) - tz_F n g (tt / v)) ≤ 30 * 120 := Nat.mul_le_mul hv.2 (by omega)
  exact ⟨h1, h2, by omega, Nat.div_lt_of_lt_mul h4⟩
theorem tz_wv_A {n v tt : Nat} {g : Nat → Int32} (hn : n ≤ 120) (hv : 1 ≤ v ∧ v ≤ 30) (h120 : tt < 120) (h : tt / v < tz_T n g) (h0 : tt % v = 0) : tz_wv n g (tz_T n g) (tz_tg n g) (nI tt) (nI v) = g (tz_F n g (tt / v)) := by
  unfold tz_wv
  rw [show (nI tt - nI tt / nI v * nI v : Int32) = nI (tt % v) from pk_rem (a := tt) (d := v) (by omega) (by omega) (by omega), h0, if_pos (show nI 0 = 0 from rfl), show (nI tt / nI v : Int32) = nI (tt / v) from pk_div (a := tt) (d := v) (by omega) (by omega) (by omega), tz_pl_T hn h, tz_at_N hn (tz_F_in h)]
theorem tz_wv_B {n v tt w p : Nat} {g : Nat → Int32} (hn : n ≤ 120) (hv : 1 ≤ v ∧ v ≤ 30) (h120 : tt < 120) (h : tt / v + 1 < tz_T n g) (h0 : ¬ tt % v = 0) (hw : w = tt % v * (tz_F n g (tt / v + 1) - tz_F n g (tt / v))) (hp : p = tz_F n g (tt / v) + w / v) : tz_wv n g (tz_T n g) (tz_tg n g) (nI tt) (nI v) = if w % v = 0 then g p else if g p = tz_LO ∨ g (p + 1) = tz_LO then tz_LO else g p + tz_fd (nI (w % v) * (g (p + 1) - g p)) (nI v) := by
  obtain ⟨w1, w2, w3, w4⟩ := tz_wpg hn hv h
  have hT : tz_T n g ≤ n := tz_ct_le (tz_tp n g) n
  have hmod : tt % v < v := Nat.mod_lt _ (by omega)
  have e0 : (nI tt - nI tt / nI v * nI v : Int32) = nI (tt % v) := pk_rem (a := tt) (d := v) (by omega) (by omega) (by omega)
  have e1 : (nI tt / nI v : Int32) = nI (tt / v) := pk_div (a := tt) (d := v) (by omega) (by omega) (by omega)
  have e2 : (nI (tt / v) + 1 : Int32) = nI (tt / v + 1) := nI_1 _
  have e3 : (nI (tt % v) * (nI (tz_F n g (tt / v + 1)) - nI (tz_F n g (tt / v))) : Int32) = nI w := by
    rw [show (nI (tz_F n g (tt / v + 1)) - nI (tz_F n g (tt / v)) : Int32) = nI (tz_F n g (tt / v + 1) - tz_F n g (tt / v)) from pk_sub (by omega), pk_mul, hw]
  have e4 : (nI w - nI w / nI v * nI v : Int32) = nI (w % v) := pk_rem (a := w) (d := v) (by omega) (by omega) (by omega)
  have e5 : (nI w / nI v : Int32) = nI (w / v) := pk_div (a := w) (d := v) (by omega) (by omega) (by omega)
  have hwv : w / v < tz_F n g (tt / v + 1) - tz_F n g (tt / v) := by rw [hw]; exact w4
  have e6 : (nI (tz_F n g (tt / v)) + nI (w / v) : Int32) = nI p := by rw [nI_add, hp]
  have e7 : (nI p + 1 : Int32) = nI (p + 1) := nI_1 _
  have hz : ∀ x : Nat, x < 5000 → (nI x = 0 ↔ x = 0) := fun x hx => nI_eq (a := x) (b := 0) (by omega) (by omega)
  have hmw : w % v < v := Nat.mod_lt _ (by omega)
  unfold tz_wv
  rw [e0, e1, e2, tz_pl_T hn (show tt / v < tz_T n g by omega), tz_pl_T hn h, e3, e4, e5, e6, e7, tz_at_N hn (show p < n by omega), tz_at_N hn (show p + 1 < n by omega)]
  rw [if_neg (fun z => h0 ((hz _ (by omega)).mp z))]
  by_cases h1 : w % v = 0
  · rw [if_pos ((hz _ (by omega)).mpr h1), if_pos h1]
  · rw [if_neg (fun z => h1 ((hz _ (by omega)).mp z)), if_neg h1]
theorem tz_wv_rg {n v p r : Nat} {g : Nat → Int32} (hk : tz_okr n g) (hp : p + 1 < n) (h1 : ¬ g p = tz_LO) (h2 : ¬ g (p + 1) = tz_LO) (hr : r < v) (hv : v ≤ 30) : (-10000 ≤ g p + tz_fd (nI r * (g (p + 1) - g p)) (nI v) ∧ g p + tz_fd (nI r * (g (p + 1) - g p)) (nI v) ≤ 10000) ∧ ¬ g p + tz_fd (nI r * (g (p + 1) - g p)) (nI v) = tz_LO :=
  tz_ip (hk p (by omega)) (hk (p + 1) hp) h1 h2 (nI_toInt (by omega)) (nI_toInt (by omega)) (by omega) (by omega)
