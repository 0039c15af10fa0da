
theorem tz_xs {x y : Int32} (hy : 0 < y) : 0 ≤ x ^^^ y ↔ 0 ≤ x := by
  have k : ∀ z : Int32, 0 ≤ z ↔ z.toBitVec.msb = false := by
    intro z
    rw [Int32.le_iff_toInt_le]
    show (0 : Int) ≤ z.toBitVec.toInt ↔ _
    rw [BitVec.toInt_eq_msb_cond]
    have := z.toBitVec.isLt
    cases z.toBitVec.msb <;> simp <;> omega
  have hy2 := (k y).mp (Int32.le_of_lt hy)
  rw [k, k, Int32.toBitVec_xor, BitVec.msb_xor, hy2]
  simp
theorem tz_fd_b {x y : Int32} {a b : Int} (hx : x.toInt = a) (hy : y.toInt = b) (hb : 0 < b) (ha : -1000000000 ≤ a ∧ a ≤ 1000000000) : (tz_fd x y).toInt * b ≤ a ∧ a < ((tz_fd x y).toInt + 1) * b := by
  have hy0 : (0 : Int32) < y := by
    rw [Int32.lt_iff_toInt_lt, hy]; exact hb
  unfold tz_fd
  by_cases h : 0 ≤ x
  · rw [if_pos ((tz_xs hy0).mpr h)]
    have h0 := Int32.le_iff_toInt_le.mp h
    rw [hx] at h0
    have h1 : a.tdiv b = a / b := Int.tdiv_eq_ediv_of_nonneg h0
    have h2 : 0 ≤ a / b := Int.ediv_nonneg h0 (by omega)
    have h3 : a / b ≤ a := Int.ediv_le_self b h0
    have hd := tz_tD hx hy (by omega)
    rw [hd, h1]
    exact ⟨Int.ediv_mul_le a (by omega), Int.lt_ediv_add_one_mul_self a hb⟩
  · rw [if_neg (fun z => h ((tz_xs hy0).mp z))]
    have h0 : a < 0 := by
      have := Int32.lt_iff_toInt_lt.mp (Int32.not_le.mp h)
      rw [hx] at this; exact this
    have ht : a.tdiv b = -((-a) / b) := by
      have := Int.tdiv_eq_ediv_of_nonneg (a := -a) (b := b) (by omega)
      rw [Int.neg_tdiv] at this
      omega
    have c1 : (-a) / b * b ≤ -a := Int.ediv_mul_le (-a) (by omega)
    have c2 : -a < ((-a) / b + 1) * b := Int.lt_ediv_add_one_mul_self (-a) hb
    have c3 : 0 ≤ (-a) / b := Int.ediv_nonneg (by omega) (by omega)
    have c4 : (-a) / b ≤ -a := Int.ediv_le_self b (by omega)
    generalize (-a) / b = c at ht c1 c2 c3 c4
    have hd := tz_tD hx hy (by omega)
    rw [ht] at hd
    have m1 : -c * b = -(c * b) := Int.neg_mul _ _
    have m2 : (c + 1) * b = c * b + b := by rw [Int.add_mul, Int.one_mul]
    have m3 : (-c - 1) * b = -(c * b) - b := by rw [Int.sub_mul, Int.one_mul, m1]
    have m4 : (-c + 1) * b = -(c * b) + b := by rw [Int.add_mul, Int.one_mul, m1]
    have m5 : (-c - 1 + 1) * b = -(c * b) := by rw [show -c - 1 + 1 = -c by omega, m1]
    have c5 : 0 ≤ c * b := Int.mul_nonneg c3 (by omega)
    have hm := tz_tM hd hy (by omega)
    by_cases h1 : x / y * y = x
    · rw [if_pos h1, hd]
      rw [h1, hx] at hm
      omega
    · rw [if_neg h1, tz_tS hd (show (1 : Int32).toInt = 1 from rfl) (by omega)]
      have hne : ¬ -c * b = a := fun z => h1 (Int32.toInt_inj.mp (by rw [hm, z, hx]))
      omega
/-- between two samples -/
theorem tz_ip {x y r v : Int32} {rI vI : Int} (hx : tz_okv x) (hy : tz_okv y) (h1 : ¬ x = tz_LO) (h2 : ¬ y = tz_LO) (er : r.toInt = rI) (ev : v.toInt = vI) (hr : 0 ≤ rI ∧ rI ≤ vI) (hv : 0 < vI ∧ vI ≤ 1000) : (-10000 ≤ x + tz_fd (r * (y - x)) v ∧ x + tz_fd (r * (y - x)) v ≤ 10000) ∧ ¬ x + tz_fd (r * (y - x)) v = tz_LO := by
  have a := tz_rg hx h1
  have b := tz_rg hy h2
  have ed := tz_tS (x := y) (y := x) rfl rfl (by omega)
  generalize hd : y.toInt - x.toInt = d at ed
  have p1 : -(20000 * 1000) ≤ rI * d ∧ rI * d ≤ 20000 * 1000 := by
    by_cases h0 : 0 ≤ d
    · have q1 : rI * d ≤ 1000 * d := Int.mul_le_mul_of_nonneg_right (by omega) h0
      have q2 : 0 * d ≤ rI * d := Int.mul_le_mul_of_nonneg_right (by omega) h0
      omega
    · have q1 : 1000 * d ≤ rI * d := Int.mul_le_mul_of_nonpos_right (by omega) (by omega)
      have q2 : rI * d ≤ 0 * d := Int.mul_le_mul_of_nonpos_right (by omega) (by omega)
      omega
  have em := tz_tM er ed (by omega)
  obtain ⟨f1, f2⟩ := tz_fd_b em ev hv.1 (by omega)
  generalize hq : (tz_fd (r * (y - x)) v).toInt = q at f1 f2
  have g : -10000 ≤ x.toInt + q ∧ x.toInt + q ≤ 10000 := by
    by_cases h0 : 0 ≤ d
    · have q1 : rI * d ≤ vI * d := Int.mul_le_mul_of_nonneg_right (by omega) h0
      have q2 : 0 * d ≤ rI * d := Int.mul_le_mul_of_nonneg_right (by omega) h0
      have u1 : q ≤ d := Int.le_of_mul_le_mul_right (a := vI) (b := q) (c := d) (by rw [Int.mul_comm d vI]; omega) hv.1
      have u2 : 0 < q + 1 := Int.lt_of_mul_lt_mul_right (a := vI) (b := 0) (c := q + 1) (by omega) (by omega)
      omega
    · have q1 : vI * d ≤ rI * d := Int.mul_le_mul_of_nonpos_right (by omega) (by omega)
      have q2 : rI * d ≤ 0 * d := Int.mul_le_mul_of_nonpos_right (by omega) (by omega)
      have u1 : q ≤ 0 := Int.le_of_mul_le_mul_right (a := vI) (b := q) (c := 0) (by omega) hv.1
      have u2 : d < q + 1 := Int.lt_of_mul_lt_mul_right (a := vI) (b := d) (c := q + 1) (by rw [Int.mul_comm d vI]; omega) (by omega)
      omega
  apply tz_gr
  rw [tz_tA rfl hq (by omega)]
  exact g
