
def tz_Al (f : tz_PH) (a : Nat) (s : Int32) (k : Nat) : Prop := f a = some (tz_obj 0 [.int s, .int (nI k)])
abbrev tz_dc (g : Nat → Int32) (n2 : Nat) (g2 : Nat → Int32) (d : Int32) (k : Nat) : Prop := ¬ g k = tz_LO ∧ ¬ tz_at n2 g2 (nI k + d) = tz_LO
def tz_ds (g : Nat → Int32) (n2 : Nat) (g2 : Nat → Int32) (d : Int32) : Nat → Int32
  | 0 => 0
  | k + 1 => if tz_dc g n2 g2 d k then tz_ds g n2 g2 d k + tz_ab (g k - tz_at n2 g2 (nI k + d)) else tz_ds g n2 g2 d k
def tz_dn (g : Nat → Int32) (n2 : Nat) (g2 : Nat → Int32) (d : Int32) (n : Nat) : Nat := tz_ct (fun k => decide (tz_dc g n2 g2 d k)) n

abbrev rm_A_sum : Room := { frames := 0, cells := 0, slots := 0, locals := 0 }
set_option maxHeartbeats 4000000 in
set_option maxRecDepth 100000 in
theorem ct_A_sum {l : Launch} {A : Nat → Prop} {D : va_G} {cs : Nat → ClassId} {sz : Nat} {f : tz_PH} {u x : Nat} {z : Int32} (hU : tz_Al f u z x) : tz_CN l tyA_sum prog_2_method_2_code 1 (some (.int)) rm_A_sum 0 0 A D cs sz [.ref u] f (some (.int z)) (fun f' => f' = f) := by
  refine tz_C.ofB (lv0 := [(0, .ref u)]) (plainFor_of_name (by decide)) (Nat.le_of_ble_eq_true rfl) rfl ?_
  intro p_ e_ s_ m_ ar_ be_ me_ c_ Q_ C_ hr_ hk_ hnm_ hz_ hQ_
  refine tz_aload_n C_ 0 rfl rfl td_A_sum_0 ?_
  refine tz_get C_ tci_A 0 (by decide) tw_203 hU rfl td_A_sum_1 ?_
  refine tz_riret C_ hr_ hk_ hQ_ rfl td_A_sum_4 ?_
  exact ⟨rfl, rfl⟩

abbrev rm_A_places : Room := { frames := 0, cells := 0, slots := 0, locals := 0 }
set_option maxHeartbeats 4000000 in
set_option maxRecDepth 100000 in
theorem ct_A_places {l : Launch} {A : Nat → Prop} {D : va_G} {cs : Nat → ClassId} {sz : Nat} {f : tz_PH} {u x : Nat} {z : Int32} (hU : tz_Al f u z x) : tz_CN l tyA_places prog_2_method_3_code 1 (some (.int)) rm_A_places 0 0 A D cs sz [.ref u] f (some (.int (nI x))) (fun f' => f' = f) := by
  refine tz_C.ofB (lv0 := [(0, .ref u)]) (plainFor_of_name (by decide)) (Nat.le_of_ble_eq_true rfl) rfl ?_
  intro p_ e_ s_ m_ ar_ be_ me_ c_ Q_ C_ hr_ hk_ hnm_ hz_ hQ_
  refine tz_aload_n C_ 0 rfl rfl td_A_places_0 ?_
  refine tz_get C_ tci_A 1 (by decide) tw_204 hU rfl td_A_places_1 ?_
  refine tz_riret C_ hr_ hk_ hQ_ rfl td_A_places_4 ?_
  exact ⟨rfl, rfl⟩

abbrev rm_A_compare : Room := { frames := 1, cells := 0, slots := 0, locals := 21 }
set_option maxHeartbeats 4000000 in
set_option maxRecDepth 100000 in
theorem ct_A_compare {l : Launch} {A : Nat → Prop} {D : va_G} {cs : Nat → ClassId} {sz : Nat} {f : tz_PH} {u x a n b n2 : Nat} {z d : Int32} {g g2 : Nat → Int32} (hU : tz_Al f u z x) (hR : tz_Row cs f a n g) (hn : n ≤ 120) (hR2 : tz_Row cs f b n2 g2) (hn2 : n2 ≤ 120) (hab : (u < a ∨ a + 2 ≤ u) ∧ (u < b ∨ b + 2 ≤ u)) : tz_CN l tyA_compare prog_2_method_4_code 7 (none) rm_A_compare 0 0 A D cs sz [.ref u, .ref a, .ref b, .int d] f (none) (fun f' => tz_Al f' u (tz_ds g n2 g2 d n) (tz_dn g n2 g2 d n) ∧ ∀ q, q ≠ u → f' q = f q) := by
  refine tz_C.ofB (lv0 := [(0, .ref u), (1, .ref a), (2, .ref b), (3, .int d)]) (plainFor_of_name (by decide)) (Nat.le_of_ble_eq_true rfl) rfl ?_
  intro p_ e_ s_ m_ ar_ be_ me_ c_ Q_ C_ hr_ hk_ hnm_ hz_ hQ_
  refine tz_aload_n C_ 0 rfl rfl td_A_compare_0 ?_
  refine tz_iconst C_ (v := 0) (by decide) td_A_compare_1 ?_
  refine tz_wput C_ tci_A 0 (by decide) tw_203 rfl hU (Nat.le_of_ble_eq_true rfl) ⟨rfl, rfl⟩ (fs' := [.int 0, .int (nI x)]) rfl td_A_compare_2 (fun f1 hs1 hq1 => ?_)
  refine tz_aload_n C_ 0 rfl rfl td_A_compare_5 ?_
  refine tz_iconst C_ (v := 0) (by decide) td_A_compare_6 ?_
  refine tz_wput C_ tci_A 1 (by decide) tw_204 rfl hs1 (Nat.le_of_ble_eq_true rfl) ⟨rfl, rfl⟩ (fs' := [.int 0, .int 0]) rfl td_A_compare_7 (fun f2 hs2 hq2 => ?_)
  refine tz_iconst C_ (v := 0) (by decide) td_A_compare_10 ?_
  refine tz_istore C_ (lv' := [(0, .ref u), (1, .ref a), (2, .ref b), (3, .int d), (4, .int 0)]) [1, 2, 3, 4, 0] (by decide) rfl td_A_compare_11 ?_
  have k3 : f2 a = some (tz_obj 5 [.ref (a + 1), .int (nI n)]) := ((hq2 _ (by omega)).trans ((hq1 _ (by omega)).trans hR.1))
  have k4 : f2 (a + 1) = some (tz_ints cs 120 g) := ((hq2 _ (by omega)).trans ((hq1 _ (by omega)).trans hR.2))
  have k5 : f2 b = some (tz_obj 5 [.ref (b + 1), .int (nI n2)]) := ((hq2 _ (by omega)).trans ((hq1 _ (by omega)).trans hR2.1))
  have k6 : f2 (b + 1) = some (tz_ints cs 120 g2) := ((hq2 _ (by omega)).trans ((hq1 _ (by omega)).trans hR2.2))
  have loop13 : ∀ (kk13 : Nat) (z1 : Int32) (x1 : Nat) (i : Nat) (f13 : tz_PH), (tz_Al f13 u z1 x1) → (tz_Row cs f13 a n g) → (tz_Row cs f13 b n2 g2) → (∀ q, q ≠ u → f13 q = f q) → (i ≤ n) → (z1 = tz_ds g n2 g2 d i) → (x1 = tz_dn g n2 g2 d i) → (n - i) < kk13 → tz_V p_ l e_ rm_A_compare s_ m_ ar_ be_ me_ c_ Q_ A D 7 f13 sz 0 0 13 [(0, .ref u), (1, .ref a), (2, .ref b), (3, .int d), (4, .int (nI i))] [] := by
    intro kk13
    induction kk13 with
    | zero => intro z1 x1 i f13 hU1 hR1 hR3 hfr hi hz hx hm13; omega
    | succ kk13 ih13 =>
      intro z1 x1 i f13 hU1 hR1 hR3 hfr hi hz hx hm13
      have hfrx : ∀ q, q ≠ u → f13 q = f q := hfr
      refine tz_iload C_ 4 rfl td_A_compare_13 ?_
      refine tz_aload_n C_ 1 rfl rfl td_A_compare_15 ?_
      refine tz_rV C_ tmi_R_length tw_308 tw_309 tw_601 hR1.1 rfl (As := []) (by exact (ct_R_length (n := n) (g := g) ⟨hR1.1, hR1.2⟩)) rfl (rest := [.int (nI i)]) rfl (by decide) (Nat.le_of_ble_eq_true rfl) td_A_compare_16 (st1 := [.int (nI n), .int (nI i)]) rfl ?_
      refine tz_icmp_ge C_ td_A_compare_19 (fun h19 => ?_) (fun h19 => ?_)
      · skip
        replace h19 := (nI_leI (a := n) (b := i) (by omega) (by omega)).mp h19
        refine tz_rvret C_ hr_ hk_ hQ_ rfl td_A_compare_87 ?_
        have e9 : i = n := by omega
        subst e9
        rw [← hz, ← hx]
        exact ⟨rfl, hU1, hfr⟩
      · skip
        replace h19 := mt (nI_leI (a := n) (b := i) (by omega) (by omega)).mpr h19
        refine tz_aload_n C_ 1 rfl rfl td_A_compare_22 ?_
        refine tz_iload C_ 4 rfl td_A_compare_23 ?_
        refine tz_rV C_ tmi_R_at tw_332 tw_333 tw_602 hR1.1 rfl (As := [.int (nI i)]) (by exact (ct_R_atN (n := n) (g := g) ⟨hR1.1, hR1.2⟩ (by omega) (by omega))) rfl (rest := []) rfl (by decide) (Nat.le_of_ble_eq_true rfl) td_A_compare_25 (st1 := [.int (g i)]) rfl ?_
        refine tz_istore C_ (lv' := [(0, .ref u), (1, .ref a), (2, .ref b), (3, .int d), (4, .int (nI i)), (5, .int (g i))]) [1, 2, 3, 4, 5, 0] (by decide) rfl td_A_compare_28 ?_
        refine tz_aload_n C_ 2 rfl rfl td_A_compare_30 ?_
        refine tz_iload C_ 4 rfl td_A_compare_31 ?_
        refine tz_iload_n C_ 3 rfl rfl td_A_compare_33 ?_
        refine tz_iadd C_ td_A_compare_34 ?_
        refine tz_rV C_ tmi_R_at tw_332 tw_333 tw_602 hR3.1 rfl (As := [.int ((nI i) + d)]) (by exact (ct_R_at (n := n2) (g := g2) ⟨hR3.1, hR3.2⟩ (by omega))) rfl (rest := []) rfl (by decide) (Nat.le_of_ble_eq_true rfl) td_A_compare_35 (st1 := [.int (tz_at n2 g2 ((nI i) + d))]) rfl ?_
        refine tz_istore C_ (lv' := [(0, .ref u), (1, .ref a), (2, .ref b), (3, .int d), (4, .int (nI i)), (5, .int (g i)), (6, .int (tz_at n2 g2 ((nI i) + d)))]) [1, 2, 3, 4, 5, 6, 0] (by decide) rfl td_A_compare_38 ?_
        refine tz_iload C_ 5 rfl td_A_compare_40 ?_
        refine tz_ldc C_ tw_603 td_A_compare_42 ?_
        refine tz_icmp_eq C_ td_A_compare_44 (fun h44 => ?_) (fun h44 => ?_)
        · skip
          refine tz_iinc C_ (k := 1) (v := nI (i + 1)) (lv' := [(0, .ref u), (1, .ref a), (2, .ref b), (3, .int d), (4, .int (nI (i + 1))), (5, .int (g i)), (6, .int (tz_at n2 g2 ((nI i) + d)))]) 4 rfl (nI_1 i) [1, 2, 3, 4, 0, 5, 6] (by decide) rfl td_A_compare_81 ?_
          refine tz_goto C_ td_A_compare_84 ?_
          refine tz_lvs [0, 1, 2, 3, 4] rfl ?_
          exact ih13 z1 x1 (i + 1) f13 hU1 (⟨hR1.1, hR1.2⟩) (⟨hR3.1, hR3.2⟩) (fun q hh => by rw [hfr q (by omega)]) (by omega) (by rw [tz_ds, if_neg (by grind), hz]) (by rw [tz_dn, tz_ct_n (by simp only [decide_eq_false_iff_not]; grind), hx]; rfl) (by omega)
        · skip
          refine tz_iload C_ 6 rfl td_A_compare_47 ?_
          refine tz_ldc C_ tw_603 td_A_compare_49 ?_
          refine tz_icmp_eq C_ td_A_compare_51 (fun h51 => ?_) (fun h51 => ?_)
          · skip
            refine tz_iinc C_ (k := 1) (v := nI (i + 1)) (lv' := [(0, .ref u), (1, .ref a), (2, .ref b), (3, .int d), (4, .int (nI (i + 1))), (5, .int (g i)), (6, .int (tz_at n2 g2 ((nI i) + d)))]) 4 rfl (nI_1 i) [1, 2, 3, 4, 0, 5, 6] (by decide) rfl td_A_compare_81 ?_
            refine tz_goto C_ td_A_compare_84 ?_
            refine tz_lvs [0, 1, 2, 3, 4] rfl ?_
            exact ih13 z1 x1 (i + 1) f13 hU1 (⟨hR1.1, hR1.2⟩) (⟨hR3.1, hR3.2⟩) (fun q hh => by rw [hfr q (by omega)]) (by omega) (by rw [tz_ds, if_neg (by grind), hz]) (by rw [tz_dn, tz_ct_n (by simp only [decide_eq_false_iff_not]; grind), hx]; rfl) (by omega)
          · skip
            refine tz_aload_n C_ 0 rfl rfl td_A_compare_54 ?_
            refine tz_dup C_ rfl td_A_compare_55 ?_
            refine tz_get C_ tci_A 0 (by decide) tw_203 hU1 rfl td_A_compare_56 ?_
            refine tz_iload C_ 5 rfl td_A_compare_59 ?_
            refine tz_iload C_ 6 rfl td_A_compare_61 ?_
            refine tz_isub C_ td_A_compare_63 ?_
            refine tz_rS C_ tmi_J_abs tw_605 tw_604 (As := [.int ((g i) - (tz_at n2 g2 ((nI i) + d)))]) (by exact ct_J_abs) rfl (rest := [.int z1, .ref u]) rfl (by decide) (Nat.le_of_ble_eq_true rfl) td_A_compare_64 (st1 := [.int (tz_ab ((g i) - (tz_at n2 g2 ((nI i) + d)))), .int z1, .ref u]) rfl ?_
            refine tz_iadd C_ td_A_compare_67 ?_
            refine tz_wput C_ tci_A 0 (by decide) tw_203 rfl hU1 (Nat.le_of_ble_eq_true rfl) ⟨rfl, rfl⟩ (fs' := [.int (z1 + (tz_ab ((g i) - (tz_at n2 g2 ((nI i) + d))))), .int (nI x1)]) rfl td_A_compare_68 (fun f7 hs7 hq7 => ?_)
            refine tz_aload_n C_ 0 rfl rfl td_A_compare_71 ?_
            refine tz_dup C_ rfl td_A_compare_72 ?_
            refine tz_get C_ tci_A 1 (by decide) tw_204 hs7 rfl td_A_compare_73 ?_
            refine tz_iconst C_ (v := 1) (by decide) td_A_compare_76 ?_
            refine tz_iadd C_ td_A_compare_77 ?_
            refine tz_wput C_ tci_A 1 (by decide) tw_204 rfl hs7 (Nat.le_of_ble_eq_true rfl) ⟨rfl, rfl⟩ (fs' := [.int (z1 + (tz_ab ((g i) - (tz_at n2 g2 ((nI i) + d))))), .int ((nI x1) + 1)]) rfl td_A_compare_78 (fun f8 hs8 hq8 => ?_)
            refine tz_iinc C_ (k := 1) (v := nI (i + 1)) (lv' := [(0, .ref u), (1, .ref a), (2, .ref b), (3, .int d), (4, .int (nI (i + 1))), (5, .int (g i)), (6, .int (tz_at n2 g2 ((nI i) + d)))]) 4 rfl (nI_1 i) [1, 2, 3, 4, 0, 5, 6] (by decide) rfl td_A_compare_81 ?_
            refine tz_goto C_ td_A_compare_84 ?_
            have k9 : f8 a = some (tz_obj 5 [.ref (a + 1), .int (nI n)]) := ((hq8 _ (by omega)).trans ((hq7 _ (by omega)).trans hR1.1))
            have k10 : f8 (a + 1) = some (tz_ints cs 120 g) := ((hq8 _ (by omega)).trans ((hq7 _ (by omega)).trans hR1.2))
            have k11 : f8 b = some (tz_obj 5 [.ref (b + 1), .int (nI n2)]) := ((hq8 _ (by omega)).trans ((hq7 _ (by omega)).trans hR3.1))
            have k12 : f8 (b + 1) = some (tz_ints cs 120 g2) := ((hq8 _ (by omega)).trans ((hq7 _ (by omega)).trans hR3.2))
            refine tz_lvs [0, 1, 2, 3, 4] rfl ?_
            exact ih13 (z1 + (tz_ab ((g i) - (tz_at n2 g2 ((nI i) + d))))) (x1 + 1) (i + 1) f8 (by unfold tz_Al; rw [← nI_1]; exact hs8) (⟨k9, k10⟩) (⟨k11, k12⟩) (fun q hh => by rw [hq8 q (by omega), hq7 q (by omega), hfr q (by omega)]) (by omega) (by rw [tz_ds, if_pos ⟨h44, h51⟩, hz]) (by rw [tz_dn, tz_ct_y (by simp only [decide_eq_true_eq]; exact ⟨h44, h51⟩), hx]; rfl) (by omega)
  exact loop13 _ 0 0 0 f2 hs2 (⟨k3, k4⟩) (⟨k5, k6⟩) (fun q hh => by rw [hq2 q (by omega), hq1 q (by omega)]) (Nat.zero_le _) rfl rfl (Nat.lt_succ_self _)


def tz_sd (x : Int32) : Int32 := if x - x / 2 * 2 = 0 then x / 2 else -(x + 1) / 2
/-- (best, its sum, its places) behind the first t steps -/
def tz_sh (g : Nat → Int32) (n n2 : Nat) (g2 : Nat → Int32) : Nat → Int32 × Int64 × Int64
  | 0 => (tz_NO, 0, 1)
  | t + 1 =>
    let r := tz_sh g n n2 g2 t
    let d := tz_sd (nI t)
    if 4 ≤ tz_dn g n2 g2 d n ∧ (r.1 = tz_NO ∨ (tz_ds g n2 g2 d n).toInt64 * r.2.2 < r.2.1 * (nI (tz_dn g n2 g2 d n)).toInt64) then (d, (tz_ds g n2 g2 d n).toInt64, (nI (tz_dn g n2 g2 d n)).toInt64) else r
theorem tz_dn_le {g g2 : Nat → Int32} {n2 n : Nat} {d : Int32} : tz_dn g n2 g2 d n ≤ n := tz_ct_le _ _
theorem tz_sd_e {x : Int32} (h : x - x / 2 * 2 = 0) : tz_sd x = x / 2 := by rw [tz_sd, if_pos h]
theorem tz_sd_o {x : Int32} (h : ¬ x - x / 2 * 2 = 0) : tz_sd x = -(x + 1) / 2 := by rw [tz_sd, if_neg h]

abbrev rm_A_shift : Room := { frames := 2, cells := 0, slots := 0, locals := 47 }
set_option maxHeartbeats 4000000 in
set_option maxRecDepth 100000 in
theorem ct_A_shift {l : Launch} {A : Nat → Prop} {D : va_G} {cs : Nat → ClassId} {sz : Nat} {f : tz_PH} {u x a n b n2 w : Nat} {z : Int32} {g g2 : Nat → Int32} (hU : tz_Al f u z x) (hR : tz_Row cs f a n g) (hn : n ≤ 120) (hR2 : tz_Row cs f b n2 g2) (hn2 : n2 ≤ 120) (hab : (u < a ∨ a + 2 ≤ u) ∧ (u < b ∨ b + 2 ≤ u)) (hw : w ≤ 9) : tz_CN l tyA_shift prog_2_method_5_code 11 (some (.int)) rm_A_shift 0 0 A D cs sz [.ref u, .ref a, .ref b, .int (nI w)] f (some (.int (tz_sh g n n2 g2 (2 * w + 1)).1)) (fun f' => ∃ (z' : Int32) (x' : Nat), tz_Al f' u z' x' ∧ ∀ q, q ≠ u → f' q = f q) := by
  refine tz_C.ofB (lv0 := [(0, .ref u), (1, .ref a), (2, .ref b), (3, .int (nI w))]) (plainFor_of_name (by decide)) (Nat.le_of_ble_eq_true rfl) rfl ?_
  intro p_ e_ s_ m_ ar_ be_ me_ c_ Q_ C_ hr_ hk_ hnm_ hz_ hQ_
  have e2w : (2 : Int32) * nI w = nI (2 * w) := pk_mul 2 w
  refine tz_ldc C_ tw_596 td_A_shift_0 ?_
  refine tz_istore C_ (lv' := [(0, .ref u), (1, .ref a), (2, .ref b), (3, .int (nI w)), (4, .int (-100006))]) [1, 2, 3, 4, 0] (by decide) rfl td_A_shift_2 ?_
  refine tz_lconst C_ (v := 0) (by decide) td_A_shift_4 ?_
  refine tz_lstore C_ (lv' := [(0, .ref u), (1, .ref a), (2, .ref b), (3, .int (nI w)), (4, .int (-100006)), (5, .long 0)]) [1, 2, 3, 4, 5, 0] (by decide) rfl td_A_shift_5 ?_
  refine tz_lconst C_ (v := 1) (by decide) td_A_shift_7 ?_
  refine tz_lstore C_ (lv' := [(0, .ref u), (1, .ref a), (2, .ref b), (3, .int (nI w)), (4, .int (-100006)), (5, .long 0), (7, .long 1)]) [1, 2, 3, 4, 5, 6, 0] (by decide) rfl td_A_shift_8 ?_
  refine tz_iconst C_ (v := 0) (by decide) td_A_shift_10 ?_
  refine tz_istore C_ (lv' := [(0, .ref u), (1, .ref a), (2, .ref b), (3, .int (nI w)), (4, .int (-100006)), (5, .long 0), (7, .long 1), (9, .int 0)]) [1, 2, 3, 4, 5, 6, 7, 0] (by decide) rfl td_A_shift_11 ?_
  have loop13 : ∀ (kk13 : Nat) (z1 : Int32) (x1 : Nat) (be : Int32) (bs : Int64) (bp : Int64) (t : Nat) (f13 : tz_PH), (tz_Al f13 u z1 x1) → (tz_Row cs f13 a n g) → (tz_Row cs f13 b n2 g2) → (∀ q, q ≠ u → f13 q = f q) → (t ≤ 2 * w + 1) → ((be, bs, bp) = tz_sh g n n2 g2 t) → (2 * w + 1 - t) < kk13 → tz_V p_ l e_ rm_A_shift s_ m_ ar_ be_ me_ c_ Q_ A D 11 f13 sz 0 0 13 [(0, .ref u), (1, .ref a), (2, .ref b), (3, .int (nI w)), (4, .int be), (5, .long bs), (7, .long bp), (9, .int (nI t))] [] := by
    intro kk13
    induction kk13 with
    | zero => intro z1 x1 be bs bp t f13 hU1 hR1 hR3 hfr hi hs hm13; omega
    | succ kk13 ih13 =>
      intro z1 x1 be bs bp t f13 hU1 hR1 hR3 hfr hi hs hm13
      have hfrx : ∀ q, q ≠ u → f13 q = f q := hfr
      have hdn := tz_dn_le (g := g) (g2 := g2) (n2 := n2) (n := n) (d := tz_sd (nI t))
      refine tz_iload C_ 7 rfl td_A_shift_13 ?_
      refine tz_iconst C_ (v := 2) (by decide) td_A_shift_15 ?_
      refine tz_iload_n C_ 3 rfl rfl td_A_shift_16 ?_
      refine tz_imul C_ td_A_shift_17 ?_
      refine tz_icmp_gt C_ td_A_shift_18 (fun h18 => ?_) (fun h18 => ?_)
      · skip
        rw [e2w] at h18
        replace h18 := (nI_ltI (by omega) (by omega)).mp h18
        refine tz_iload C_ 4 rfl td_A_shift_114 ?_
        refine tz_riret C_ hr_ hk_ hQ_ rfl td_A_shift_116 ?_
        have e9 : t = 2 * w + 1 := by omega
        subst e9
        exact ⟨tz_ri (by rw [← hs]), z1, x1, hU1, hfr⟩
      · skip
        rw [e2w] at h18
        replace h18 := mt (nI_ltI (by omega) (by omega)).mpr h18
        refine tz_iload C_ 7 rfl td_A_shift_21 ?_
        refine tz_iconst C_ (v := 2) (by decide) td_A_shift_23 ?_
        refine tz_irem C_ (by decide) td_A_shift_24 ?_
        refine tz_if_ne C_ td_A_shift_25 (fun h25 => ?_) (fun h25 => ?_)
        · skip
          refine tz_iload C_ 7 rfl td_A_shift_35 ?_
          refine tz_iconst C_ (v := 1) (by decide) td_A_shift_37 ?_
          refine tz_iadd C_ td_A_shift_38 ?_
          refine tz_ineg C_ td_A_shift_39 ?_
          refine tz_iconst C_ (v := 2) (by decide) td_A_shift_40 ?_
          refine tz_idiv C_ (by decide) td_A_shift_41 ?_
          rw [← tz_sd_o h25]
          refine tz_istore C_ (lv' := [(0, .ref u), (1, .ref a), (2, .ref b), (3, .int (nI w)), (4, .int be), (5, .long bs), (7, .long bp), (9, .int (nI t)), (10, .int (tz_sd (nI t)))]) [1, 2, 3, 4, 5, 6, 7, 8, 0] (by decide) rfl td_A_shift_42 ?_
          refine tz_aload_n C_ 0 rfl rfl td_A_shift_44 ?_
          refine tz_aload_n C_ 1 rfl rfl td_A_shift_45 ?_
          refine tz_aload_n C_ 2 rfl rfl td_A_shift_46 ?_
          refine tz_iload C_ 8 rfl td_A_shift_47 ?_
          refine tz_cV C_ tmi_A_compare tw_598 tw_599 tw_597 hU1 rfl (As := [.ref a, .ref b, .int (tz_sd (nI t))]) (by exact (ct_A_compare (z := z1) (x := x1) (n := n) (g := g) (n2 := n2) (g2 := g2) hU1 ⟨hR1.1, hR1.2⟩ (by omega) ⟨hR3.1, hR3.2⟩ (by omega) (by omega))) rfl (rest := []) rfl (by decide) (Nat.le_of_ble_eq_true rfl) td_A_shift_49 (st1 := []) rfl (fun f1 hF1 => ?_)
          obtain ⟨hU2, hq2⟩ := hF1
          refine tz_aload_n C_ 0 rfl rfl td_A_shift_52 ?_
          refine tz_get C_ tci_A 1 (by decide) tw_204 hU2 rfl td_A_shift_53 ?_
          refine tz_iconst C_ (v := 4) (by decide) td_A_shift_56 ?_
          refine tz_icmp_ge C_ td_A_shift_57 (fun h57 => ?_) (fun h57 => ?_)
          · skip
            replace h57 := (nI_leI (a := 4) (b := tz_dn g n2 g2 (tz_sd (nI t)) n) (by omega) (by omega)).mp h57
            refine tz_iload C_ 4 rfl td_A_shift_63 ?_
            refine tz_ldc C_ tw_596 td_A_shift_65 ?_
            refine tz_icmp_eq C_ td_A_shift_67 (fun h67 => ?_) (fun h67 => ?_)
            · skip
              refine tz_iload C_ 8 rfl td_A_shift_90 ?_
              refine tz_istore C_ (lv' := [(0, .ref u), (1, .ref a), (2, .ref b), (3, .int (nI w)), (4, .int (tz_sd (nI t))), (5, .long bs), (7, .long bp), (9, .int (nI t)), (10, .int (tz_sd (nI t)))]) [1, 2, 3, 4, 0, 5, 6, 7, 8] (by decide) rfl td_A_shift_92 ?_
              refine tz_aload_n C_ 0 rfl rfl td_A_shift_94 ?_
              refine tz_get C_ tci_A 0 (by decide) tw_203 hU2 rfl td_A_shift_95 ?_
              refine tz_i2l C_ td_A_shift_98 ?_
              refine tz_lstore C_ (lv' := [(0, .ref u), (1, .ref a), (2, .ref b), (3, .int (nI w)), (4, .int (tz_sd (nI t))), (5, .long (Int32.toInt64 (tz_ds g n2 g2 (tz_sd (nI t)) n))), (7, .long bp), (9, .int (nI t)), (10, .int (tz_sd (nI t)))]) [1, 2, 3, 4, 5, 0, 6, 7, 8] (by decide) rfl td_A_shift_99 ?_
              refine tz_aload_n C_ 0 rfl rfl td_A_shift_101 ?_
              refine tz_get C_ tci_A 1 (by decide) tw_204 hU2 rfl td_A_shift_102 ?_
              refine tz_i2l C_ td_A_shift_105 ?_
              refine tz_lstore C_ (lv' := [(0, .ref u), (1, .ref a), (2, .ref b), (3, .int (nI w)), (4, .int (tz_sd (nI t))), (5, .long (Int32.toInt64 (tz_ds g n2 g2 (tz_sd (nI t)) n))), (7, .long (Int32.toInt64 (nI (tz_dn g n2 g2 (tz_sd (nI t)) n)))), (9, .int (nI t)), (10, .int (tz_sd (nI t)))]) [1, 2, 3, 4, 5, 6, 0, 7, 8] (by decide) rfl td_A_shift_106 ?_
              refine tz_iinc C_ (k := 1) (v := nI (t + 1)) (lv' := [(0, .ref u), (1, .ref a), (2, .ref b), (3, .int (nI w)), (4, .int (tz_sd (nI t))), (5, .long (Int32.toInt64 (tz_ds g n2 g2 (tz_sd (nI t)) n))), (7, .long (Int32.toInt64 (nI (tz_dn g n2 g2 (tz_sd (nI t)) n)))), (9, .int (nI (t + 1))), (10, .int (tz_sd (nI t)))]) 7 rfl (nI_1 t) [1, 2, 3, 4, 5, 6, 7, 0, 8] (by decide) rfl td_A_shift_108 ?_
              refine tz_goto C_ td_A_shift_111 ?_
              have k3 : f1 a = some (tz_obj 5 [.ref (a + 1), .int (nI n)]) := ((hq2 _ (by omega)).trans hR1.1)
              have k4 : f1 (a + 1) = some (tz_ints cs 120 g) := ((hq2 _ (by omega)).trans hR1.2)
              have k5 : f1 b = some (tz_obj 5 [.ref (b + 1), .int (nI n2)]) := ((hq2 _ (by omega)).trans hR3.1)
              have k6 : f1 (b + 1) = some (tz_ints cs 120 g2) := ((hq2 _ (by omega)).trans hR3.2)
              refine tz_lvs [0, 1, 2, 3, 4, 5, 6, 7] rfl ?_
              exact ih13 (tz_ds g n2 g2 (tz_sd (nI t)) n) (tz_dn g n2 g2 (tz_sd (nI t)) n) (tz_sd (nI t)) (Int32.toInt64 (tz_ds g n2 g2 (tz_sd (nI t)) n)) (Int32.toInt64 (nI (tz_dn g n2 g2 (tz_sd (nI t)) n))) (t + 1) f1 hU2 (⟨k3, k4⟩) (⟨k5, k6⟩) (fun q hh => by rw [hq2 q (by omega), hfr q (by omega)]) (by omega) (by rw [tz_sh, ← hs]; simp only []; rw [if_pos ⟨by omega, Or.inl h67⟩]) (by omega)
            · skip
              refine tz_aload_n C_ 0 rfl rfl td_A_shift_70 ?_
              refine tz_get C_ tci_A 0 (by decide) tw_203 hU2 rfl td_A_shift_71 ?_
              refine tz_i2l C_ td_A_shift_74 ?_
              refine tz_lload C_ 6 rfl td_A_shift_75 ?_
              refine tz_lmul C_ td_A_shift_77 ?_
              refine tz_lload C_ 5 rfl td_A_shift_78 ?_
              refine tz_aload_n C_ 0 rfl rfl td_A_shift_80 ?_
              refine tz_get C_ tci_A 1 (by decide) tw_204 hU2 rfl td_A_shift_81 ?_
              refine tz_i2l C_ td_A_shift_84 ?_
              refine tz_lmul C_ td_A_shift_85 ?_
              refine tz_lcmp C_ td_A_shift_86 ?_
              refine tz_if_ge C_ td_A_shift_87 (fun h87 => ?_) (fun h87 => ?_)
              · skip
                refine tz_iinc C_ (k := 1) (v := nI (t + 1)) (lv' := [(0, .ref u), (1, .ref a), (2, .ref b), (3, .int (nI w)), (4, .int be), (5, .long bs), (7, .long bp), (9, .int (nI (t + 1))), (10, .int (tz_sd (nI t)))]) 7 rfl (nI_1 t) [1, 2, 3, 4, 5, 6, 7, 0, 8] (by decide) rfl td_A_shift_108 ?_
                refine tz_goto C_ td_A_shift_111 ?_
                have k7 : f1 a = some (tz_obj 5 [.ref (a + 1), .int (nI n)]) := ((hq2 _ (by omega)).trans hR1.1)
                have k8 : f1 (a + 1) = some (tz_ints cs 120 g) := ((hq2 _ (by omega)).trans hR1.2)
                have k9 : f1 b = some (tz_obj 5 [.ref (b + 1), .int (nI n2)]) := ((hq2 _ (by omega)).trans hR3.1)
                have k10 : f1 (b + 1) = some (tz_ints cs 120 g2) := ((hq2 _ (by omega)).trans hR3.2)
                refine tz_lvs [0, 1, 2, 3, 4, 5, 6, 7] rfl ?_
                exact ih13 (tz_ds g n2 g2 (tz_sd (nI t)) n) (tz_dn g n2 g2 (tz_sd (nI t)) n) be bs bp (t + 1) f1 hU2 (⟨k7, k8⟩) (⟨k9, k10⟩) (fun q hh => by rw [hq2 q (by omega), hfr q (by omega)]) (by omega) (by rw [tz_sh, ← hs]; simp only []; rw [if_neg (by rintro ⟨-, h | h⟩; exact h67 h; exact lg_le_not_lt ((lg_cmp_ge _ _).mp h87) h)]) (by omega)
              · skip
                refine tz_iload C_ 8 rfl td_A_shift_90 ?_
                refine tz_istore C_ (lv' := [(0, .ref u), (1, .ref a), (2, .ref b), (3, .int (nI w)), (4, .int (tz_sd (nI t))), (5, .long bs), (7, .long bp), (9, .int (nI t)), (10, .int (tz_sd (nI t)))]) [1, 2, 3, 4, 0, 5, 6, 7, 8] (by decide) rfl td_A_shift_92 ?_
                refine tz_aload_n C_ 0 rfl rfl td_A_shift_94 ?_
                refine tz_get C_ tci_A 0 (by decide) tw_203 hU2 rfl td_A_shift_95 ?_
                refine tz_i2l C_ td_A_shift_98 ?_
                refine tz_lstore C_ (lv' := [(0, .ref u), (1, .ref a), (2, .ref b), (3, .int (nI w)), (4, .int (tz_sd (nI t))), (5, .long (Int32.toInt64 (tz_ds g n2 g2 (tz_sd (nI t)) n))), (7, .long bp), (9, .int (nI t)), (10, .int (tz_sd (nI t)))]) [1, 2, 3, 4, 5, 0, 6, 7, 8] (by decide) rfl td_A_shift_99 ?_
                refine tz_aload_n C_ 0 rfl rfl td_A_shift_101 ?_
                refine tz_get C_ tci_A 1 (by decide) tw_204 hU2 rfl td_A_shift_102 ?_
                refine tz_i2l C_ td_A_shift_105 ?_
                refine tz_lstore C_ (lv' := [(0, .ref u), (1, .ref a), (2, .ref b), (3, .int (nI w)), (4, .int (tz_sd (nI t))), (5, .long (Int32.toInt64 (tz_ds g n2 g2 (tz_sd (nI t)) n))), (7, .long (Int32.toInt64 (nI (tz_dn g n2 g2 (tz_sd (nI t)) n)))), (9, .int (nI t)), (10, .int (tz_sd (nI t)))]) [1, 2, 3, 4, 5, 6, 0, 7, 8] (by decide) rfl td_A_shift_106 ?_
                refine tz_iinc C_ (k := 1) (v := nI (t + 1)) (lv' := [(0, .ref u), (1, .ref a), (2, .ref b), (3, .int (nI w)), (4, .int (tz_sd (nI t))), (5, .long (Int32.toInt64 (tz_ds g n2 g2 (tz_sd (nI t)) n))), (7, .long (Int32.toInt64 (nI (tz_dn g n2 g2 (tz_sd (nI t)) n)))), (9, .int (nI (t + 1))), (10, .int (tz_sd (nI t)))]) 7 rfl (nI_1 t) [1, 2, 3, 4, 5, 6, 7, 0, 8] (by decide) rfl td_A_shift_108 ?_
                refine tz_goto C_ td_A_shift_111 ?_
                have k11 : f1 a = some (tz_obj 5 [.ref (a + 1), .int (nI n)]) := ((hq2 _ (by omega)).trans hR1.1)
                have k12 : f1 (a + 1) = some (tz_ints cs 120 g) := ((hq2 _ (by omega)).trans hR1.2)
                have k13 : f1 b = some (tz_obj 5 [.ref (b + 1), .int (nI n2)]) := ((hq2 _ (by omega)).trans hR3.1)
                have k14 : f1 (b + 1) = some (tz_ints cs 120 g2) := ((hq2 _ (by omega)).trans hR3.2)
                refine tz_lvs [0, 1, 2, 3, 4, 5, 6, 7] rfl ?_
                exact ih13 (tz_ds g n2 g2 (tz_sd (nI t)) n) (tz_dn g n2 g2 (tz_sd (nI t)) n) (tz_sd (nI t)) (Int32.toInt64 (tz_ds g n2 g2 (tz_sd (nI t)) n)) (Int32.toInt64 (nI (tz_dn g n2 g2 (tz_sd (nI t)) n))) (t + 1) f1 hU2 (⟨k11, k12⟩) (⟨k13, k14⟩) (fun q hh => by rw [hq2 q (by omega), hfr q (by omega)]) (by omega) (by rw [tz_sh, ← hs]; simp only []; rw [if_pos ⟨by omega, Or.inr ((lg_cmp_lt _ _).mp (Int32.not_le.mp h87))⟩]) (by omega)
          · skip
            replace h57 := mt (nI_leI (a := 4) (b := tz_dn g n2 g2 (tz_sd (nI t)) n) (by omega) (by omega)).mpr h57
            refine tz_goto C_ td_A_shift_60 ?_
            refine tz_iinc C_ (k := 1) (v := nI (t + 1)) (lv' := [(0, .ref u), (1, .ref a), (2, .ref b), (3, .int (nI w)), (4, .int be), (5, .long bs), (7, .long bp), (9, .int (nI (t + 1))), (10, .int (tz_sd (nI t)))]) 7 rfl (nI_1 t) [1, 2, 3, 4, 5, 6, 7, 0, 8] (by decide) rfl td_A_shift_108 ?_
            refine tz_goto C_ td_A_shift_111 ?_
            have k15 : f1 a = some (tz_obj 5 [.ref (a + 1), .int (nI n)]) := ((hq2 _ (by omega)).trans hR1.1)
            have k16 : f1 (a + 1) = some (tz_ints cs 120 g) := ((hq2 _ (by omega)).trans hR1.2)
            have k17 : f1 b = some (tz_obj 5 [.ref (b + 1), .int (nI n2)]) := ((hq2 _ (by omega)).trans hR3.1)
            have k18 : f1 (b + 1) = some (tz_ints cs 120 g2) := ((hq2 _ (by omega)).trans hR3.2)
            refine tz_lvs [0, 1, 2, 3, 4, 5, 6, 7] rfl ?_
            exact ih13 (tz_ds g n2 g2 (tz_sd (nI t)) n) (tz_dn g n2 g2 (tz_sd (nI t)) n) be bs bp (t + 1) f1 hU2 (⟨k15, k16⟩) (⟨k17, k18⟩) (fun q hh => by rw [hq2 q (by omega), hfr q (by omega)]) (by omega) (by rw [tz_sh, ← hs]; simp only []; rw [if_neg (by omega)]) (by omega)
        · skip
          refine tz_iload C_ 7 rfl td_A_shift_28 ?_
          refine tz_iconst C_ (v := 2) (by decide) td_A_shift_30 ?_
          refine tz_idiv C_ (by decide) td_A_shift_31 ?_
          refine tz_goto C_ td_A_shift_32 ?_
          rw [← tz_sd_e h25]
          refine tz_istore C_ (lv' := [(0, .ref u), (1, .ref a), (2, .ref b), (3, .int (nI w)), (4, .int be), (5, .long bs), (7, .long bp), (9, .int (nI t)), (10, .int (tz_sd (nI t)))]) [1, 2, 3, 4, 5, 6, 7, 8, 0] (by decide) rfl td_A_shift_42 ?_
          refine tz_aload_n C_ 0 rfl rfl td_A_shift_44 ?_
          refine tz_aload_n C_ 1 rfl rfl td_A_shift_45 ?_
          refine tz_aload_n C_ 2 rfl rfl td_A_shift_46 ?_
          refine tz_iload C_ 8 rfl td_A_shift_47 ?_
          refine tz_cV C_ tmi_A_compare tw_598 tw_599 tw_597 hU1 rfl (As := [.ref a, .ref b, .int (tz_sd (nI t))]) (by exact (ct_A_compare (z := z1) (x := x1) (n := n) (g := g) (n2 := n2) (g2 := g2) hU1 ⟨hR1.1, hR1.2⟩ (by omega) ⟨hR3.1, hR3.2⟩ (by omega) (by omega))) rfl (rest := []) rfl (by decide) (Nat.le_of_ble_eq_true rfl) td_A_shift_49 (st1 := []) rfl (fun f19 hF19 => ?_)
          obtain ⟨hU20, hq20⟩ := hF19
          refine tz_aload_n C_ 0 rfl rfl td_A_shift_52 ?_
          refine tz_get C_ tci_A 1 (by decide) tw_204 hU20 rfl td_A_shift_53 ?_
          refine tz_iconst C_ (v := 4) (by decide) td_A_shift_56 ?_
          refine tz_icmp_ge C_ td_A_shift_57 (fun h57 => ?_) (fun h57 => ?_)
          · skip
            replace h57 := (nI_leI (a := 4) (b := tz_dn g n2 g2 (tz_sd (nI t)) n) (by omega) (by omega)).mp h57
            refine tz_iload C_ 4 rfl td_A_shift_63 ?_
            refine tz_ldc C_ tw_596 td_A_shift_65 ?_
            refine tz_icmp_eq C_ td_A_shift_67 (fun h67 => ?_) (fun h67 => ?_)
            · skip
              refine tz_iload C_ 8 rfl td_A_shift_90 ?_
              refine tz_istore C_ (lv' := [(0, .ref u), (1, .ref a), (2, .ref b), (3, .int (nI w)), (4, .int (tz_sd (nI t))), (5, .long bs), (7, .long bp), (9, .int (nI t)), (10, .int (tz_sd (nI t)))]) [1, 2, 3, 4, 0, 5, 6, 7, 8] (by decide) rfl td_A_shift_92 ?_
              refine tz_aload_n C_ 0 rfl rfl td_A_shift_94 ?_
              refine tz_get C_ tci_A 0 (by decide) tw_203 hU20 rfl td_A_shift_95 ?_
              refine tz_i2l C_ td_A_shift_98 ?_
              refine tz_lstore C_ (lv' := [(0, .ref u), (1, .ref a), (2, .ref b), (3, .int (nI w)), (4, .int (tz_sd (nI t))), (5, .long (Int32.toInt64 (tz_ds g n2 g2 (tz_sd (nI t)) n))), (7, .long bp), (9, .int (nI t)), (10, .int (tz_sd (nI t)))]) [1, 2, 3, 4, 5, 0, 6, 7, 8] (by decide) rfl td_A_shift_99 ?_
              refine tz_aload_n C_ 0 rfl rfl td_A_shift_101 ?_
              refine tz_get C_ tci_A 1 (by decide) tw_204 hU20 rfl td_A_shift_102 ?_
              refine tz_i2l C_ td_A_shift_105 ?_
              refine tz_lstore C_ (lv' := [(0, .ref u), (1, .ref a), (2, .ref b), (3, .int (nI w)), (4, .int (tz_sd (nI t))), (5, .long (Int32.toInt64 (tz_ds g n2 g2 (tz_sd (nI t)) n))), (7, .long (Int32.toInt64 (nI (tz_dn g n2 g2 (tz_sd (nI t)) n)))), (9, .int (nI t)), (10, .int (tz_sd (nI t)))]) [1, 2, 3, 4, 5, 6, 0, 7, 8] (by decide) rfl td_A_shift_106 ?_
              refine tz_iinc C_ (k := 1) (v := nI (t + 1)) (lv' := [(0, .ref u), (1, .ref a), (2, .ref b), (3, .int (nI w)), (4, .int (tz_sd (nI t))), (5, .long (Int32.toInt64 (tz_ds g n2 g2 (tz_sd (nI t)) n))), (7, .long (Int32.toInt64 (nI (tz_dn g n2 g2 (tz_sd (nI t)) n)))), (9, .int (nI (t + 1))), (10, .int (tz_sd (nI t)))]) 7 rfl (nI_1 t) [1, 2, 3, 4, 5, 6, 7, 0, 8] (by decide) rfl td_A_shift_108 ?_
              refine tz_goto C_ td_A_shift_111 ?_
              have k21 : f19 a = some (tz_obj 5 [.ref (a + 1), .int (nI n)]) := ((hq20 _ (by omega)).trans hR1.1)
              have k22 : f19 (a + 1) = some (tz_ints cs 120 g) := ((hq20 _ (by omega)).trans hR1.2)
              have k23 : f19 b = some (tz_obj 5 [.ref (b + 1), .int (nI n2)]) := ((hq20 _ (by omega)).trans hR3.1)
              have k24 : f19 (b + 1) = some (tz_ints cs 120 g2) := ((hq20 _ (by omega)).trans hR3.2)
              refine tz_lvs [0, 1, 2, 3, 4, 5, 6, 7] rfl ?_
              exact ih13 (tz_ds g n2 g2 (tz_sd (nI t)) n) (tz_dn g n2 g2 (tz_sd (nI t)) n) (tz_sd (nI t)) (Int32.toInt64 (tz_ds g n2 g2 (tz_sd (nI t)) n)) (Int32.toInt64 (nI (tz_dn g n2 g2 (tz_sd (nI t)) n))) (t + 1) f19 hU20 (⟨k21, k22⟩) (⟨k23, k24⟩) (fun q hh => by rw [hq20 q (by omega), hfr q (by omega)]) (by omega) (by rw [tz_sh, ← hs]; simp only []; rw [if_pos ⟨by omega, Or.inl h67⟩]) (by omega)
            · skip
              refine tz_aload_n C_ 0 rfl rfl td_A_shift_70 ?_
              refine tz_get C_ tci_A 0 (by decide) tw_203 hU20 rfl td_A_shift_71 ?_
              refine tz_i2l C_ td_A_shift_74 ?_
              refine tz_lload C_ 6 rfl td_A_shift_75 ?_
              refine tz_lmul C_ td_A_shift_77 ?_
              refine tz_lload C_ 5 rfl td_A_shift_78 ?_
              refine tz_aload_n C_ 0 rfl rfl td_A_shift_80 ?_
              refine tz_get C_ tci_A 1 (by decide) tw_204 hU20 rfl td_A_shift_81 ?_
              refine tz_i2l C_ td_A_shift_84 ?_
              refine tz_lmul C_ td_A_shift_85 ?_
              refine tz_lcmp C_ td_A_shift_86 ?_
              refine tz_if_ge C_ td_A_shift_87 (fun h87 => ?_) (fun h87 => ?_)
              · skip
                refine tz_iinc C_ (k := 1) (v := nI (t + 1)) (lv' := [(0, .ref u), (1, .ref a), (2, .ref b), (3, .int (nI w)), (4, .int be), (5, .long bs), (7, .long bp), (9, .int (nI (t + 1))), (10, .int (tz_sd (nI t)))]) 7 rfl (nI_1 t) [1, 2, 3, 4, 5, 6, 7, 0, 8] (by decide) rfl td_A_shift_108 ?_
                refine tz_goto C_ td_A_shift_111 ?_
                have k25 : f19 a = some (tz_obj 5 [.ref (a + 1), .int (nI n)]) := ((hq20 _ (by omega)).trans hR1.1)
                have k26 : f19 (a + 1) = some (tz_ints cs 120 g) := ((hq20 _ (by omega)).trans hR1.2)
                have k27 : f19 b = some (tz_obj 5 [.ref (b + 1), .int (nI n2)]) := ((hq20 _ (by omega)).trans hR3.1)
                have k28 : f19 (b + 1) = some (tz_ints cs 120 g2) := ((hq20 _ (by omega)).trans hR3.2)
                refine tz_lvs [0, 1, 2, 3, 4, 5, 6, 7] rfl ?_
                exact ih13 (tz_ds g n2 g2 (tz_sd (nI t)) n) (tz_dn g n2 g2 (tz_sd (nI t)) n) be bs bp (t + 1) f19 hU20 (⟨k25, k26⟩) (⟨k27, k28⟩) (fun q hh => by rw [hq20 q (by omega), hfr q (by omega)]) (by omega) (by rw [tz_sh, ← hs]; simp only []; rw [if_neg (by rintro ⟨-, h | h⟩; exact h67 h; exact lg_le_not_lt ((lg_cmp_ge _ _).mp h87) h)]) (by omega)
              · skip
                refine tz_iload C_ 8 rfl td_A_shift_90 ?_
                refine tz_istore C_ (lv' := [(0, .ref u), (1, .ref a), (2, .ref b), (3, .int (nI w)), (4, .int (tz_sd (nI t))), (5, .long bs), (7, .long bp), (9, .int (nI t)), (10, .int (tz_sd (nI t)))]) [1, 2, 3, 4, 0, 5, 6, 7, 8] (by decide) rfl td_A_shift_92 ?_
                refine tz_aload_n C_ 0 rfl rfl td_A_shift_94 ?_
                refine tz_get C_ tci_A 0 (by decide) tw_203 hU20 rfl td_A_shift_95 ?_
                refine tz_i2l C_ td_A_shift_98 ?_
                refine tz_lstore C_ (lv' := [(0, .ref u), (1, .ref a), (2, .ref b), (3, .int (nI w)), (4, .int (tz_sd (nI t))), (5, .long (Int32.toInt64 (tz_ds g n2 g2 (tz_sd (nI t)) n))), (7, .long bp), (9, .int (nI t)), (10, .int (tz_sd (nI t)))]) [1, 2, 3, 4, 5, 0, 6, 7, 8] (by decide) rfl td_A_shift_99 ?_
                refine tz_aload_n C_ 0 rfl rfl td_A_shift_101 ?_
                refine tz_get C_ tci_A 1 (by decide) tw_204 hU20 rfl td_A_shift_102 ?_
                refine tz_i2l C_ td_A_shift_105 ?_
                refine tz_lstore C_ (lv' := [(0, .ref u), (1, .ref a), (2, .ref b), (3, .int (nI w)), (4, .int (tz_sd (nI t))), (5, .long (Int32.toInt64 (tz_ds g n2 g2 (tz_sd (nI t)) n))), (7, .long (Int32.toInt64 (nI (tz_dn g n2 g2 (tz_sd (nI t)) n)))), (9, .int (nI t)), (10, .int (tz_sd (nI t)))]) [1, 2, 3, 4, 5, 6, 0, 7, 8] (by decide) rfl td_A_shift_106 ?_
                refine tz_iinc C_ (k := 1) (v := nI (t + 1)) (lv' := [(0, .ref u), (1, .ref a), (2, .ref b), (3, .int (nI w)), (4, .int (tz_sd (nI t))), (5, .long (Int32.toInt64 (tz_ds g n2 g2 (tz_sd (nI t)) n))), (7, .long (Int32.toInt64 (nI (tz_dn g n2 g2 (tz_sd (nI t)) n)))), (9, .int (nI (t + 1))), (10, .int (tz_sd (nI t)))]) 7 rfl (nI_1 t) [1, 2, 3, 4, 5, 6, 7, 0, 8] (by decide) rfl td_A_shift_108 ?_
                refine tz_goto C_ td_A_shift_111 ?_
                have k29 : f19 a = some (tz_obj 5 [.ref (a + 1), .int (nI n)]) := ((hq20 _ (by omega)).trans hR1.1)
                have k30 : f19 (a + 1) = some (tz_ints cs 120 g) := ((hq20 _ (by omega)).trans hR1.2)
                have k31 : f19 b = some (tz_obj 5 [.ref (b + 1), .int (nI n2)]) := ((hq20 _ (by omega)).trans hR3.1)
                have k32 : f19 (b + 1) = some (tz_ints cs 120 g2) := ((hq20 _ (by omega)).trans hR3.2)
                refine tz_lvs [0, 1, 2, 3, 4, 5, 6, 7] rfl ?_
                exact ih13 (tz_ds g n2 g2 (tz_sd (nI t)) n) (tz_dn g n2 g2 (tz_sd (nI t)) n) (tz_sd (nI t)) (Int32.toInt64 (tz_ds g n2 g2 (tz_sd (nI t)) n)) (Int32.toInt64 (nI (tz_dn g n2 g2 (tz_sd (nI t)) n))) (t + 1) f19 hU20 (⟨k29, k30⟩) (⟨k31, k32⟩) (fun q hh => by rw [hq20 q (by omega), hfr q (by omega)]) (by omega) (by rw [tz_sh, ← hs]; simp only []; rw [if_pos ⟨by omega, Or.inr ((lg_cmp_lt _ _).mp (Int32.not_le.mp h87))⟩]) (by omega)
          · skip
            replace h57 := mt (nI_leI (a := 4) (b := tz_dn g n2 g2 (tz_sd (nI t)) n) (by omega) (by omega)).mpr h57
            refine tz_goto C_ td_A_shift_60 ?_
            refine tz_iinc C_ (k := 1) (v := nI (t + 1)) (lv' := [(0, .ref u), (1, .ref a), (2, .ref b), (3, .int (nI w)), (4, .int be), (5, .long bs), (7, .long bp), (9, .int (nI (t + 1))), (10, .int (tz_sd (nI t)))]) 7 rfl (nI_1 t) [1, 2, 3, 4, 5, 6, 7, 0, 8] (by decide) rfl td_A_shift_108 ?_
            refine tz_goto C_ td_A_shift_111 ?_
            have k33 : f19 a = some (tz_obj 5 [.ref (a + 1), .int (nI n)]) := ((hq20 _ (by omega)).trans hR1.1)
            have k34 : f19 (a + 1) = some (tz_ints cs 120 g) := ((hq20 _ (by omega)).trans hR1.2)
            have k35 : f19 b = some (tz_obj 5 [.ref (b + 1), .int (nI n2)]) := ((hq20 _ (by omega)).trans hR3.1)
            have k36 : f19 (b + 1) = some (tz_ints cs 120 g2) := ((hq20 _ (by omega)).trans hR3.2)
            refine tz_lvs [0, 1, 2, 3, 4, 5, 6, 7] rfl ?_
            exact ih13 (tz_ds g n2 g2 (tz_sd (nI t)) n) (tz_dn g n2 g2 (tz_sd (nI t)) n) be bs bp (t + 1) f19 hU20 (⟨k33, k34⟩) (⟨k35, k36⟩) (fun q hh => by rw [hq20 q (by omega), hfr q (by omega)]) (by omega) (by rw [tz_sh, ← hs]; simp only []; rw [if_neg (by omega)]) (by omega)
  exact loop13 _ z x (-100006) 0 1 0 f hU (⟨hR.1, hR.2⟩) (⟨hR2.1, hR2.2⟩) (fun q hh => rfl) (by omega) rfl (Nat.lt_succ_self _)
