
def tz_Pl (cs : Nat → ClassId) (f : tz_PH) (a r x : Nat) (fo z : Int32) (k tn : Nat) (tg : Nat → Int32) (n : Nat) (g : Nat → Int32) (n2 : Nat) (g2 : Nat → Int32) : Prop :=
  f a = some (tz_obj 4 [.ref (a + 1), .ref (a + 2), .ref r, .ref x, .int fo]) ∧ tz_Al f (a + 1) z k ∧ tz_Tu cs f (a + 2) tn tg ∧ tz_Row cs f r n g ∧ tz_Row cs f x n2 g2 ∧ ((r = a + 4 ∧ x = a + 6) ∨ (r = a + 6 ∧ x = a + 4))
theorem tz_Tu.fr {cs : Nat → ClassId} {f f' : tz_PH} {a n : Nat} {g : Nat → Int32} (h : tz_Tu cs f a n g) (hq : ∀ q, a ≤ q → q < a + 2 → f' q = f q) : tz_Tu cs f' a n g := ⟨(hq _ (by omega) (by omega)).trans h.1, (hq _ (by omega) (by omega)).trans h.2⟩
theorem tz_Pl.fr {cs : Nat → ClassId} {f f' : tz_PH} {a r x k tn n n2 : Nat} {fo z : Int32} {tg g g2 : Nat → Int32} (h : tz_Pl cs f a r x fo z k tn tg n g n2 g2) (hq : ∀ q, a ≤ q → q < a + 8 → f' q = f q) : tz_Pl cs f' a r x fo z k tn tg n g n2 g2 := by
  obtain ⟨h1, h2, h3, h4, h5, h6⟩ := h
  exact ⟨(hq _ (by omega) (by omega)).trans h1, (hq _ (by omega) (by omega)).trans h2, h3.fr (fun q a b => hq q (by omega) (by omega)), h4.fr (fun q a b => hq q (by omega) (by omega)), h5.fr (fun q a b => hq q (by omega) (by omega)), h6⟩
theorem tz_flr {cs : Nat → ClassId} {F : Option va_E} {h g : Nat → Int32} {i : Nat} {v : Int32} (h1 : F = some (tz_ints cs 120 (upd (tz_fl h g i) i v))) (hv : v = h i) : F = some (tz_ints cs 120 (tz_fl h g (i + 1))) := by rw [h1, tz_fl_s h g i hv]
def tz_gn (v y : Int32) : Int32 := if y = tz_LO then tz_LO else tz_mx (-10000) (tz_mn 10000 (y * v / 100))
def tz_md (n : Nat) (g : Nat → Int32) (v : Int32) : Nat → Int32 := fun j => if tz_click n g (nI j) v then (tz_at n g (nI j - 1) + tz_at n g (nI j + 1)) / 2 else g j
def tz_fa (g : Nat → Int32) (v : Int32) : Nat → Int32 := fun j => if ¬ g j = tz_LO ∧ nI j < v then g j * (nI j + 1) / (v + 1) else g j

abbrev rm_P_gain : Room := { frames := 1, cells := 0, slots := 0, locals := 21 }
set_option maxHeartbeats 4000000 in
set_option maxRecDepth 100000 in
theorem ct_P_gain {l : Launch} {A : Nat → Prop} {D : va_G} {cs : Nat → ClassId} {sz : Nat} {f : tz_PH} {a r x k tn n : Nat} {fo z : Int32} {tg g g2 : Nat → Int32} (hP : tz_Pl cs f a r x fo z k tn tg n g 0 g2) (hn : n ≤ 120) {v : Int32} : tz_CN l tyP_gain prog_6_method_5_code 4 (none) rm_P_gain 0 0 A D cs sz [.ref a, .int v] f (none) (fun f' => tz_Row cs f' x n (tz_fl (fun j => tz_gn v (g j)) g2 n) ∧ ∀ q, (q < x ∨ x + 2 ≤ q) → f' q = f q) := by
  refine tz_C.ofB (lv0 := [(0, .ref a), (1, .int v)]) (plainFor_of_name (by decide)) (Nat.le_of_ble_eq_true rfl) rfl ?_
  intro p_ e_ s_ m_ ar_ be_ me_ c_ Q_ C_ hr_ hk_ hnm_ hz_ hQ_
  have hrx := hP.2.2.2.2.2
  refine tz_iconst C_ (v := 0) (by decide) td_P_gain_0 ?_
  refine tz_istore_n C_ (lv' := [(0, .ref a), (1, .int v), (2, .int 0)]) [1, 2, 0] rfl (by decide) rfl td_P_gain_1 ?_
  have loop2 : ∀ (kk2 : Nat) (i : Nat) (fL : tz_PH), (fL a = some (tz_obj 4 [.ref (a + 1), .ref (a + 2), .ref r, .ref x, .int fo])) → (tz_Row cs fL r n g) → (tz_Row cs fL x i (tz_fl (fun j => tz_gn v (g j)) g2 i)) → (∀ q, (q < x ∨ x + 2 ≤ q) → fL q = f q) → (i ≤ n) → (n - i) < kk2 → tz_V p_ l e_ rm_P_gain s_ m_ ar_ be_ me_ c_ Q_ A D 4 fL sz 0 0 2 [(0, .ref a), (1, .int v), (2, .int (nI i))] [] := by
    intro kk2
    induction kk2 with
    | zero => intro i fL ha hr hX hfr hi hm2; omega
    | succ kk2 ih2 =>
      intro i fL ha hr hX hfr hi hm2
      refine tz_iload_n C_ 2 rfl rfl td_P_gain_2 ?_
      refine tz_aload_n C_ 0 rfl rfl td_P_gain_3 ?_
      refine tz_get C_ tci_P 2 (by decide) tw_224 ha rfl td_P_gain_4 ?_
      refine tz_rV C_ tmi_R_length tw_308 tw_309 tw_576 hr.1 rfl (As := []) (by exact (ct_R_length (n := n) (g := g) ⟨hr.1, hr.2⟩)) rfl (rest := [.int (nI i)]) rfl (by decide) (Nat.le_of_ble_eq_true rfl) td_P_gain_7 (st1 := [.int (nI n), .int (nI i)]) rfl ?_
      refine tz_icmp_ge C_ td_P_gain_10 (fun h10 => ?_) (fun h10 => ?_)
      · skip
        replace h10 := (nI_leI (a := n) (b := i) (by omega) (by omega)).mp h10
        refine tz_rvret C_ hr_ hk_ hQ_ rfl td_P_gain_64 ?_
        have e9 : i = n := by omega
        subst e9
        exact ⟨rfl, hX, hfr⟩
      · skip
        replace h10 := mt (nI_leI (a := n) (b := i) (by omega) (by omega)).mpr h10
        refine tz_aload_n C_ 0 rfl rfl td_P_gain_13 ?_
        refine tz_get C_ tci_P 2 (by decide) tw_224 ha rfl td_P_gain_14 ?_
        refine tz_iload_n C_ 2 rfl rfl td_P_gain_17 ?_
        refine tz_rV C_ tmi_R_at tw_332 tw_333 tw_577 hr.1 rfl (As := [.int (nI i)]) (by exact (ct_R_atN (n := n) (g := g) ⟨hr.1, hr.2⟩ (by omega) (by omega))) rfl (rest := []) rfl (by decide) (Nat.le_of_ble_eq_true rfl) td_P_gain_18 (st1 := [.int (g i)]) rfl ?_
        refine tz_istore_n C_ (lv' := [(0, .ref a), (1, .int v), (2, .int (nI i)), (3, .int (g i))]) [1, 2, 3, 0] rfl (by decide) rfl td_P_gain_21 ?_
        refine tz_aload_n C_ 0 rfl rfl td_P_gain_22 ?_
        refine tz_get C_ tci_P 3 (by decide) tw_225 ha rfl td_P_gain_23 ?_
        refine tz_iload_n C_ 3 rfl rfl td_P_gain_26 ?_
        refine tz_ldc C_ tw_578 td_P_gain_27 ?_
        refine tz_icmp_ne C_ td_P_gain_29 (fun h29 => ?_) (fun h29 => ?_)
        · skip
          refine tz_sipush C_ (v := -10000) (by decide) td_P_gain_37 ?_
          refine tz_sipush C_ (v := 10000) (by decide) td_P_gain_40 ?_
          refine tz_iload_n C_ 3 rfl rfl td_P_gain_43 ?_
          refine tz_iload_n C_ 1 rfl rfl td_P_gain_44 ?_
          refine tz_imul C_ td_P_gain_45 ?_
          refine tz_bipush C_ (v := 100) (by decide) td_P_gain_46 ?_
          refine tz_idiv C_ (by decide) td_P_gain_48 ?_
          refine tz_rS C_ tmi_J_min tw_305 tw_579 (As := [.int 10000, .int (((g i) * v) / 100)]) (by exact ct_J_min) rfl (rest := [.int (-10000), .ref x]) rfl (by decide) (Nat.le_of_ble_eq_true rfl) td_P_gain_49 (st1 := [.int (tz_mn 10000 (((g i) * v) / 100)), .int (-10000), .ref x]) rfl ?_
          refine tz_rS C_ tmi_J_max tw_318 tw_580 (As := [.int (-10000), .int (tz_mn 10000 (((g i) * v) / 100))]) (by exact ct_J_max) rfl (rest := [.ref x]) rfl (by decide) (Nat.le_of_ble_eq_true rfl) td_P_gain_52 (st1 := [.int (tz_mx (-10000) (tz_mn 10000 (((g i) * v) / 100))), .ref x]) rfl ?_
          refine tz_cV C_ tmi_R_add tw_463 tw_464 tw_581 hX.1 rfl (As := [.int (tz_mx (-10000) (tz_mn 10000 (((g i) * v) / 100)))]) (by exact (ct_R_add (n := i) (g := tz_fl (fun j => tz_gn v (g j)) g2 i) ⟨hX.1, hX.2⟩ (by omega))) rfl (rest := []) rfl (by decide) (Nat.le_of_ble_eq_true rfl) td_P_gain_55 (st1 := []) rfl (fun f1 hF1 => ?_)
          obtain ⟨hP2, hq2⟩ := hF1
          refine tz_iinc C_ (k := 1) (v := nI (i + 1)) (lv' := [(0, .ref a), (1, .int v), (2, .int (nI (i + 1))), (3, .int (g i))]) 2 rfl (nI_1 i) [1, 2, 0, 3] (by decide) rfl td_P_gain_58 ?_
          refine tz_goto C_ td_P_gain_61 ?_
          have k3 : f1 a = some (tz_obj 4 [.ref (a + 1), .ref (a + 2), .ref r, .ref x, .int fo]) := ((hq2 _ (by omega)).trans ha)
          have k4 : f1 r = some (tz_obj 5 [.ref (r + 1), .int (nI n)]) := ((hq2 _ (by omega)).trans hr.1)
          have k5 : f1 (r + 1) = some (tz_ints cs 120 g) := ((hq2 _ (by omega)).trans hr.2)
          refine tz_lvs [0, 1, 2] rfl ?_
          exact ih2 (i + 1) f1 k3 (⟨k4, k5⟩) (⟨hP2.1, tz_flr hP2.2 (by simp only [tz_gn]; first | rw [if_pos h29] | rw [if_neg h29])⟩) (fun q hh => by rw [hq2 q (by omega), hfr q (by omega)]) (by omega) (by omega)
        · skip
          refine tz_ldc C_ tw_578 td_P_gain_32 ?_
          refine tz_goto C_ td_P_gain_34 ?_
          refine tz_cV C_ tmi_R_add tw_463 tw_464 tw_581 hX.1 rfl (As := [.int (-100007)]) (by exact (ct_R_add (n := i) (g := tz_fl (fun j => tz_gn v (g j)) g2 i) ⟨hX.1, hX.2⟩ (by omega))) rfl (rest := []) rfl (by decide) (Nat.le_of_ble_eq_true rfl) td_P_gain_55 (st1 := []) rfl (fun f6 hF6 => ?_)
          obtain ⟨hP7, hq7⟩ := hF6
          refine tz_iinc C_ (k := 1) (v := nI (i + 1)) (lv' := [(0, .ref a), (1, .int v), (2, .int (nI (i + 1))), (3, .int (g i))]) 2 rfl (nI_1 i) [1, 2, 0, 3] (by decide) rfl td_P_gain_58 ?_
          refine tz_goto C_ td_P_gain_61 ?_
          have k8 : f6 a = some (tz_obj 4 [.ref (a + 1), .ref (a + 2), .ref r, .ref x, .int fo]) := ((hq7 _ (by omega)).trans ha)
          have k9 : f6 r = some (tz_obj 5 [.ref (r + 1), .int (nI n)]) := ((hq7 _ (by omega)).trans hr.1)
          have k10 : f6 (r + 1) = some (tz_ints cs 120 g) := ((hq7 _ (by omega)).trans hr.2)
          refine tz_lvs [0, 1, 2] rfl ?_
          exact ih2 (i + 1) f6 k8 (⟨k9, k10⟩) (⟨hP7.1, tz_flr hP7.2 (by simp only [tz_gn]; first | rw [if_pos h29] | rw [if_neg h29])⟩) (fun q hh => by rw [hq7 q (by omega), hfr q (by omega)]) (by omega) (by omega)
  exact loop2 _ 0 f hP.1 (⟨hP.2.2.2.1.1, hP.2.2.2.1.2⟩) (by rw [tz_fl_0]; exact ⟨hP.2.2.2.2.1.1, hP.2.2.2.2.1.2⟩) (fun q hh => rfl) (Nat.zero_le _) (Nat.lt_succ_self _)

abbrev rm_P_mend : Room := { frames := 2, cells := 0, slots := 0, locals := 44 }
set_option maxHeartbeats 4000000 in
set_option maxRecDepth 100000 in
theorem ct_P_mend {l : Launch} {A : Nat → Prop} {D : va_G} {cs : Nat → ClassId} {sz : Nat} {f : tz_PH} {a r x k tn n : Nat} {fo z : Int32} {tg g g2 : Nat → Int32} (hP : tz_Pl cs f a r x fo z k tn tg n g 0 g2) (hn : n ≤ 120) {v : Int32} : tz_CN l tyP_mend prog_6_method_6_code 3 (none) rm_P_mend 0 0 A D cs sz [.ref a, .int v] f (none) (fun f' => tz_Row cs f' x n (tz_fl (tz_md n g v) g2 n) ∧ ∀ q, (q < x ∨ x + 2 ≤ q) → f' q = f q) := by
  refine tz_C.ofB (lv0 := [(0, .ref a), (1, .int v)]) (plainFor_of_name (by decide)) (Nat.le_of_ble_eq_true rfl) rfl ?_
  intro p_ e_ s_ m_ ar_ be_ me_ c_ Q_ C_ hr_ hk_ hnm_ hz_ hQ_
  have hrx := hP.2.2.2.2.2
  refine tz_iconst C_ (v := 0) (by decide) td_P_mend_0 ?_
  refine tz_istore_n C_ (lv' := [(0, .ref a), (1, .int v), (2, .int 0)]) [1, 2, 0] rfl (by decide) rfl td_P_mend_1 ?_
  have loop2 : ∀ (kk2 : Nat) (i : Nat) (fL : tz_PH), (fL a = some (tz_obj 4 [.ref (a + 1), .ref (a + 2), .ref r, .ref x, .int fo])) → (tz_Row cs fL r n g) → (tz_Row cs fL x i (tz_fl (tz_md n g v) g2 i)) → (∀ q, (q < x ∨ x + 2 ≤ q) → fL q = f q) → (i ≤ n) → (n - i) < kk2 → tz_V p_ l e_ rm_P_mend s_ m_ ar_ be_ me_ c_ Q_ A D 3 fL sz 0 0 2 [(0, .ref a), (1, .int v), (2, .int (nI i))] [] := by
    intro kk2
    induction kk2 with
    | zero => intro i fL ha hr hX hfr hi hm2; omega
    | succ kk2 ih2 =>
      intro i fL ha hr hX hfr hi hm2
      refine tz_iload_n C_ 2 rfl rfl td_P_mend_2 ?_
      refine tz_aload_n C_ 0 rfl rfl td_P_mend_3 ?_
      refine tz_get C_ tci_P 2 (by decide) tw_224 ha rfl td_P_mend_4 ?_
      refine tz_rV C_ tmi_R_length tw_308 tw_309 tw_576 hr.1 rfl (As := []) (by exact (ct_R_length (n := n) (g := g) ⟨hr.1, hr.2⟩)) rfl (rest := [.int (nI i)]) rfl (by decide) (Nat.le_of_ble_eq_true rfl) td_P_mend_7 (st1 := [.int (nI n), .int (nI i)]) rfl ?_
      refine tz_icmp_ge C_ td_P_mend_10 (fun h10 => ?_) (fun h10 => ?_)
      · skip
        replace h10 := (nI_leI (a := n) (b := i) (by omega) (by omega)).mp h10
        refine tz_rvret C_ hr_ hk_ hQ_ rfl td_P_mend_72 ?_
        have e9 : i = n := by omega
        subst e9
        exact ⟨rfl, hX, hfr⟩
      · skip
        replace h10 := mt (nI_leI (a := n) (b := i) (by omega) (by omega)).mpr h10
        refine tz_aload_n C_ 0 rfl rfl td_P_mend_13 ?_
        refine tz_get C_ tci_P 3 (by decide) tw_225 ha rfl td_P_mend_14 ?_
        refine tz_aload_n C_ 0 rfl rfl td_P_mend_17 ?_
        refine tz_get C_ tci_P 2 (by decide) tw_224 ha rfl td_P_mend_18 ?_
        refine tz_iload_n C_ 2 rfl rfl td_P_mend_21 ?_
        refine tz_iload_n C_ 1 rfl rfl td_P_mend_22 ?_
        refine tz_rV C_ tmi_R_isClick tw_380 tw_381 tw_586 hr.1 rfl (As := [.int (nI i), .int v]) (by exact (ct_R_isClick (n := n) (g := g) ⟨hr.1, hr.2⟩ (by omega))) rfl (rest := [.ref x]) rfl (by decide) (Nat.le_of_ble_eq_true rfl) td_P_mend_23 (st1 := [.int (tz_p (tz_click n g (nI i) v)), .ref x]) rfl ?_
        refine tz_if_eq C_ td_P_mend_26 (fun h26 => ?_) (fun h26 => ?_)
        · skip
          replace h26 := tz_p0.mp h26
          refine tz_aload_n C_ 0 rfl rfl td_P_mend_55 ?_
          refine tz_get C_ tci_P 2 (by decide) tw_224 ha rfl td_P_mend_56 ?_
          refine tz_iload_n C_ 2 rfl rfl td_P_mend_59 ?_
          refine tz_rV C_ tmi_R_at tw_332 tw_333 tw_577 hr.1 rfl (As := [.int (nI i)]) (by exact (ct_R_atN (n := n) (g := g) ⟨hr.1, hr.2⟩ (by omega) (by omega))) rfl (rest := [.ref x]) rfl (by decide) (Nat.le_of_ble_eq_true rfl) td_P_mend_60 (st1 := [.int (g i), .ref x]) rfl ?_
          refine tz_cV C_ tmi_R_add tw_463 tw_464 tw_581 hX.1 rfl (As := [.int (g i)]) (by exact (ct_R_add (n := i) (g := tz_fl (tz_md n g v) g2 i) ⟨hX.1, hX.2⟩ (by omega))) rfl (rest := []) rfl (by decide) (Nat.le_of_ble_eq_true rfl) td_P_mend_63 (st1 := []) rfl (fun f1 hF1 => ?_)
          obtain ⟨hP2, hq2⟩ := hF1
          refine tz_iinc C_ (k := 1) (v := nI (i + 1)) (lv' := [(0, .ref a), (1, .int v), (2, .int (nI (i + 1)))]) 2 rfl (nI_1 i) [1, 2, 0] (by decide) rfl td_P_mend_66 ?_
          refine tz_goto C_ td_P_mend_69 ?_
          have k3 : f1 a = some (tz_obj 4 [.ref (a + 1), .ref (a + 2), .ref r, .ref x, .int fo]) := ((hq2 _ (by omega)).trans ha)
          have k4 : f1 r = some (tz_obj 5 [.ref (r + 1), .int (nI n)]) := ((hq2 _ (by omega)).trans hr.1)
          have k5 : f1 (r + 1) = some (tz_ints cs 120 g) := ((hq2 _ (by omega)).trans hr.2)
          exact ih2 (i + 1) f1 k3 (⟨k4, k5⟩) (⟨hP2.1, tz_flr hP2.2 (by simp only [tz_md]; first | rw [if_pos h26] | rw [if_neg h26])⟩) (fun q hh => by rw [hq2 q (by omega), hfr q (by omega)]) (by omega) (by omega)
        · skip
          replace h26 := tz_p1.mp h26
          refine tz_aload_n C_ 0 rfl rfl td_P_mend_29 ?_
          refine tz_get C_ tci_P 2 (by decide) tw_224 ha rfl td_P_mend_30 ?_
          refine tz_iload_n C_ 2 rfl rfl td_P_mend_33 ?_
          refine tz_iconst C_ (v := 1) (by decide) td_P_mend_34 ?_
          refine tz_isub C_ td_P_mend_35 ?_
          refine tz_rV C_ tmi_R_at tw_332 tw_333 tw_577 hr.1 rfl (As := [.int ((nI i) - 1)]) (by exact (ct_R_at (n := n) (g := g) ⟨hr.1, hr.2⟩ (by omega))) rfl (rest := [.ref x]) rfl (by decide) (Nat.le_of_ble_eq_true rfl) td_P_mend_36 (st1 := [.int (tz_at n g ((nI i) - 1)), .ref x]) rfl ?_
          refine tz_aload_n C_ 0 rfl rfl td_P_mend_39 ?_
          refine tz_get C_ tci_P 2 (by decide) tw_224 ha rfl td_P_mend_40 ?_
          refine tz_iload_n C_ 2 rfl rfl td_P_mend_43 ?_
          refine tz_iconst C_ (v := 1) (by decide) td_P_mend_44 ?_
          refine tz_iadd C_ td_P_mend_45 ?_
          refine tz_rV C_ tmi_R_at tw_332 tw_333 tw_577 hr.1 rfl (As := [.int ((nI i) + 1)]) (by exact (ct_R_at (n := n) (g := g) ⟨hr.1, hr.2⟩ (by omega))) rfl (rest := [.int (tz_at n g ((nI i) - 1)), .ref x]) rfl (by decide) (Nat.le_of_ble_eq_true rfl) td_P_mend_46 (st1 := [.int (tz_at n g ((nI i) + 1)), .int (tz_at n g ((nI i) - 1)), .ref x]) rfl ?_
          refine tz_iadd C_ td_P_mend_49 ?_
          refine tz_iconst C_ (v := 2) (by decide) td_P_mend_50 ?_
          refine tz_idiv C_ (by decide) td_P_mend_51 ?_
          refine tz_goto C_ td_P_mend_52 ?_
          refine tz_cV C_ tmi_R_add tw_463 tw_464 tw_581 hX.1 rfl (As := [.int (((tz_at n g ((nI i) - 1)) + (tz_at n g ((nI i) + 1))) / 2)]) (by exact (ct_R_add (n := i) (g := tz_fl (tz_md n g v) g2 i) ⟨hX.1, hX.2⟩ (by omega))) rfl (rest := []) rfl (by decide) (Nat.le_of_ble_eq_true rfl) td_P_mend_63 (st1 := []) rfl (fun f6 hF6 => ?_)
          obtain ⟨hP7, hq7⟩ := hF6
          refine tz_iinc C_ (k := 1) (v := nI (i + 1)) (lv' := [(0, .ref a), (1, .int v), (2, .int (nI (i + 1)))]) 2 rfl (nI_1 i) [1, 2, 0] (by decide) rfl td_P_mend_66 ?_
          refine tz_goto C_ td_P_mend_69 ?_
          have k8 : f6 a = some (tz_obj 4 [.ref (a + 1), .ref (a + 2), .ref r, .ref x, .int fo]) := ((hq7 _ (by omega)).trans ha)
          have k9 : f6 r = some (tz_obj 5 [.ref (r + 1), .int (nI n)]) := ((hq7 _ (by omega)).trans hr.1)
          have k10 : f6 (r + 1) = some (tz_ints cs 120 g) := ((hq7 _ (by omega)).trans hr.2)
          exact ih2 (i + 1) f6 k8 (⟨k9, k10⟩) (⟨hP7.1, tz_flr hP7.2 (by simp only [tz_md]; first | rw [if_pos h26] | rw [if_neg h26])⟩) (fun q hh => by rw [hq7 q (by omega), hfr q (by omega)]) (by omega) (by omega)
  exact loop2 _ 0 f hP.1 (⟨hP.2.2.2.1.1, hP.2.2.2.1.2⟩) (by rw [tz_fl_0]; exact ⟨hP.2.2.2.2.1.1, hP.2.2.2.2.1.2⟩) (fun q hh => rfl) (Nat.zero_le _) (Nat.lt_succ_self _)

abbrev rm_P_fade : Room := { frames := 1, cells := 0, slots := 0, locals := 21 }
set_option maxHeartbeats 4000000 in
set_option maxRecDepth 100000 in
theorem ct_P_fade {l : Launch} {A : Nat → Prop} {D : va_G} {cs : Nat → ClassId} {sz : Nat} {f : tz_PH} {a r x k tn n : Nat} {fo z : Int32} {tg g g2 : Nat → Int32} (hP : tz_Pl cs f a r x fo z k tn tg n g 0 g2) (hn : n ≤ 120) {v : Int32} (hv : ¬ v + 1 = 0) : tz_CN l tyP_fade prog_6_method_14_code 4 (none) rm_P_fade 0 0 A D cs sz [.ref a, .int v] f (none) (fun f' => tz_Row cs f' x n (tz_fl (tz_fa g v) g2 n) ∧ ∀ q, (q < x ∨ x + 2 ≤ q) → f' q = f q) := by
  refine tz_C.ofB (lv0 := [(0, .ref a), (1, .int v)]) (plainFor_of_name (by decide)) (Nat.le_of_ble_eq_true rfl) rfl ?_
  intro p_ e_ s_ m_ ar_ be_ me_ c_ Q_ C_ hr_ hk_ hnm_ hz_ hQ_
  have hrx := hP.2.2.2.2.2
  refine tz_iconst C_ (v := 0) (by decide) td_P_fade_0 ?_
  refine tz_istore_n C_ (lv' := [(0, .ref a), (1, .int v), (2, .int 0)]) [1, 2, 0] rfl (by decide) rfl td_P_fade_1 ?_
  have loop2 : ∀ (kk2 : Nat) (i : Nat) (fL : tz_PH), (fL a = some (tz_obj 4 [.ref (a + 1), .ref (a + 2), .ref r, .ref x, .int fo])) → (tz_Row cs fL r n g) → (tz_Row cs fL x i (tz_fl (tz_fa g v) g2 i)) → (∀ q, (q < x ∨ x + 2 ≤ q) → fL q = f q) → (i ≤ n) → (n - i) < kk2 → tz_V p_ l e_ rm_P_fade s_ m_ ar_ be_ me_ c_ Q_ A D 4 fL sz 0 0 2 [(0, .ref a), (1, .int v), (2, .int (nI i))] [] := by
    intro kk2
    induction kk2 with
    | zero => intro i fL ha hr hX hfr hi hm2; omega
    | succ kk2 ih2 =>
      intro i fL ha hr hX hfr hi hm2
      refine tz_iload_n C_ 2 rfl rfl td_P_fade_2 ?_
      refine tz_aload_n C_ 0 rfl rfl td_P_fade_3 ?_
      refine tz_get C_ tci_P 2 (by decide) tw_224 ha rfl td_P_fade_4 ?_
      refine tz_rV C_ tmi_R_length tw_308 tw_309 tw_576 hr.1 rfl (As := []) (by exact (ct_R_length (n := n) (g := g) ⟨hr.1, hr.2⟩)) rfl (rest := [.int (nI i)]) rfl (by decide) (Nat.le_of_ble_eq_true rfl) td_P_fade_7 (st1 := [.int (nI n), .int (nI i)]) rfl ?_
      refine tz_icmp_ge C_ td_P_fade_10 (fun h10 => ?_) (fun h10 => ?_)
      · skip
        replace h10 := (nI_leI (a := n) (b := i) (by omega) (by omega)).mp h10
        refine tz_rvret C_ hr_ hk_ hQ_ rfl td_P_fade_59 ?_
        have e9 : i = n := by omega
        subst e9
        exact ⟨rfl, hX, hfr⟩
      · skip
        replace h10 := mt (nI_leI (a := n) (b := i) (by omega) (by omega)).mpr h10
        refine tz_aload_n C_ 0 rfl rfl td_P_fade_13 ?_
        refine tz_get C_ tci_P 2 (by decide) tw_224 ha rfl td_P_fade_14 ?_
        refine tz_iload_n C_ 2 rfl rfl td_P_fade_17 ?_
        refine tz_rV C_ tmi_R_at tw_332 tw_333 tw_577 hr.1 rfl (As := [.int (nI i)]) (by exact (ct_R_atN (n := n) (g := g) ⟨hr.1, hr.2⟩ (by omega) (by omega))) rfl (rest := []) rfl (by decide) (Nat.le_of_ble_eq_true rfl) td_P_fade_18 (st1 := [.int (g i)]) rfl ?_
        refine tz_istore_n C_ (lv' := [(0, .ref a), (1, .int v), (2, .int (nI i)), (3, .int (g i))]) [1, 2, 3, 0] rfl (by decide) rfl td_P_fade_21 ?_
        refine tz_aload_n C_ 0 rfl rfl td_P_fade_22 ?_
        refine tz_get C_ tci_P 3 (by decide) tw_225 ha rfl td_P_fade_23 ?_
        refine tz_iload_n C_ 3 rfl rfl td_P_fade_26 ?_
        refine tz_ldc C_ tw_578 td_P_fade_27 ?_
        refine tz_icmp_eq C_ td_P_fade_29 (fun h29 => ?_) (fun h29 => ?_)
        · skip
          refine tz_iload_n C_ 3 rfl rfl td_P_fade_49 ?_
          refine tz_cV C_ tmi_R_add tw_463 tw_464 tw_581 hX.1 rfl (As := [.int (g i)]) (by exact (ct_R_add (n := i) (g := tz_fl (tz_fa g v) g2 i) ⟨hX.1, hX.2⟩ (by omega))) rfl (rest := []) rfl (by decide) (Nat.le_of_ble_eq_true rfl) td_P_fade_50 (st1 := []) rfl (fun f1 hF1 => ?_)
          obtain ⟨hP2, hq2⟩ := hF1
          refine tz_iinc C_ (k := 1) (v := nI (i + 1)) (lv' := [(0, .ref a), (1, .int v), (2, .int (nI (i + 1))), (3, .int (g i))]) 2 rfl (nI_1 i) [1, 2, 0, 3] (by decide) rfl td_P_fade_53 ?_
          refine tz_goto C_ td_P_fade_56 ?_
          have k3 : f1 a = some (tz_obj 4 [.ref (a + 1), .ref (a + 2), .ref r, .ref x, .int fo]) := ((hq2 _ (by omega)).trans ha)
          have k4 : f1 r = some (tz_obj 5 [.ref (r + 1), .int (nI n)]) := ((hq2 _ (by omega)).trans hr.1)
          have k5 : f1 (r + 1) = some (tz_ints cs 120 g) := ((hq2 _ (by omega)).trans hr.2)
          refine tz_lvs [0, 1, 2] rfl ?_
          exact ih2 (i + 1) f1 k3 (⟨k4, k5⟩) (⟨hP2.1, tz_flr hP2.2 (by simp only [tz_fa]; grind)⟩) (fun q hh => by rw [hq2 q (by omega), hfr q (by omega)]) (by omega) (by omega)
        · skip
          refine tz_iload_n C_ 2 rfl rfl td_P_fade_32 ?_
          refine tz_iload_n C_ 1 rfl rfl td_P_fade_33 ?_
          refine tz_icmp_ge C_ td_P_fade_34 (fun h34 => ?_) (fun h34 => ?_)
          · skip
            refine tz_iload_n C_ 3 rfl rfl td_P_fade_49 ?_
            refine tz_cV C_ tmi_R_add tw_463 tw_464 tw_581 hX.1 rfl (As := [.int (g i)]) (by exact (ct_R_add (n := i) (g := tz_fl (tz_fa g v) g2 i) ⟨hX.1, hX.2⟩ (by omega))) rfl (rest := []) rfl (by decide) (Nat.le_of_ble_eq_true rfl) td_P_fade_50 (st1 := []) rfl (fun f6 hF6 => ?_)
            obtain ⟨hP7, hq7⟩ := hF6
            refine tz_iinc C_ (k := 1) (v := nI (i + 1)) (lv' := [(0, .ref a), (1, .int v), (2, .int (nI (i + 1))), (3, .int (g i))]) 2 rfl (nI_1 i) [1, 2, 0, 3] (by decide) rfl td_P_fade_53 ?_
            refine tz_goto C_ td_P_fade_56 ?_
            have k8 : f6 a = some (tz_obj 4 [.ref (a + 1), .ref (a + 2), .ref r, .ref x, .int fo]) := ((hq7 _ (by omega)).trans ha)
            have k9 : f6 r = some (tz_obj 5 [.ref (r + 1), .int (nI n)]) := ((hq7 _ (by omega)).trans hr.1)
            have k10 : f6 (r + 1) = some (tz_ints cs 120 g) := ((hq7 _ (by omega)).trans hr.2)
            refine tz_lvs [0, 1, 2] rfl ?_
            exact ih2 (i + 1) f6 k8 (⟨k9, k10⟩) (⟨hP7.1, tz_flr hP7.2 (by simp only [tz_fa]; grind)⟩) (fun q hh => by rw [hq7 q (by omega), hfr q (by omega)]) (by omega) (by omega)
          · skip
            refine tz_iload_n C_ 3 rfl rfl td_P_fade_37 ?_
            refine tz_iload_n C_ 2 rfl rfl td_P_fade_38 ?_
            refine tz_iconst C_ (v := 1) (by decide) td_P_fade_39 ?_
            refine tz_iadd C_ td_P_fade_40 ?_
            refine tz_imul C_ td_P_fade_41 ?_
            refine tz_iload_n C_ 1 rfl rfl td_P_fade_42 ?_
            refine tz_iconst C_ (v := 1) (by decide) td_P_fade_43 ?_
            refine tz_iadd C_ td_P_fade_44 ?_
            refine tz_idiv C_ hv td_P_fade_45 ?_
            refine tz_goto C_ td_P_fade_46 ?_
            refine tz_cV C_ tmi_R_add tw_463 tw_464 tw_581 hX.1 rfl (As := [.int (((g i) * ((nI i) + 1)) / (v + 1))]) (by exact (ct_R_add (n := i) (g := tz_fl (tz_fa g v) g2 i) ⟨hX.1, hX.2⟩ (by omega))) rfl (rest := []) rfl (by decide) (Nat.le_of_ble_eq_true rfl) td_P_fade_50 (st1 := []) rfl (fun f11 hF11 => ?_)
            obtain ⟨hP12, hq12⟩ := hF11
            refine tz_iinc C_ (k := 1) (v := nI (i + 1)) (lv' := [(0, .ref a), (1, .int v), (2, .int (nI (i + 1))), (3, .int (g i))]) 2 rfl (nI_1 i) [1, 2, 0, 3] (by decide) rfl td_P_fade_53 ?_
            refine tz_goto C_ td_P_fade_56 ?_
            have k13 : f11 a = some (tz_obj 4 [.ref (a + 1), .ref (a + 2), .ref r, .ref x, .int fo]) := ((hq12 _ (by omega)).trans ha)
            have k14 : f11 r = some (tz_obj 5 [.ref (r + 1), .int (nI n)]) := ((hq12 _ (by omega)).trans hr.1)
            have k15 : f11 (r + 1) = some (tz_ints cs 120 g) := ((hq12 _ (by omega)).trans hr.2)
            refine tz_lvs [0, 1, 2] rfl ?_
            exact ih2 (i + 1) f11 k13 (⟨k14, k15⟩) (⟨hP12.1, tz_flr hP12.2 (by simp only [tz_fa]; grind)⟩) (fun q hh => by rw [hq12 q (by omega), hfr q (by omega)]) (by omega) (by omega)
  exact loop2 _ 0 f hP.1 (⟨hP.2.2.2.1.1, hP.2.2.2.1.2⟩) (by rw [tz_fl_0]; exact ⟨hP.2.2.2.2.1.1, hP.2.2.2.2.1.2⟩) (fun q hh => rfl) (Nat.zero_le _) (Nat.lt_succ_self _)


def tz_kp (v u : Int32) : Nat → Bool := fun j => decide (nI j < v ∨ v + u ≤ nI j)
def tz_cf (v u fo : Int32) : Int32 := if v ≤ fo then (if fo < v + u then -1 else fo - u) else fo
theorem tz_nth_step {p : Nat → Bool} {x i : Nat} {t g : Nat → Int32} (hx : x = tz_ct p i) (ht : ∀ k, k < x → t k = g (tz_nth p i k)) (hp : p i = true) : ∀ k, k < x + 1 → upd t x (g i) k = g (tz_nth p (i + 1) k) := by
  intro k hk
  rcases Nat.lt_or_ge k x with h | h
  · rw [tz_nth_s p (by omega), pk_un (by omega)]; exact ht k h
  · have e : k = x := by omega
    subst e
    rw [pk_us, hx, tz_nth_eq p (by omega) hp]

abbrev rm_P_cut : Room := { frames := 1, cells := 0, slots := 0, locals := 21 }
set_option maxHeartbeats 4000000 in
set_option maxRecDepth 100000 in
theorem ct_P_cut {l : Launch} {A : Nat → Prop} {D : va_G} {cs : Nat → ClassId} {sz : Nat} {f : tz_PH} {a r x k tn n : Nat} {fo z : Int32} {tg g g2 : Nat → Int32} (hP : tz_Pl cs f a r x fo z k tn tg n g 0 g2) (hn : n ≤ 120) {v u : Int32} : tz_CN l tyP_cut prog_6_method_13_code 4 (none) rm_P_cut 0 0 A D cs sz [.ref a, .int v, .int u] f (none) (fun f' => (∃ gx : Nat → Int32, f' a = some (tz_obj 4 [.ref (a + 1), .ref (a + 2), .ref r, .ref x, .int (tz_cf v u fo)]) ∧ tz_Row cs f' x (tz_ct (tz_kp v u) n) gx ∧ ∀ j, j < tz_ct (tz_kp v u) n → gx j = g (tz_nth (tz_kp v u) n j)) ∧ ∀ q, ((q < x ∨ x + 2 ≤ q) ∧ q ≠ a) → f' q = f q) := by
  refine tz_C.ofB (lv0 := [(0, .ref a), (1, .int v), (2, .int u)]) (plainFor_of_name (by decide)) (Nat.le_of_ble_eq_true rfl) rfl ?_
  intro p_ e_ s_ m_ ar_ be_ me_ c_ Q_ C_ hr_ hk_ hnm_ hz_ hQ_
  have hrx := hP.2.2.2.2.2
  refine tz_iconst C_ (v := 0) (by decide) td_P_cut_0 ?_
  refine tz_istore_n C_ (lv' := [(0, .ref a), (1, .int v), (2, .int u), (3, .int 0)]) [1, 2, 3, 0] rfl (by decide) rfl td_P_cut_1 ?_
  have loop2 : ∀ (kk2 : Nat) (c : Nat) (gx : Nat → Int32) (i : Nat) (fL : tz_PH), (fL a = some (tz_obj 4 [.ref (a + 1), .ref (a + 2), .ref r, .ref x, .int fo])) → (tz_Row cs fL r n g) → (tz_Row cs fL x c gx) → (∀ q, ((q < x ∨ x + 2 ≤ q) ∧ q ≠ a) → fL q = f q) → (i ≤ n) → (c = tz_ct (tz_kp v u) i) → (∀ j, j < c → gx j = g (tz_nth (tz_kp v u) i j)) → (n - i) < kk2 → tz_V p_ l e_ rm_P_cut s_ m_ ar_ be_ me_ c_ Q_ A D 4 fL sz 0 0 2 [(0, .ref a), (1, .int v), (2, .int u), (3, .int (nI i))] [] := by
    intro kk2
    induction kk2 with
    | zero => intro c gx i fL ha hr hX hfr hi hc ht hm2; omega
    | succ kk2 ih2 =>
      intro c gx i fL ha hr hX hfr hi hc ht hm2
      have hcl := tz_ct_le (tz_kp v u) i
      refine tz_iload_n C_ 3 rfl rfl td_P_cut_2 ?_
      refine tz_aload_n C_ 0 rfl rfl td_P_cut_3 ?_
      refine tz_get C_ tci_P 2 (by decide) tw_224 ha rfl td_P_cut_4 ?_
      refine tz_rV C_ tmi_R_length tw_308 tw_309 tw_576 hr.1 rfl (As := []) (by exact (ct_R_length (n := n) (g := g) ⟨hr.1, hr.2⟩)) rfl (rest := [.int (nI i)]) rfl (by decide) (Nat.le_of_ble_eq_true rfl) td_P_cut_7 (st1 := [.int (nI n), .int (nI i)]) rfl ?_
      refine tz_icmp_ge C_ td_P_cut_10 (fun h10 => ?_) (fun h10 => ?_)
      · skip
        replace h10 := (nI_leI (a := n) (b := i) (by omega) (by omega)).mp h10
        refine tz_aload_n C_ 0 rfl rfl td_P_cut_46 ?_
        refine tz_get C_ tci_P 4 (by decide) tw_226 ha rfl td_P_cut_47 ?_
        refine tz_iload_n C_ 1 rfl rfl td_P_cut_50 ?_
        refine tz_icmp_lt C_ td_P_cut_51 (fun h51 => ?_) (fun h51 => ?_)
        · skip
          refine tz_rvret C_ hr_ hk_ hQ_ rfl td_P_cut_78 ?_
          have e9 : i = n := by omega
          subst e9
          subst hc
          refine ⟨rfl, ⟨gx, ?_, ⟨hX.1, hX.2⟩, ht⟩, (fun q hh => by rw [hfr q (by omega)])⟩
          rw [(show tz_cf v u fo = fo by rw [tz_cf, if_neg (Int32.not_le.mpr h51)])]
          exact ha
        · skip
          refine tz_aload_n C_ 0 rfl rfl td_P_cut_54 ?_
          refine tz_aload_n C_ 0 rfl rfl td_P_cut_55 ?_
          refine tz_get C_ tci_P 4 (by decide) tw_226 ha rfl td_P_cut_56 ?_
          refine tz_iload_n C_ 1 rfl rfl td_P_cut_59 ?_
          refine tz_iload_n C_ 2 rfl rfl td_P_cut_60 ?_
          refine tz_iadd C_ td_P_cut_61 ?_
          refine tz_icmp_ge C_ td_P_cut_62 (fun h62 => ?_) (fun h62 => ?_)
          · skip
            refine tz_aload_n C_ 0 rfl rfl td_P_cut_69 ?_
            refine tz_get C_ tci_P 4 (by decide) tw_226 ha rfl td_P_cut_70 ?_
            refine tz_iload_n C_ 2 rfl rfl td_P_cut_73 ?_
            refine tz_isub C_ td_P_cut_74 ?_
            refine tz_wput C_ tci_P 4 (by decide) tw_226 rfl ha (Nat.le_of_ble_eq_true rfl) ⟨rfl, rfl⟩ (fs' := [.ref (a + 1), .ref (a + 2), .ref r, .ref x, .int (fo - u)]) rfl td_P_cut_75 (fun f1 hs1 hq1 => ?_)
            refine tz_rvret C_ hr_ hk_ hQ_ rfl td_P_cut_78 ?_
            have k2 : f1 x = some (tz_obj 5 [.ref (x + 1), .int (nI c)]) := ((hq1 _ (by omega)).trans hX.1)
            have k3 : f1 (x + 1) = some (tz_ints cs 120 gx) := ((hq1 _ (by omega)).trans hX.2)
            have e9 : i = n := by omega
            subst e9
            subst hc
            refine ⟨rfl, ⟨gx, ?_, ⟨k2, k3⟩, ht⟩, (fun q hh => by rw [hq1 q (by omega), hfr q (by omega)])⟩
            rw [(show tz_cf v u fo = fo - u by rw [tz_cf, if_pos (Int32.not_lt.mp h51), if_neg (Int32.not_lt.mpr h62)])]
            exact hs1
          · skip
            refine tz_iconst C_ (v := -1) (by decide) td_P_cut_65 ?_
            refine tz_goto C_ td_P_cut_66 ?_
            refine tz_wput C_ tci_P 4 (by decide) tw_226 rfl ha (Nat.le_of_ble_eq_true rfl) ⟨rfl, rfl⟩ (fs' := [.ref (a + 1), .ref (a + 2), .ref r, .ref x, .int (-1)]) rfl td_P_cut_75 (fun f4 hs4 hq4 => ?_)
            refine tz_rvret C_ hr_ hk_ hQ_ rfl td_P_cut_78 ?_
            have k5 : f4 x = some (tz_obj 5 [.ref (x + 1), .int (nI c)]) := ((hq4 _ (by omega)).trans hX.1)
            have k6 : f4 (x + 1) = some (tz_ints cs 120 gx) := ((hq4 _ (by omega)).trans hX.2)
            have e9 : i = n := by omega
            subst e9
            subst hc
            refine ⟨rfl, ⟨gx, ?_, ⟨k5, k6⟩, ht⟩, (fun q hh => by rw [hq4 q (by omega), hfr q (by omega)])⟩
            rw [(show tz_cf v u fo = -1 by rw [tz_cf, if_pos (Int32.not_lt.mp h51), if_pos (Int32.not_le.mp h62)])]
            exact hs4
      · skip
        replace h10 := mt (nI_leI (a := n) (b := i) (by omega) (by omega)).mpr h10
        refine tz_iload_n C_ 3 rfl rfl td_P_cut_13 ?_
        refine tz_iload_n C_ 1 rfl rfl td_P_cut_14 ?_
        refine tz_icmp_lt C_ td_P_cut_15 (fun h15 => ?_) (fun h15 => ?_)
        · skip
          refine tz_aload_n C_ 0 rfl rfl td_P_cut_25 ?_
          refine tz_get C_ tci_P 3 (by decide) tw_225 ha rfl td_P_cut_26 ?_
          refine tz_aload_n C_ 0 rfl rfl td_P_cut_29 ?_
          refine tz_get C_ tci_P 2 (by decide) tw_224 ha rfl td_P_cut_30 ?_
          refine tz_iload_n C_ 3 rfl rfl td_P_cut_33 ?_
          refine tz_rV C_ tmi_R_at tw_332 tw_333 tw_577 hr.1 rfl (As := [.int (nI i)]) (by exact (ct_R_atN (n := n) (g := g) ⟨hr.1, hr.2⟩ (by omega) (by omega))) rfl (rest := [.ref x]) rfl (by decide) (Nat.le_of_ble_eq_true rfl) td_P_cut_34 (st1 := [.int (g i), .ref x]) rfl ?_
          refine tz_cV C_ tmi_R_add tw_463 tw_464 tw_581 hX.1 rfl (As := [.int (g i)]) (by exact (ct_R_add (n := c) (g := gx) ⟨hX.1, hX.2⟩ (by omega))) rfl (rest := []) rfl (by decide) (Nat.le_of_ble_eq_true rfl) td_P_cut_37 (st1 := []) rfl (fun f7 hF7 => ?_)
          obtain ⟨hP8, hq8⟩ := hF7
          refine tz_iinc C_ (k := 1) (v := nI (i + 1)) (lv' := [(0, .ref a), (1, .int v), (2, .int u), (3, .int (nI (i + 1)))]) 3 rfl (nI_1 i) [1, 2, 3, 0] (by decide) rfl td_P_cut_40 ?_
          refine tz_goto C_ td_P_cut_43 ?_
          have k9 : f7 a = some (tz_obj 4 [.ref (a + 1), .ref (a + 2), .ref r, .ref x, .int fo]) := ((hq8 _ (by omega)).trans ha)
          have k10 : f7 r = some (tz_obj 5 [.ref (r + 1), .int (nI n)]) := ((hq8 _ (by omega)).trans hr.1)
          have k11 : f7 (r + 1) = some (tz_ints cs 120 g) := ((hq8 _ (by omega)).trans hr.2)
          exact ih2 (c + 1) (upd gx c (g i)) (i + 1) f7 k9 (⟨k10, k11⟩) (⟨hP8.1, hP8.2⟩) (fun q hh => by rw [hq8 q (by omega), hfr q (by omega)]) (by omega) (by rw [tz_ct_y (by simp only [tz_kp, decide_eq_true_eq]; first | exact Or.inl h15 | exact Or.inr (Int32.not_lt.mp h22)), hc]) (tz_nth_step hc ht (by simp only [tz_kp, decide_eq_true_eq]; first | exact Or.inl h15 | exact Or.inr (Int32.not_lt.mp h22))) (by omega)
        · skip
          refine tz_iload_n C_ 3 rfl rfl td_P_cut_18 ?_
          refine tz_iload_n C_ 1 rfl rfl td_P_cut_19 ?_
          refine tz_iload_n C_ 2 rfl rfl td_P_cut_20 ?_
          refine tz_iadd C_ td_P_cut_21 ?_
          refine tz_icmp_lt C_ td_P_cut_22 (fun h22 => ?_) (fun h22 => ?_)
          · skip
            refine tz_iinc C_ (k := 1) (v := nI (i + 1)) (lv' := [(0, .ref a), (1, .int v), (2, .int u), (3, .int (nI (i + 1)))]) 3 rfl (nI_1 i) [1, 2, 3, 0] (by decide) rfl td_P_cut_40 ?_
            refine tz_goto C_ td_P_cut_43 ?_
            exact ih2 c gx (i + 1) fL ha (⟨hr.1, hr.2⟩) (⟨hX.1, hX.2⟩) (fun q hh => by rw [hfr q (by omega)]) (by omega) (by rw [tz_ct_n (by simp only [tz_kp, decide_eq_false_iff_not]; exact fun z => z.elim h15 (fun y => Int32.not_lt.mpr y h22)), hc]) (fun j hj => by rw [tz_nth_s _ (by omega)]; exact ht j hj) (by omega)
          · skip
            refine tz_aload_n C_ 0 rfl rfl td_P_cut_25 ?_
            refine tz_get C_ tci_P 3 (by decide) tw_225 ha rfl td_P_cut_26 ?_
            refine tz_aload_n C_ 0 rfl rfl td_P_cut_29 ?_
            refine tz_get C_ tci_P 2 (by decide) tw_224 ha rfl td_P_cut_30 ?_
            refine tz_iload_n C_ 3 rfl rfl td_P_cut_33 ?_
            refine tz_rV C_ tmi_R_at tw_332 tw_333 tw_577 hr.1 rfl (As := [.int (nI i)]) (by exact (ct_R_atN (n := n) (g := g) ⟨hr.1, hr.2⟩ (by omega) (by omega))) rfl (rest := [.ref x]) rfl (by decide) (Nat.le_of_ble_eq_true rfl) td_P_cut_34 (st1 := [.int (g i), .ref x]) rfl ?_
            refine tz_cV C_ tmi_R_add tw_463 tw_464 tw_581 hX.1 rfl (As := [.int (g i)]) (by exact (ct_R_add (n := c) (g := gx) ⟨hX.1, hX.2⟩ (by omega))) rfl (rest := []) rfl (by decide) (Nat.le_of_ble_eq_true rfl) td_P_cut_37 (st1 := []) rfl (fun f12 hF12 => ?_)
            obtain ⟨hP13, hq13⟩ := hF12
            refine tz_iinc C_ (k := 1) (v := nI (i + 1)) (lv' := [(0, .ref a), (1, .int v), (2, .int u), (3, .int (nI (i + 1)))]) 3 rfl (nI_1 i) [1, 2, 3, 0] (by decide) rfl td_P_cut_40 ?_
            refine tz_goto C_ td_P_cut_43 ?_
            have k14 : f12 a = some (tz_obj 4 [.ref (a + 1), .ref (a + 2), .ref r, .ref x, .int fo]) := ((hq13 _ (by omega)).trans ha)
            have k15 : f12 r = some (tz_obj 5 [.ref (r + 1), .int (nI n)]) := ((hq13 _ (by omega)).trans hr.1)
            have k16 : f12 (r + 1) = some (tz_ints cs 120 g) := ((hq13 _ (by omega)).trans hr.2)
            exact ih2 (c + 1) (upd gx c (g i)) (i + 1) f12 k14 (⟨k15, k16⟩) (⟨hP13.1, hP13.2⟩) (fun q hh => by rw [hq13 q (by omega), hfr q (by omega)]) (by omega) (by rw [tz_ct_y (by simp only [tz_kp, decide_eq_true_eq]; first | exact Or.inl h15 | exact Or.inr (Int32.not_lt.mp h22)), hc]) (tz_nth_step hc ht (by simp only [tz_kp, decide_eq_true_eq]; first | exact Or.inl h15 | exact Or.inr (Int32.not_lt.mp h22))) (by omega)
  exact loop2 _ 0 g2 0 f hP.1 (⟨hP.2.2.2.1.1, hP.2.2.2.1.2⟩) (⟨hP.2.2.2.2.1.1, hP.2.2.2.2.1.2⟩) (fun q hh => rfl) (Nat.zero_le _) rfl (fun j hj => absurd hj (Nat.not_lt_zero j)) (Nat.lt_succ_self _)


def tz_fi (g : Nat → Int32) (n m : Nat) (q : Nat → Int32) (w : Nat) : Nat → Int32 := fun j => if (tz_sh g n m q (2 * w + 1)).1 = tz_NO then g j else if g j = tz_LO then tz_at m q (nI j + (tz_sh g n m q (2 * w + 1)).1) else g j
theorem tz_rset_N {n i : Nat} {g : Nat → Int32} {v : Int32} (hn : n ≤ 120) (h : i < n) : tz_rset n g (nI i) v = upd g i v := by
  unfold tz_rset
  rw [if_pos ⟨nI_pos' (by omega), nI_lt h (by omega)⟩, nI_clamp (by omega)]


theorem tz_fill_y {g gx q : Nat → Int32} {n m w i : Nat} (hn : n ≤ 120) (hi : i < n) (hc : ∀ j, j < n → gx j = if j < i then tz_fi g n m q w j else g j) (h1 : ¬ (tz_sh g n m q (2 * w + 1)).1 = tz_NO) (h2 : g i = tz_LO) : ∀ j, j < n → tz_rset n gx (nI i) (tz_at m q (nI i + (tz_sh g n m q (2 * w + 1)).1)) j = if j < i + 1 then tz_fi g n m q w j else g j := by
  intro j hj
  rw [tz_rset_N hn hi]
  by_cases e : j = i
  · subst e
    rw [pk_us, if_pos (by omega), tz_fi, if_neg h1, if_pos h2]
  · rw [pk_un e, hc j hj]
    by_cases h : j < i
    · rw [if_pos h, if_pos (by omega)]
    · rw [if_neg h, if_neg (by omega)]
theorem tz_fill_n {g gx q : Nat → Int32} {n m w i : Nat} (hc : ∀ j, j < n → gx j = if j < i then tz_fi g n m q w j else g j) (h1 : ¬ (tz_sh g n m q (2 * w + 1)).1 = tz_NO) (h2 : ¬ g i = tz_LO) : ∀ j, j < n → gx j = if j < i + 1 then tz_fi g n m q w j else g j := by
  intro j hj
  rw [hc j hj]
  by_cases e : j = i
  · subst e
    rw [if_neg (by omega), if_pos (by omega), tz_fi, if_neg h1, if_neg h2]
  · by_cases h : j < i
    · rw [if_pos h, if_pos (by omega)]
    · rw [if_neg h, if_neg (by omega)]

abbrev rm_P_fill : Room := { frames := 3, cells := 0, slots := 0, locals := 77 }
set_option maxHeartbeats 4000000 in
set_option maxRecDepth 100000 in
theorem ct_P_fill {l : Launch} {A : Nat → Prop} {D : va_G} {cs : Nat → ClassId} {sz : Nat} {f : tz_PH} {a r x k tn n n2 : Nat} {fo z : Int32} {tg g g2 : Nat → Int32} (hP : tz_Pl cs f a r x fo z k tn tg n g n2 g2) (hn : n ≤ 120) {b m w : Nat} {q : Nat → Int32} (hB : tz_Row cs f b m q) (hm : m ≤ 120) (hw : w ≤ 9) (hb : b + 2 ≤ a ∨ a + 8 ≤ b) : tz_CN l tyP_fill prog_6_method_7_code 5 (none) rm_P_fill 0 0 A D cs sz [.ref a, .ref b, .int (nI w)] f (none) (fun f' => (∃ (z' : Int32) (k' : Nat) (gx : Nat → Int32), tz_Al f' (a + 1) z' k' ∧ tz_Row cs f' x n gx ∧ ∀ j, j < n → gx j = tz_fi g n m q w j) ∧ ∀ q, ((q < x ∨ x + 2 ≤ q) ∧ q ≠ a + 1) → f' q = f q) := by
  refine tz_C.ofB (lv0 := [(0, .ref a), (1, .ref b), (2, .int (nI w))]) (plainFor_of_name (by decide)) (Nat.le_of_ble_eq_true rfl) rfl ?_
  intro p_ e_ s_ m_ ar_ be_ me_ c_ Q_ C_ hr_ hk_ hnm_ hz_ hQ_
  have hrx := hP.2.2.2.2.2
  refine tz_aload_n C_ 0 rfl rfl td_P_fill_0 ?_
  refine tz_get C_ tci_P 3 (by decide) tw_225 hP.1 rfl td_P_fill_1 ?_
  refine tz_aload_n C_ 0 rfl rfl td_P_fill_4 ?_
  refine tz_get C_ tci_P 2 (by decide) tw_224 hP.1 rfl td_P_fill_5 ?_
  refine tz_cV C_ tmi_R_become tw_293 tw_294 tw_564 hP.2.2.2.2.1.1 rfl (As := [.ref r]) (by exact (ct_R_become (n := n2) (g := g2) (n2 := n) (g2 := g) ⟨hP.2.2.2.2.1.1, hP.2.2.2.2.1.2⟩ ⟨hP.2.2.2.1.1, hP.2.2.2.1.2⟩ (by omega))) rfl (rest := []) rfl (by decide) (Nat.le_of_ble_eq_true rfl) td_P_fill_8 (st1 := []) rfl (fun f1 hF1 => ?_)
  obtain ⟨hP2, hq2⟩ := hF1
  refine tz_aload_n C_ 1 rfl rfl td_P_fill_11 ?_
  refine tz_ifnonnull C_ (r := some b) td_P_fill_12 (fun _ _ => ?_) (fun hh => by cases hh)
  refine tz_aload_n C_ 0 rfl rfl td_P_fill_16 ?_
  have k3 : f1 a = some (tz_obj 4 [.ref (a + 1), .ref (a + 2), .ref r, .ref x, .int fo]) := ((hq2 _ (by omega)).trans hP.1)
  refine tz_get C_ tci_P 0 (by decide) tw_222 k3 rfl td_P_fill_17 ?_
  refine tz_aload_n C_ 0 rfl rfl td_P_fill_20 ?_
  refine tz_get C_ tci_P 2 (by decide) tw_224 k3 rfl td_P_fill_21 ?_
  refine tz_aload_n C_ 1 rfl rfl td_P_fill_24 ?_
  refine tz_iload_n C_ 2 rfl rfl td_P_fill_25 ?_
  have k4 : f1 (a + 1) = some (tz_obj 0 [.int z, .int (nI k)]) := ((hq2 _ (by omega)).trans hP.2.1)
  have k5 : f1 r = some (tz_obj 5 [.ref (r + 1), .int (nI n)]) := ((hq2 _ (by omega)).trans hP.2.2.2.1.1)
  have k6 : f1 (r + 1) = some (tz_ints cs 120 g) := ((hq2 _ (by omega)).trans hP.2.2.2.1.2)
  have k7 : f1 b = some (tz_obj 5 [.ref (b + 1), .int (nI m)]) := ((hq2 _ (by omega)).trans hB.1)
  have k8 : f1 (b + 1) = some (tz_ints cs 120 q) := ((hq2 _ (by omega)).trans hB.2)
  refine tz_cV C_ tmi_A_shift tw_593 tw_594 tw_592 k4 rfl (As := [.ref r, .ref b, .int (nI w)]) (by exact (ct_A_shift (z := z) (x := k) (n := n) (g := g) (n2 := m) (g2 := q) (w := w) k4 ⟨k5, k6⟩ (by omega) ⟨k7, k8⟩ (by omega) (by omega) (by omega))) rfl (rest := []) rfl (by decide) (Nat.le_of_ble_eq_true rfl) td_P_fill_26 (st1 := [.int ((tz_sh g n m q (2 * w + 1)).1)]) rfl (fun f9 hF9 => ?_)
  obtain ⟨zz10, xx10, hU10, hq10⟩ := hF9
  refine tz_istore_n C_ (lv' := [(0, .ref a), (1, .ref b), (2, .int (nI w)), (3, .int ((tz_sh g n m q (2 * w + 1)).1))]) [1, 2, 3, 0] rfl (by decide) rfl td_P_fill_29 ?_
  refine tz_iload_n C_ 3 rfl rfl td_P_fill_30 ?_
  refine tz_ldc C_ tw_607 td_P_fill_31 ?_
  refine tz_icmp_ne C_ td_P_fill_33 (fun h33 => ?_) (fun h33 => ?_)
  · skip
    refine tz_iconst C_ (v := 0) (by decide) td_P_fill_37 ?_
    refine tz_istore C_ (lv' := [(0, .ref a), (1, .ref b), (2, .int (nI w)), (3, .int ((tz_sh g n m q (2 * w + 1)).1)), (4, .int 0)]) [1, 2, 3, 4, 0] (by decide) rfl td_P_fill_38 ?_
    have k11 : f9 (x + 1) = some (tz_ints cs 120 (va_cpy g g2 0 0 120)) := ((hq10 _ (by omega)).trans hP2.2)
    have k12 : f9 a = some (tz_obj 4 [.ref (a + 1), .ref (a + 2), .ref r, .ref x, .int fo]) := ((hq10 _ (by omega)).trans k3)
    have k13 : f9 r = some (tz_obj 5 [.ref (r + 1), .int (nI n)]) := ((hq10 _ (by omega)).trans k5)
    have k14 : f9 (r + 1) = some (tz_ints cs 120 g) := ((hq10 _ (by omega)).trans k6)
    have k15 : f9 x = some (tz_obj 5 [.ref (x + 1), .int (nI n)]) := ((hq10 _ (by omega)).trans hP2.1)
    have k16 : f9 b = some (tz_obj 5 [.ref (b + 1), .int (nI m)]) := ((hq10 _ (by omega)).trans k7)
    have k17 : f9 (b + 1) = some (tz_ints cs 120 q) := ((hq10 _ (by omega)).trans k8)
    have loop40 : ∀ (kk40 : Nat) (gx : Nat → Int32) (z1 : Int32) (k1 : Nat) (i : Nat) (fL : tz_PH), (fL a = some (tz_obj 4 [.ref (a + 1), .ref (a + 2), .ref r, .ref x, .int fo])) → (tz_Al fL (a + 1) z1 k1) → (tz_Row cs fL r n g) → (tz_Row cs fL x n gx) → (tz_Row cs fL b m q) → (∀ q, ((q < x ∨ x + 2 ≤ q) ∧ q ≠ a + 1) → fL q = f q) → (i ≤ n) → (∀ j, j < n → gx j = if j < i then tz_fi g n m q w j else g j) → (n - i) < kk40 → tz_V p_ l e_ rm_P_fill s_ m_ ar_ be_ me_ c_ Q_ A D 5 fL sz 0 0 40 [(0, .ref a), (1, .ref b), (2, .int (nI w)), (3, .int ((tz_sh g n m q (2 * w + 1)).1)), (4, .int (nI i))] [] := by
      intro kk40
      induction kk40 with
      | zero => intro gx z1 k1 i fL ha hA hr hX hB1 hfr hi hc hm40; omega
      | succ kk40 ih40 =>
        intro gx z1 k1 i fL ha hA hr hX hB1 hfr hi hc hm40
        refine tz_iload C_ 4 rfl td_P_fill_40 ?_
        refine tz_aload_n C_ 0 rfl rfl td_P_fill_42 ?_
        refine tz_get C_ tci_P 2 (by decide) tw_224 ha rfl td_P_fill_43 ?_
        refine tz_rV C_ tmi_R_length tw_308 tw_309 tw_576 hr.1 rfl (As := []) (by exact (ct_R_length (n := n) (g := g) ⟨hr.1, hr.2⟩)) rfl (rest := [.int (nI i)]) rfl (by decide) (Nat.le_of_ble_eq_true rfl) td_P_fill_46 (st1 := [.int (nI n), .int (nI i)]) rfl ?_
        refine tz_icmp_ge C_ td_P_fill_49 (fun h49 => ?_) (fun h49 => ?_)
        · skip
          replace h49 := (nI_leI (a := n) (b := i) (by omega) (by omega)).mp h49
          refine tz_rvret C_ hr_ hk_ hQ_ rfl td_P_fill_89 ?_
          have e9 : i = n := by omega
          subst e9
          exact ⟨rfl, ⟨z1, k1, gx, hA, hX, fun j hj => by rw [hc j hj, if_pos hj]⟩, hfr⟩
        · skip
          replace h49 := mt (nI_leI (a := n) (b := i) (by omega) (by omega)).mpr h49
          refine tz_aload_n C_ 0 rfl rfl td_P_fill_52 ?_
          refine tz_get C_ tci_P 2 (by decide) tw_224 ha rfl td_P_fill_53 ?_
          refine tz_iload C_ 4 rfl td_P_fill_56 ?_
          refine tz_rV C_ tmi_R_at tw_332 tw_333 tw_577 hr.1 rfl (As := [.int (nI i)]) (by exact (ct_R_atN (n := n) (g := g) ⟨hr.1, hr.2⟩ (by omega) (by omega))) rfl (rest := []) rfl (by decide) (Nat.le_of_ble_eq_true rfl) td_P_fill_58 (st1 := [.int (g i)]) rfl ?_
          refine tz_ldc C_ tw_578 td_P_fill_61 ?_
          refine tz_icmp_ne C_ td_P_fill_63 (fun h63 => ?_) (fun h63 => ?_)
          · skip
            refine tz_iinc C_ (k := 1) (v := nI (i + 1)) (lv' := [(0, .ref a), (1, .ref b), (2, .int (nI w)), (3, .int ((tz_sh g n m q (2 * w + 1)).1)), (4, .int (nI (i + 1)))]) 4 rfl (nI_1 i) [1, 2, 3, 4, 0] (by decide) rfl td_P_fill_83 ?_
            refine tz_goto C_ td_P_fill_86 ?_
            exact ih40 gx z1 k1 (i + 1) fL ha hA (⟨hr.1, hr.2⟩) (⟨hX.1, hX.2⟩) (⟨hB1.1, hB1.2⟩) (fun q hh => by rw [hfr q (by omega)]) (by omega) (fun j hj => tz_fill_n hc h33 h63 j hj) (by omega)
          · skip
            refine tz_aload_n C_ 0 rfl rfl td_P_fill_66 ?_
            refine tz_get C_ tci_P 3 (by decide) tw_225 ha rfl td_P_fill_67 ?_
            refine tz_iload C_ 4 rfl td_P_fill_70 ?_
            refine tz_aload_n C_ 1 rfl rfl td_P_fill_72 ?_
            refine tz_iload C_ 4 rfl td_P_fill_73 ?_
            refine tz_iload_n C_ 3 rfl rfl td_P_fill_75 ?_
            refine tz_iadd C_ td_P_fill_76 ?_
            refine tz_rV C_ tmi_R_at tw_332 tw_333 tw_577 hB1.1 rfl (As := [.int ((nI i) + ((tz_sh g n m q (2 * w + 1)).1))]) (by exact (ct_R_at (n := m) (g := q) ⟨hB1.1, hB1.2⟩ (by omega))) rfl (rest := [.int (nI i), .ref x]) rfl (by decide) (Nat.le_of_ble_eq_true rfl) td_P_fill_77 (st1 := [.int (tz_at m q ((nI i) + ((tz_sh g n m q (2 * w + 1)).1))), .int (nI i), .ref x]) rfl ?_
            refine tz_cV C_ tmi_R_set tw_338 tw_339 tw_608 hX.1 rfl (As := [.int (nI i), .int (tz_at m q ((nI i) + ((tz_sh g n m q (2 * w + 1)).1)))]) (by exact (ct_R_set (n := n) (g := gx) ⟨hX.1, hX.2⟩ (by omega))) rfl (rest := []) rfl (by decide) (Nat.le_of_ble_eq_true rfl) td_P_fill_80 (st1 := []) rfl (fun f18 hF18 => ?_)
            obtain ⟨hP19, hq19⟩ := hF18
            refine tz_iinc C_ (k := 1) (v := nI (i + 1)) (lv' := [(0, .ref a), (1, .ref b), (2, .int (nI w)), (3, .int ((tz_sh g n m q (2 * w + 1)).1)), (4, .int (nI (i + 1)))]) 4 rfl (nI_1 i) [1, 2, 3, 4, 0] (by decide) rfl td_P_fill_83 ?_
            refine tz_goto C_ td_P_fill_86 ?_
            have k20 : f18 (a + 1) = some (tz_obj 0 [.int z1, .int (nI k1)]) := ((hq19 _ (by omega)).trans hA)
            have k21 : f18 a = some (tz_obj 4 [.ref (a + 1), .ref (a + 2), .ref r, .ref x, .int fo]) := ((hq19 _ (by omega)).trans ha)
            have k22 : f18 r = some (tz_obj 5 [.ref (r + 1), .int (nI n)]) := ((hq19 _ (by omega)).trans hr.1)
            have k23 : f18 (r + 1) = some (tz_ints cs 120 g) := ((hq19 _ (by omega)).trans hr.2)
            have k24 : f18 b = some (tz_obj 5 [.ref (b + 1), .int (nI m)]) := ((hq19 _ (by omega)).trans hB1.1)
            have k25 : f18 (b + 1) = some (tz_ints cs 120 q) := ((hq19 _ (by omega)).trans hB1.2)
            exact ih40 (tz_rset n gx (nI i) (tz_at m q ((nI i) + ((tz_sh g n m q (2 * w + 1)).1)))) z1 k1 (i + 1) f18 k21 k20 (⟨k22, k23⟩) (⟨hP19.1, hP19.2⟩) (⟨k24, k25⟩) (fun q hh => by rw [hq19 q (by omega), hfr q (by omega)]) (by omega) (fun j hj => tz_fill_y hn (by omega) hc h33 h63 j hj) (by omega)
    exact loop40 _ (va_cpy g g2 0 0 120) zz10 xx10 0 f9 k12 hU10 (⟨k13, k14⟩) (⟨k15, k11⟩) (⟨k16, k17⟩) (fun q hh => by rw [hq10 q (by omega), hq2 q (by omega)]) (Nat.zero_le _) (fun j hj => by rw [if_neg (by omega)]; exact tz_cpy_in (by omega)) (Nat.lt_succ_self _)
  · skip
    refine tz_rvret C_ hr_ hk_ hQ_ rfl td_P_fill_36 ?_
    have k26 : f9 x = some (tz_obj 5 [.ref (x + 1), .int (nI n)]) := ((hq10 _ (by omega)).trans hP2.1)
    have k27 : f9 (x + 1) = some (tz_ints cs 120 (va_cpy g g2 0 0 120)) := ((hq10 _ (by omega)).trans hP2.2)
    refine ⟨rfl, ⟨_, _, _, hU10, ⟨k26, k27⟩, fun j hj => ?_⟩, (fun q hh => by rw [hq10 q (by omega), hq2 q (by omega)])⟩
    rw [tz_cpy_in (by omega), tz_fi, if_pos h33]
