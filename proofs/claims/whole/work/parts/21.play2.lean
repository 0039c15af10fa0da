
def tz_spv (g : Nat → Int32) (j k i : Nat) : Int32 := g j + tz_fd ((nI i - nI j) * (g k - g j)) (nI k - nI j)
def tz_spf (g gx : Nat → Int32) (j k i : Nat) : Nat → Int32 := fun y => if j < y ∧ y < i then tz_spv g j k y else gx y
theorem tz_spf_0 (g gx : Nat → Int32) (j k : Nat) : tz_spf g gx j k (j + 1) = gx := by funext y; unfold tz_spf; rw [if_neg (by omega)]
theorem tz_spf_s {g gx : Nat → Int32} {j k i n : Nat} (hn : n ≤ 120) (hi : i < n) (hj : j < i) : tz_rset n (tz_spf g gx j k i) (nI i) (tz_spv g j k i) = tz_spf g gx j k (i + 1) := by
  rw [tz_rset_N hn hi]
  funext y
  by_cases e : y = i
  · subst e
    rw [pk_us, tz_spf, if_pos (by omega)]
  · rw [pk_un e]
    unfold tz_spf
    by_cases h : j < y ∧ y < i
    · rw [if_pos h, if_pos (by omega)]
    · rw [if_neg h, if_neg (by omega)]
theorem tz_sub_ne0 {j k : Nat} (h : j < k) (hk : k < 2 ^ 30) : ¬ nI k - nI j = 0 := by
  rw [pk_sub (by omega)]
  exact nI_ne0 (by omega) (by omega)

abbrev rm_P_span : Room := { frames := 2, cells := 0, slots := 0, locals := 43 }
set_option maxHeartbeats 4000000 in
set_option maxRecDepth 100000 in
theorem ct_P_span {l : Launch} {A : Nat → Prop} {D : va_G} {cs : Nat → ClassId} {sz : Nat} {f : tz_PH} {a r x k tn n n2 : Nat} {fo z : Int32} {tg g g2 : Nat → Int32} (hP : tz_Pl cs f a r x fo z k tn tg n g n2 g2) (hn : n ≤ 120) {j k2 : Nat} (hj : j < k2) (hk2 : k2 < n) (hn2 : n2 = n) : tz_CN l tyP_span prog_6_method_9_code 6 (none) rm_P_span 0 0 A D cs sz [.ref a, .int (nI j), .int (nI k2)] f (none) (fun f' => tz_Row cs f' x n2 (tz_spf g g2 j k2 k2) ∧ ∀ q, (q < x ∨ x + 2 ≤ q) → f' q = f q) := by
  refine tz_C.ofB (lv0 := [(0, .ref a), (1, .int (nI j)), (2, .int (nI k2))]) (plainFor_of_name (by decide)) (Nat.le_of_ble_eq_true rfl) rfl ?_
  intro p_ e_ s_ m_ ar_ be_ me_ c_ Q_ C_ hr_ hk_ hnm_ hz_ hQ_
  have hrx := hP.2.2.2.2.2
  refine tz_aload_n C_ 0 rfl rfl td_P_span_0 ?_
  refine tz_get C_ tci_P 2 (by decide) tw_224 hP.1 rfl td_P_span_1 ?_
  refine tz_iload_n C_ 1 rfl rfl td_P_span_4 ?_
  refine tz_rV C_ tmi_R_at tw_332 tw_333 tw_577 hP.2.2.2.1.1 rfl (As := [.int (nI j)]) (by exact (ct_R_atN (n := n) (g := g) ⟨hP.2.2.2.1.1, hP.2.2.2.1.2⟩ (by omega) (by omega))) rfl (rest := []) rfl (by decide) (Nat.le_of_ble_eq_true rfl) td_P_span_5 (st1 := [.int (g j)]) rfl ?_
  refine tz_istore_n C_ (lv' := [(0, .ref a), (1, .int (nI j)), (2, .int (nI k2)), (3, .int (g j))]) [1, 2, 3, 0] rfl (by decide) rfl td_P_span_8 ?_
  refine tz_aload_n C_ 0 rfl rfl td_P_span_9 ?_
  refine tz_get C_ tci_P 2 (by decide) tw_224 hP.1 rfl td_P_span_10 ?_
  refine tz_iload_n C_ 2 rfl rfl td_P_span_13 ?_
  refine tz_rV C_ tmi_R_at tw_332 tw_333 tw_577 hP.2.2.2.1.1 rfl (As := [.int (nI k2)]) (by exact (ct_R_atN (n := n) (g := g) ⟨hP.2.2.2.1.1, hP.2.2.2.1.2⟩ (by omega) (by omega))) rfl (rest := []) rfl (by decide) (Nat.le_of_ble_eq_true rfl) td_P_span_14 (st1 := [.int (g k2)]) rfl ?_
  refine tz_istore C_ (lv' := [(0, .ref a), (1, .int (nI j)), (2, .int (nI k2)), (3, .int (g j)), (4, .int (g k2))]) [1, 2, 3, 4, 0] (by decide) rfl td_P_span_17 ?_
  refine tz_iload_n C_ 1 rfl rfl td_P_span_19 ?_
  refine tz_iconst C_ (v := 1) (by decide) td_P_span_20 ?_
  refine tz_iadd C_ td_P_span_21 ?_
  rw [show ((nI j) + 1 : Int32) = nI (j + 1) from nI_add (j) (1)]
  refine tz_istore C_ (lv' := [(0, .ref a), (1, .int (nI j)), (2, .int (nI k2)), (3, .int (g j)), (4, .int (g k2)), (5, .int (nI (j + 1)))]) [1, 2, 3, 4, 5, 0] (by decide) rfl td_P_span_22 ?_
  have loop24 : ∀ (kk24 : Nat) (i : Nat) (fL : tz_PH), (fL a = some (tz_obj 4 [.ref (a + 1), .ref (a + 2), .ref r, .ref x, .int fo])) → (tz_Row cs fL r n g) → (tz_Row cs fL x n2 (tz_spf g g2 j k2 i)) → (∀ q, (q < x ∨ x + 2 ≤ q) → fL q = f q) → (j < i ∧ i ≤ k2) → (k2 - i) < kk24 → tz_V p_ l e_ rm_P_span s_ m_ ar_ be_ me_ c_ Q_ A D 6 fL sz 0 0 24 [(0, .ref a), (1, .int (nI j)), (2, .int (nI k2)), (3, .int (g j)), (4, .int (g k2)), (5, .int (nI i))] [] := by
    intro kk24
    induction kk24 with
    | zero => intro i fL ha hr hX hfr hi hm24; omega
    | succ kk24 ih24 =>
      intro i fL ha hr hX hfr hi hm24
      refine tz_iload C_ 5 rfl td_P_span_24 ?_
      refine tz_iload_n C_ 2 rfl rfl td_P_span_26 ?_
      refine tz_icmp_ge C_ td_P_span_27 (fun h27 => ?_) (fun h27 => ?_)
      · skip
        replace h27 := (nI_leI (a := k2) (b := i) (by omega) (by omega)).mp h27
        refine tz_rvret C_ hr_ hk_ hQ_ rfl td_P_span_62 ?_
        have e9 : i = k2 := by omega
        rw [e9] at hX
        exact ⟨rfl, hX, hfr⟩
      · skip
        replace h27 := mt (nI_leI (a := k2) (b := i) (by omega) (by omega)).mpr h27
        refine tz_aload_n C_ 0 rfl rfl td_P_span_30 ?_
        refine tz_get C_ tci_P 3 (by decide) tw_225 ha rfl td_P_span_31 ?_
        refine tz_iload C_ 5 rfl td_P_span_34 ?_
        refine tz_iload_n C_ 3 rfl rfl td_P_span_36 ?_
        refine tz_iload C_ 5 rfl td_P_span_37 ?_
        refine tz_iload_n C_ 1 rfl rfl td_P_span_39 ?_
        refine tz_isub C_ td_P_span_40 ?_
        refine tz_iload C_ 4 rfl td_P_span_41 ?_
        refine tz_iload_n C_ 3 rfl rfl td_P_span_43 ?_
        refine tz_isub C_ td_P_span_44 ?_
        refine tz_imul C_ td_P_span_45 ?_
        refine tz_iload_n C_ 2 rfl rfl td_P_span_46 ?_
        refine tz_iload_n C_ 1 rfl rfl td_P_span_47 ?_
        refine tz_isub C_ td_P_span_48 ?_
        refine tz_rS C_ tmi_J_floorDiv tw_618 tw_617 (As := [.int (((nI i) - (nI j)) * ((g k2) - (g j))), .int ((nI k2) - (nI j))]) (by exact (ct_J_floorDiv (tz_sub_ne0 (by omega) (by omega)))) rfl (rest := [.int (g j), .int (nI i), .ref x]) rfl (by decide) (Nat.le_of_ble_eq_true rfl) td_P_span_49 (st1 := [.int (tz_fd (((nI i) - (nI j)) * ((g k2) - (g j))) ((nI k2) - (nI j))), .int (g j), .int (nI i), .ref x]) rfl ?_
        refine tz_iadd C_ td_P_span_52 ?_
        refine tz_cV C_ tmi_R_set tw_338 tw_339 tw_608 hX.1 rfl (As := [.int (nI i), .int ((g j) + (tz_fd (((nI i) - (nI j)) * ((g k2) - (g j))) ((nI k2) - (nI j))))]) (by exact (ct_R_set (n := n2) (g := tz_spf g g2 j k2 i) ⟨hX.1, hX.2⟩ (by omega))) rfl (rest := []) rfl (by decide) (Nat.le_of_ble_eq_true rfl) td_P_span_53 (st1 := []) rfl (fun f1 hF1 => ?_)
        obtain ⟨hP2, hq2⟩ := hF1
        refine tz_iinc C_ (k := 1) (v := nI (i + 1)) (lv' := [(0, .ref a), (1, .int (nI j)), (2, .int (nI k2)), (3, .int (g j)), (4, .int (g k2)), (5, .int (nI (i + 1)))]) 5 rfl (nI_1 i) [1, 2, 3, 4, 5, 0] (by decide) rfl td_P_span_56 ?_
        refine tz_goto C_ td_P_span_59 ?_
        have k3 : f1 a = some (tz_obj 4 [.ref (a + 1), .ref (a + 2), .ref r, .ref x, .int fo]) := ((hq2 _ (by omega)).trans ha)
        have k4 : f1 r = some (tz_obj 5 [.ref (r + 1), .int (nI n)]) := ((hq2 _ (by omega)).trans hr.1)
        have k5 : f1 (r + 1) = some (tz_ints cs 120 g) := ((hq2 _ (by omega)).trans hr.2)
        exact ih24 (i + 1) f1 k3 (⟨k4, k5⟩) (by rw [← tz_spf_s (n := n2) (by omega) (by omega) (by omega)]; exact ⟨hP2.1, hP2.2⟩) (fun q hh => by rw [hq2 q (by omega), hfr q (by omega)]) (⟨by omega, by omega⟩) (by omega)
  exact loop24 _ (j + 1) f hP.1 (⟨hP.2.2.2.1.1, hP.2.2.2.1.2⟩) (by rw [tz_spf_0]; exact ⟨hP.2.2.2.2.1.1, hP.2.2.2.2.1.2⟩) (fun q hh => rfl) (⟨by omega, by omega⟩) (Nat.lt_succ_self _)


/-- one more than the latest place ahead of i that is not LOST, 0 if there is none; the first such place from i on, n if there is none -/
def tz_prv (g : Nat → Int32) : Nat → Nat
  | 0 => 0
  | i + 1 => if g i = tz_LO then tz_prv g i else i + 1
def tz_nxd (g : Nat → Int32) (n : Nat) : Nat → Nat
  | 0 => n
  | d + 1 => if g (n - (d + 1)) = tz_LO then tz_nxd g n d else n - (d + 1)
def tz_nx (g : Nat → Int32) (n i : Nat) : Nat := tz_nxd g n (n - i)
def tz_br (n : Nat) (g : Nat → Int32) (v : Int32) : Nat → Int32 := fun i =>
  if g i = tz_LO then (if 0 < tz_prv g i ∧ tz_nx g n i < n ∧ nI (tz_nx g n i) - nI (tz_prv g i - 1) - 1 ≤ v then tz_spv g (tz_prv g i - 1) (tz_nx g n i) i else tz_LO) else g i
theorem tz_prv_le (g : Nat → Int32) : ∀ i, tz_prv g i ≤ i
  | 0 => Nat.le_refl _
  | i + 1 => by
    have := tz_prv_le g i
    unfold tz_prv
    split <;> omega
theorem tz_prv_run {g : Nat → Int32} {j : Nat} (hj : ¬ g j = tz_LO) : ∀ i, j < i → (∀ y, j < y → y < i → g y = tz_LO) → tz_prv g i = j + 1 := by
  intro i
  induction i with
  | zero => intro h; omega
  | succ i ih =>
    intro h hy
    unfold tz_prv
    by_cases e : i = j
    · subst e; rw [if_neg hj]
    · rw [if_pos (hy i (by omega) (by omega))]
      exact ih (by omega) (fun y a b => hy y a (by omega))
theorem tz_prv_0 {g : Nat → Int32} : ∀ i, (∀ y, y < i → g y = tz_LO) → tz_prv g i = 0 := by
  intro i
  induction i with
  | zero => intro _; rfl
  | succ i ih =>
    intro hy
    unfold tz_prv
    rw [if_pos (hy i (by omega))]
    exact ih (fun y a => hy y (by omega))
theorem tz_nx_s {g : Nat → Int32} {n i : Nat} (hi : i < n) (h : g i = tz_LO) : tz_nx g n i = tz_nx g n (i + 1) := by
  unfold tz_nx
  have e : n - i = (n - (i + 1)) + 1 := by omega
  have e2 : n - (n - (i + 1) + 1) = i := by omega
  rw [e, tz_nxd, e2, if_pos h]
theorem tz_nx_h {g : Nat → Int32} {n i : Nat} (hi : i < n) (h : ¬ g i = tz_LO) : tz_nx g n i = i := by
  unfold tz_nx
  have e : n - i = (n - (i + 1)) + 1 := by omega
  have e2 : n - (n - (i + 1) + 1) = i := by omega
  rw [e, tz_nxd, e2, if_neg h]
theorem tz_nx_n {g : Nat → Int32} {n i : Nat} (hi : n ≤ i) : tz_nx g n i = n := by
  unfold tz_nx
  have e : n - i = 0 := by omega
  rw [e, tz_nxd]
theorem tz_nx_run {g : Nat → Int32} {n k : Nat} (hk : k < n) (hg : ¬ g k = tz_LO) : ∀ d i, k - i = d → i ≤ k → (∀ y, i ≤ y → y < k → g y = tz_LO) → tz_nx g n i = k := by
  intro d
  induction d with
  | zero => intro i h1 h2 _; have e : i = k := by omega
            subst e; exact tz_nx_h hk hg
  | succ d ih =>
    intro i h1 h2 hy
    rw [tz_nx_s (by omega) (hy i (by omega) (by omega))]
    exact ih (i + 1) (by omega) (by omega) (fun y a b => hy y (by omega) b)
theorem tz_nx_all {g : Nat → Int32} {n : Nat} : ∀ d i, n - i = d → (∀ y, i ≤ y → y < n → g y = tz_LO) → tz_nx g n i = n := by
  intro d
  induction d with
  | zero => intro i h1 _; exact tz_nx_n (by omega)
  | succ d ih =>
    intro i h1 hy
    rw [tz_nx_s (by omega) (hy i (by omega) (by omega))]
    exact ih (i + 1) (by omega) (fun y a b => hy y (by omega) b)
/-- the state of the walk over a row: what lies ahead of 'ah' is done (ah: one more than the latest place that is not LOST) -/
def tz_brI (n : Nat) (g gx : Nat → Int32) (v : Int32) (ah k : Nat) : Prop := ah = tz_prv g k ∧ (∀ y, ah ≤ y → y < k → g y = tz_LO) ∧ (0 < ah → ¬ g (ah - 1) = tz_LO) ∧ ∀ y, y < n → gx y = if y < ah then tz_br n g v y else g y
theorem tz_brI_lost {n k ah : Nat} {g gx : Nat → Int32} {v : Int32} (h : tz_brI n g gx v ah k) (hg : g k = tz_LO) : tz_brI n g gx v ah (k + 1) := by
  obtain ⟨h1, h2, h3, h4⟩ := h
  refine ⟨by rw [tz_prv, if_pos hg]; exact h1, fun y a b => ?_, h3, h4⟩
  by_cases e : y = k
  · rw [e]; exact hg
  · exact h2 y a (by omega)
theorem tz_brI_span {n k ah : Nat} {g gx : Nat → Int32} {v : Int32} (h : tz_brI n g gx v ah k) (hk : k < n) (hg : ¬ g k = tz_LO) (ha : 0 < ah) (hv : nI k - nI (ah - 1) - 1 ≤ v) : tz_brI n g (tz_spf g gx (ah - 1) k k) v (k + 1) (k + 1) := by
  obtain ⟨h1, h2, h3, h4⟩ := h
  have hle := tz_prv_le g k
  refine ⟨by rw [tz_prv, if_neg hg], fun y a b => by omega, fun _ => hg, fun y hy => ?_⟩
  unfold tz_spf
  by_cases e : ah - 1 < y ∧ y < k
  · rw [if_pos e, if_pos (by omega)]
    have e1 : tz_prv g y = ah := by
      have := tz_prv_run (h3 ha) y (by omega) (fun z a b => h2 z (by omega) (by omega))
      omega
    have e2 : tz_nx g n y = k := tz_nx_run hk hg (k - y) y rfl (by omega) (fun z a b => h2 z (by omega) b)
    unfold tz_br
    rw [if_pos (h2 y (by omega) e.2), e1, e2, if_pos ⟨ha, hk, hv⟩]
  · rw [if_neg e, h4 y hy]
    by_cases e1 : y < ah
    · rw [if_pos e1, if_pos (by omega)]
    · rw [if_neg e1]
      by_cases e2 : y = k
      · subst e2
        rw [if_pos (by omega), tz_br, if_neg hg]
      · rw [if_neg (by omega)]
theorem tz_brI_skip {n k ah : Nat} {g gx : Nat → Int32} {v : Int32} (h : tz_brI n g gx v ah k) (hk : k < n) (hg : ¬ g k = tz_LO) (ha : ah = 0 ∨ ¬ nI k - nI (ah - 1) - 1 ≤ v) : tz_brI n g gx v (k + 1) (k + 1) := by
  obtain ⟨h1, h2, h3, h4⟩ := h
  have hle := tz_prv_le g k
  refine ⟨by rw [tz_prv, if_neg hg], fun y a b => by omega, fun _ => hg, fun y hy => ?_⟩
  rw [h4 y hy]
  by_cases e1 : y < ah
  · rw [if_pos e1, if_pos (by omega)]
  · rw [if_neg e1]
    by_cases e2 : y < k + 1
    · rw [if_pos e2]
      by_cases e3 : y = k
      · subst e3; rw [tz_br, if_neg hg]
      · have hl := h2 y (by omega) (by omega)
        have e5 : tz_nx g n y = k := tz_nx_run hk hg (k - y) y rfl (by omega) (fun z a b => h2 z (by omega) b)
        unfold tz_br
        rw [if_pos hl, if_neg]
        · exact hl
        · rintro ⟨a1, a2, a3⟩
          rcases ha with ha | ha
          · subst ha
            have := tz_prv_0 y (fun z b => h2 z (by omega) (by omega))
            omega
          · have hp : 0 < ah := by
              rcases Nat.eq_zero_or_pos ah with e9 | e9
              · subst e9
                have := tz_prv_0 y (fun z b => h2 z (by omega) (by omega))
                omega
              · exact e9
            have e6 : tz_prv g y = ah := by
              have := tz_prv_run (h3 hp) y (by omega) (fun z a b => h2 z (by omega) (by omega))
              omega
            rw [e6, e5] at a3
            exact ha a3
    · rw [if_neg e2]
theorem tz_brI_end {n ah : Nat} {g gx : Nat → Int32} {v : Int32} (h : tz_brI n g gx v ah n) : ∀ y, y < n → gx y = tz_br n g v y := by
  obtain ⟨h1, h2, h3, h4⟩ := h
  intro y hy
  rw [h4 y hy]
  by_cases e1 : y < ah
  · rw [if_pos e1]
  · rw [if_neg e1]
    have hl := h2 y (by omega) hy
    unfold tz_br
    rw [if_pos hl, if_neg]
    · exact hl
    · rintro ⟨-, a2, -⟩
      have := tz_nx_all (n - y) y rfl (fun z a b => h2 z (by omega) b)
      omega
def tz_ah (ah : Nat) : Int32 := nI ah - 1
theorem tz_ah_eq {ah : Nat} (h : ah < 2 ^ 30) : tz_ah ah = -1 ↔ ah = 0 := by
  unfold tz_ah
  constructor
  · intro z
    have h1 := congrArg Int32.toInt z
    have h2 : (-1 : Int32).toInt = -1 := rfl
    have h3 : (nI ah - 1).toInt = (ah : Int) - 1 := pk_sub_toInt (a := ah) (b := 1) (by omega) (by omega)
    rw [h2, h3] at h1; omega
  · intro z; subst z; rfl
theorem tz_ah_N {ah : Nat} (h : 0 < ah) : tz_ah ah = nI (ah - 1) := pk_sub (a := ah) (b := 1) (by omega)
theorem tz_ah_s (k : Nat) : nI k = tz_ah (k + 1) := by rw [tz_ah_N (by omega)]; rfl

abbrev rm_P_bridge : Room := { frames := 3, cells := 0, slots := 0, locals := 68 }
set_option maxHeartbeats 4000000 in
set_option maxRecDepth 100000 in
theorem ct_P_bridge {l : Launch} {A : Nat → Prop} {D : va_G} {cs : Nat → ClassId} {sz : Nat} {f : tz_PH} {a r x k tn n n2 : Nat} {fo z : Int32} {tg g g2 : Nat → Int32} (hP : tz_Pl cs f a r x fo z k tn tg n g n2 g2) (hn : n ≤ 120) {v : Int32} : tz_CN l tyP_bridge prog_6_method_8_code 4 (none) rm_P_bridge 0 0 A D cs sz [.ref a, .int v] f (none) (fun f' => (∃ gx : Nat → Int32, tz_Row cs f' x n gx ∧ ∀ j, j < n → gx j = tz_br n g v j) ∧ ∀ q, (q < x ∨ x + 2 ≤ q) → f' q = f q) := by
  refine tz_C.ofB (lv0 := [(0, .ref a), (1, .int v)]) (plainFor_of_name (by decide)) (Nat.le_of_ble_eq_true rfl) rfl ?_
  intro p_ e_ s_ m_ ar_ be_ me_ c_ Q_ C_ hr_ hk_ hnm_ hz_ hQ_
  have hrx := hP.2.2.2.2.2
  refine tz_aload_n C_ 0 rfl rfl td_P_bridge_0 ?_
  refine tz_get C_ tci_P 3 (by decide) tw_225 hP.1 rfl td_P_bridge_1 ?_
  refine tz_aload_n C_ 0 rfl rfl td_P_bridge_4 ?_
  refine tz_get C_ tci_P 2 (by decide) tw_224 hP.1 rfl td_P_bridge_5 ?_
  refine tz_cV C_ tmi_R_become tw_293 tw_294 tw_564 hP.2.2.2.2.1.1 rfl (As := [.ref r]) (by exact (ct_R_become (n := n2) (g := g2) (n2 := n) (g2 := g) ⟨hP.2.2.2.2.1.1, hP.2.2.2.2.1.2⟩ ⟨hP.2.2.2.1.1, hP.2.2.2.1.2⟩ (by omega))) rfl (rest := []) rfl (by decide) (Nat.le_of_ble_eq_true rfl) td_P_bridge_8 (st1 := []) rfl (fun f1 hF1 => ?_)
  obtain ⟨hP2, hq2⟩ := hF1
  refine tz_iconst C_ (v := -1) (by decide) td_P_bridge_11 ?_
  refine tz_istore_n C_ (lv' := [(0, .ref a), (1, .int v), (2, .int (-1))]) [1, 2, 0] rfl (by decide) rfl td_P_bridge_12 ?_
  refine tz_iconst C_ (v := 0) (by decide) td_P_bridge_13 ?_
  refine tz_istore_n C_ (lv' := [(0, .ref a), (1, .int v), (2, .int (-1)), (3, .int 0)]) [1, 2, 3, 0] rfl (by decide) rfl td_P_bridge_14 ?_
  have k3 : f1 a = some (tz_obj 4 [.ref (a + 1), .ref (a + 2), .ref r, .ref x, .int fo]) := ((hq2 _ (by omega)).trans hP.1)
  have k4 : f1 (a + 1) = some (tz_obj 0 [.int z, .int (nI k)]) := ((hq2 _ (by omega)).trans hP.2.1)
  have k5 : f1 (a + 2) = some (tz_obj 9 [.ref (a + 2 + 1), .int (nI tn)]) := ((hq2 _ (by omega)).trans hP.2.2.1.1)
  have k6 : f1 (a + 2 + 1) = some (tz_ints cs 120 tg) := ((hq2 _ (by omega)).trans hP.2.2.1.2)
  have k7 : f1 r = some (tz_obj 5 [.ref (r + 1), .int (nI n)]) := ((hq2 _ (by omega)).trans hP.2.2.2.1.1)
  have k8 : f1 (r + 1) = some (tz_ints cs 120 g) := ((hq2 _ (by omega)).trans hP.2.2.2.1.2)
  have loop15 : ∀ (kk15 : Nat) (gx : Nat → Int32) (ah : Nat) (i : Nat) (fL : tz_PH), (fL a = some (tz_obj 4 [.ref (a + 1), .ref (a + 2), .ref r, .ref x, .int fo])) → (tz_Al fL (a + 1) z k) → (tz_Tu cs fL (a + 2) tn tg) → (tz_Row cs fL r n g) → (tz_Row cs fL x n gx) → (∀ q, (q < x ∨ x + 2 ≤ q) → fL q = f q) → (i ≤ n) → (tz_brI n g gx v ah i) → (n - i) < kk15 → tz_V p_ l e_ rm_P_bridge s_ m_ ar_ be_ me_ c_ Q_ A D 4 fL sz 0 0 15 [(0, .ref a), (1, .int v), (2, .int (tz_ah ah)), (3, .int (nI i))] [] := by
    intro kk15
    induction kk15 with
    | zero => intro gx ah i fL ha hA hT hr hX hfr hi hI hm15; omega
    | succ kk15 ih15 =>
      intro gx ah i fL ha hA hT hr hX hfr hi hI hm15
      have hpl := tz_prv_le g i
      have hah1 := hI.1
      have e0 : tz_ah 0 = -1 := rfl
      refine tz_iload_n C_ 3 rfl rfl td_P_bridge_15 ?_
      refine tz_aload_n C_ 0 rfl rfl td_P_bridge_16 ?_
      refine tz_get C_ tci_P 2 (by decide) tw_224 ha rfl td_P_bridge_17 ?_
      refine tz_rV C_ tmi_R_length tw_308 tw_309 tw_576 hr.1 rfl (As := []) (by exact (ct_R_length (n := n) (g := g) ⟨hr.1, hr.2⟩)) rfl (rest := [.int (nI i)]) rfl (by decide) (Nat.le_of_ble_eq_true rfl) td_P_bridge_20 (st1 := [.int (nI n), .int (nI i)]) rfl ?_
      refine tz_icmp_ge C_ td_P_bridge_23 (fun h23 => ?_) (fun h23 => ?_)
      · skip
        replace h23 := (nI_leI (a := n) (b := i) (by omega) (by omega)).mp h23
        refine tz_rvret C_ hr_ hk_ hQ_ rfl td_P_bridge_70 ?_
        have e9 : i = n := by omega
        subst e9
        exact ⟨rfl, ⟨gx, hX, tz_brI_end hI⟩, hfr⟩
      · skip
        replace h23 := mt (nI_leI (a := n) (b := i) (by omega) (by omega)).mpr h23
        refine tz_aload_n C_ 0 rfl rfl td_P_bridge_26 ?_
        refine tz_get C_ tci_P 2 (by decide) tw_224 ha rfl td_P_bridge_27 ?_
        refine tz_iload_n C_ 3 rfl rfl td_P_bridge_30 ?_
        refine tz_rV C_ tmi_R_at tw_332 tw_333 tw_577 hr.1 rfl (As := [.int (nI i)]) (by exact (ct_R_atN (n := n) (g := g) ⟨hr.1, hr.2⟩ (by omega) (by omega))) rfl (rest := []) rfl (by decide) (Nat.le_of_ble_eq_true rfl) td_P_bridge_31 (st1 := [.int (g i)]) rfl ?_
        refine tz_ldc C_ tw_578 td_P_bridge_34 ?_
        refine tz_icmp_ne C_ td_P_bridge_36 (fun h36 => ?_) (fun h36 => ?_)
        · skip
          refine tz_iload_n C_ 2 rfl rfl td_P_bridge_42 ?_
          refine tz_iconst C_ (v := -1) (by decide) td_P_bridge_43 ?_
          refine tz_icmp_eq C_ td_P_bridge_44 (fun h44 => ?_) (fun h44 => ?_)
          · skip
            refine tz_iload_n C_ 3 rfl rfl td_P_bridge_62 ?_
            refine tz_istore_n C_ (lv' := [(0, .ref a), (1, .int v), (2, .int (nI i)), (3, .int (nI i))]) [1, 2, 0, 3] rfl (by decide) rfl td_P_bridge_63 ?_
            refine tz_iinc C_ (k := 1) (v := nI (i + 1)) (lv' := [(0, .ref a), (1, .int v), (2, .int (nI i)), (3, .int (nI (i + 1)))]) 3 rfl (nI_1 i) [1, 2, 3, 0] (by decide) rfl td_P_bridge_64 ?_
            rw [tz_ah_s i]
            refine tz_goto C_ td_P_bridge_67 ?_
            exact ih15 gx (i + 1) (i + 1) fL ha hA (⟨hT.1, hT.2⟩) (⟨hr.1, hr.2⟩) (⟨hX.1, hX.2⟩) (fun q hh => by rw [hfr q (by omega)]) (by omega) (tz_brI_skip hI (by omega) h36 (Or.inl ((tz_ah_eq (by omega)).mp h44))) (by omega)
          · skip
            have hah : 0 < ah := Nat.pos_of_ne_zero (fun z => h44 ((tz_ah_eq (by omega)).mpr z))
            rw [tz_ah_N hah]
            refine tz_iload_n C_ 3 rfl rfl td_P_bridge_47 ?_
            refine tz_iload_n C_ 2 rfl rfl td_P_bridge_48 ?_
            refine tz_isub C_ td_P_bridge_49 ?_
            refine tz_iconst C_ (v := 1) (by decide) td_P_bridge_50 ?_
            refine tz_isub C_ td_P_bridge_51 ?_
            refine tz_iload_n C_ 1 rfl rfl td_P_bridge_52 ?_
            refine tz_icmp_gt C_ td_P_bridge_53 (fun h53 => ?_) (fun h53 => ?_)
            · skip
              refine tz_iload_n C_ 3 rfl rfl td_P_bridge_62 ?_
              refine tz_istore_n C_ (lv' := [(0, .ref a), (1, .int v), (2, .int (nI i)), (3, .int (nI i))]) [1, 2, 0, 3] rfl (by decide) rfl td_P_bridge_63 ?_
              refine tz_iinc C_ (k := 1) (v := nI (i + 1)) (lv' := [(0, .ref a), (1, .int v), (2, .int (nI i)), (3, .int (nI (i + 1)))]) 3 rfl (nI_1 i) [1, 2, 3, 0] (by decide) rfl td_P_bridge_64 ?_
              rw [tz_ah_s i]
              refine tz_goto C_ td_P_bridge_67 ?_
              exact ih15 gx (i + 1) (i + 1) fL ha hA (⟨hT.1, hT.2⟩) (⟨hr.1, hr.2⟩) (⟨hX.1, hX.2⟩) (fun q hh => by rw [hfr q (by omega)]) (by omega) (tz_brI_skip hI (by omega) h36 (Or.inr (Int32.not_le.mpr h53))) (by omega)
            · skip
              refine tz_aload_n C_ 0 rfl rfl td_P_bridge_56 ?_
              refine tz_iload_n C_ 2 rfl rfl td_P_bridge_57 ?_
              refine tz_iload_n C_ 3 rfl rfl td_P_bridge_58 ?_
              refine tz_cV C_ tmi_P_span tw_615 tw_8 tw_613 ha rfl (As := [.int (nI (ah - 1)), .int (nI i)]) (by exact (ct_P_span ⟨ha, hA, ⟨hT.1, hT.2⟩, ⟨hr.1, hr.2⟩, ⟨hX.1, hX.2⟩, hrx⟩ hn (by omega) (by omega) rfl)) rfl (rest := []) rfl (by decide) (Nat.le_of_ble_eq_true rfl) td_P_bridge_59 (st1 := []) rfl (fun f9 hF9 => ?_)
              obtain ⟨hP10, hq10⟩ := hF9
              refine tz_iload_n C_ 3 rfl rfl td_P_bridge_62 ?_
              refine tz_istore_n C_ (lv' := [(0, .ref a), (1, .int v), (2, .int (nI i)), (3, .int (nI i))]) [1, 2, 0, 3] rfl (by decide) rfl td_P_bridge_63 ?_
              refine tz_iinc C_ (k := 1) (v := nI (i + 1)) (lv' := [(0, .ref a), (1, .int v), (2, .int (nI i)), (3, .int (nI (i + 1)))]) 3 rfl (nI_1 i) [1, 2, 3, 0] (by decide) rfl td_P_bridge_64 ?_
              rw [tz_ah_s i]
              refine tz_goto C_ td_P_bridge_67 ?_
              have k11 : f9 a = some (tz_obj 4 [.ref (a + 1), .ref (a + 2), .ref r, .ref x, .int fo]) := ((hq10 _ (by omega)).trans ha)
              have k12 : f9 (a + 1) = some (tz_obj 0 [.int z, .int (nI k)]) := ((hq10 _ (by omega)).trans hA)
              have k13 : f9 (a + 2) = some (tz_obj 9 [.ref (a + 2 + 1), .int (nI tn)]) := ((hq10 _ (by omega)).trans hT.1)
              have k14 : f9 (a + 2 + 1) = some (tz_ints cs 120 tg) := ((hq10 _ (by omega)).trans hT.2)
              have k15 : f9 r = some (tz_obj 5 [.ref (r + 1), .int (nI n)]) := ((hq10 _ (by omega)).trans hr.1)
              have k16 : f9 (r + 1) = some (tz_ints cs 120 g) := ((hq10 _ (by omega)).trans hr.2)
              exact ih15 (tz_spf g gx (ah - 1) i i) (i + 1) (i + 1) f9 k11 k12 (⟨k13, k14⟩) (⟨k15, k16⟩) (⟨hP10.1, hP10.2⟩) (fun q hh => by rw [hq10 q (by omega), hfr q (by omega)]) (by omega) (tz_brI_span hI (by omega) h36 hah (Int32.not_lt.mp h53)) (by omega)
        · skip
          refine tz_goto C_ td_P_bridge_39 ?_
          refine tz_iinc C_ (k := 1) (v := nI (i + 1)) (lv' := [(0, .ref a), (1, .int v), (2, .int (tz_ah ah)), (3, .int (nI (i + 1)))]) 3 rfl (nI_1 i) [1, 2, 3, 0] (by decide) rfl td_P_bridge_64 ?_
          refine tz_goto C_ td_P_bridge_67 ?_
          exact ih15 gx ah (i + 1) fL ha hA (⟨hT.1, hT.2⟩) (⟨hr.1, hr.2⟩) (⟨hX.1, hX.2⟩) (fun q hh => by rw [hfr q (by omega)]) (by omega) (tz_brI_lost hI h36) (by omega)
  exact loop15 _ (va_cpy g g2 0 0 120) 0 0 f1 k3 k4 (⟨k5, k6⟩) (⟨k7, k8⟩) (⟨hP2.1, hP2.2⟩) (fun q hh => by rw [hq2 q (by omega)]) (Nat.zero_le _) (⟨rfl, fun y _ h9 => absurd h9 (Nat.not_lt_zero y), fun h9 => absurd h9 (Nat.lt_irrefl 0), fun y hy => by rw [if_neg (Nat.not_lt_zero y)]; exact tz_cpy_in (by omega)⟩) (Nat.lt_succ_self _)
