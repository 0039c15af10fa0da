
theorem tz_ds_ca {m m' : Nat} {g q q' : Nat → Int32} {d : Int32} (h : tz_at m q = tz_at m' q') : ∀ k, tz_ds g m q d k = tz_ds g m' q' d k := by
  intro k
  induction k with
  | zero => rfl
  | succ k ih => simp only [tz_ds, tz_dc, h, ih]
theorem tz_dn_ca {m m' n : Nat} {g q q' : Nat → Int32} {d : Int32} (h : tz_at m q = tz_at m' q') : tz_dn g m q d n = tz_dn g m' q' d n := by simp only [tz_dn, tz_dc, h]
theorem tz_sh_ca {m m' n : Nat} {g q q' : Nat → Int32} (h : tz_at m q = tz_at m' q') : ∀ t, tz_sh g n m q t = tz_sh g n m' q' t := by
  intro t
  induction t with
  | zero => rfl
  | succ t ih => unfold tz_sh; rw [ih]; simp only [tz_dn_ca h, tz_ds_ca h]
theorem tz_agR.at {R R' : tz_RR} {p : Nat} (h : tz_agR R R') (hp : p < 4) (hn : (R' p).1 ≤ 120) : tz_at (R p).1 (R p).2 = tz_at (R' p).1 (R' p).2 := by
  rw [(h p hp).1]
  exact tz_at_cg (h p hp).2 hn
theorem tz_fx_cgR {v : tz_V4} {R R' : tz_RR} {n : Nat} {g : Nat → Int32} (h : tz_agR R R') (hR : ∀ p, p < 4 → (R' p).1 ≤ 120) (hv : tz_can v.1 v.2.1 v.2.2.1) : tz_fx v R n g = tz_fx v R' n g := by
  unfold tz_fx
  by_cases h2 : v.1 = 2
  · obtain ⟨p, w, hp, hw, e1, e2⟩ := tz_can2 hv h2
    have hat := h.at hp (hR p hp)
    rw [e1, nI_clamp (by omega)]
    have e3 : tz_fi g n (R p).1 (R p).2 v.2.2.1.toNatClampNeg = tz_fi g n (R' p).1 (R' p).2 v.2.2.1.toNatClampNeg := by
      funext j
      simp only [tz_fi, tz_sh_ca hat, hat]
    rw [e3]
  · simp only [if_neg h2]
theorem tz_rn_cgR {lay : Nat → tz_V4} {R R' : tz_RR} {n : Nat} {g : Nat → Int32} {fo : Int32} (h : tz_agR R R') (hR : ∀ p, p < 4 → (R' p).1 ≤ 120) : ∀ k, (∀ i, i < k → tz_can (lay i).1 (lay i).2.1 (lay i).2.2.1) → tz_rn lay R n g fo k = tz_rn lay R' n g fo k := by
  intro k
  induction k with
  | zero => intro _; rfl
  | succ k ih =>
    intro hc
    simp only [tz_rn]
    rw [ih (fun i hi => hc i (by omega)), tz_fx_cgR h hR (hc k (by omega))]
theorem tz_rn_cg {lay : Nat → tz_V4} {R : tz_RR} {n : Nat} {g g' : Nat → Int32} {fo : Int32} (h : ∀ j, j < n → g j = g' j) (hn : n ≤ 120) : ∀ k, (tz_rn lay R n g fo k).1 = (tz_rn lay R n g' fo k).1 ∧ (∀ j, j < (tz_rn lay R n g fo k).1 → (tz_rn lay R n g fo k).2.1 j = (tz_rn lay R n g' fo k).2.1 j) ∧ (tz_rn lay R n g fo k).2.2 = (tz_rn lay R n g' fo k).2.2 ∧ (tz_rn lay R n g fo k).1 ≤ 120 := by
  intro k
  induction k with
  | zero => exact ⟨rfl, h, rfl, hn⟩
  | succ k ih =>
    simp only [tz_rn]
    generalize tz_rn lay R n g fo k = s at ih ⊢
    generalize tz_rn lay R n g' fo k = s' at ih ⊢
    obtain ⟨a, b, c⟩ := s
    obtain ⟨a', b', c'⟩ := s'
    obtain ⟨i1, i2, i3, i4⟩ := ih
    dsimp only at i1 i2 i3 i4 ⊢
    subst i1; subst i3
    by_cases h0 : (lay k).2.2.2 = 0
    · simp only [if_pos h0]
      exact ⟨trivial, i2, trivial, i4⟩
    · simp only [if_neg h0]
      obtain ⟨c1, c2, c3⟩ := tz_fx_cg (v := lay k) (R := R) (fo := c) i2 i4
      exact ⟨c1, c2, c3, tz_fx_le i4⟩
/-- the output of a pass: its length, its samples, where the place fo went -/
def tz_ou (t : tz_TS) (k : Nat) (fo : Int32) : Nat × (Nat → Int32) × Int32 := tz_rn t.2.2.1 t.1 (t.1 k).1 (t.1 k).2 fo t.2.1
theorem tz_ou_le {t : tz_TS} (hW : tz_WT t) {k : Nat} (hk : k < 4) (fo : Int32) : (tz_ou t k fo).1 ≤ 120 := (tz_rn_cg (fun _ _ => rfl) (hW.1 k hk).1 t.2.1).2.2.2
theorem tz_ou_of {L0 k n' : Nat} {f : tz_PH} {R : tz_RR} {o : Nat → Option Nat} {mp ml g' : Nat → Int32} {t : tz_TS} {fo fo' : Int32} (hag : tz_agT L0 f R o mp ml t) (hW : tz_WT t) (hk : k < 4) (h : tz_rI t.2.2.1 R (R k).1 (R k).2 fo t.2.1 n' g' fo') : n' = (tz_ou t k fo).1 ∧ (∀ j, j < (tz_ou t k fo).1 → g' j = (tz_ou t k fo).2.1 j) ∧ fo' = (tz_ou t k fo).2.2 := by
  obtain ⟨h1, h2, h3⟩ := h
  have hR : ∀ p, p < 4 → (t.1 p).1 ≤ 120 := fun p hp => (hW.1 p hp).1
  rw [tz_rn_cgR hag.1 hR t.2.1 (fun i hi => (hW.2.2.1 i hi).1), (hag.1 k hk).1] at h1 h2 h3
  obtain ⟨c1, c2, c3, -⟩ := tz_rn_cg (lay := t.2.2.1) (R := t.1) (fo := fo) (hag.1 k hk).2 (hR k hk) t.2.1
  unfold tz_ou
  exact ⟨h1.trans c1, fun j hj => (h2 j (by omega)).trans (c2 j (by omega)), h3.trans c3⟩
theorem tz_lost_cg {n : Nat} {g g' : Nat → Int32} (h : ∀ j, j < n → g j = g' j) : tz_lost n g = tz_lost n g' := tz_ct_cg (fun k hk => by rw [h k hk])
theorem tz_clk_cg {n : Nat} {g g' : Nat → Int32} (h : ∀ j, j < n → g j = g' j) (hn : n ≤ 120) : tz_clk n g = tz_clk n g' := tz_ct_cg (fun k hk => by simp only [tz_click, tz_bend, tz_at_cg h hn])
theorem tz_T_cg {n : Nat} {g g' : Nat → Int32} (h : ∀ j, j < n → g j = g' j) (hn : n ≤ 120) : tz_T n g = tz_T n g' := by unfold tz_T; rw [tz_tp_cg h hn]
theorem tz_tg_cg {n : Nat} {g g' : Nat → Int32} (h : ∀ j, j < n → g j = g' j) (hn : n ≤ 120) : tz_tg n g = tz_tg n g' := by unfold tz_tg; rw [tz_tp_cg h hn]
theorem tz_loud_cg {g g' : Nat → Int32} : ∀ {n : Nat}, (∀ j, j < n → g j = g' j) → tz_loud g n = tz_loud g' n := by
  intro n
  induction n with
  | zero => intro _; rfl
  | succ n ih => intro h; simp only [tz_loud, ih (fun j hj => h j (by omega)), h n (by omega)]
theorem tz_sq_cg {g g' : Nat → Int32} : ∀ {n : Nat}, (∀ j, j < n → g j = g' j) → tz_sq g n = tz_sq g' n := by
  intro n
  induction n with
  | zero => intro _; rfl
  | succ n ih => intro h; simp only [tz_sq, ih (fun j hj => h j (by omega)), h n (by omega)]
def tz_unl (n : Nat) (g : Nat → Int32) (n2 : Nat) (g2 : Nat → Int32) : Nat := tz_ct (fun k => decide (¬ (k < n2 ∧ g k = g2 k))) n
theorem tz_unl_cg {n n2 : Nat} {g g' g2 g2' : Nat → Int32} (h : ∀ j, j < n → g j = g' j) (h2 : ∀ j, j < n2 → g2 j = g2' j) : tz_unl n g n2 g2 = tz_unl n g' n2 g2' := tz_ct_cg (fun k hk => by
  rw [h k hk]
  by_cases e : k < n2
  · rw [h2 k e]
  · simp [e])
