
theorem wf_act {s : tz_SG} {t : tz_TS} (h : tz_WF s) (ht : tz_WT t) : tz_WF (tz_act s t) := by
  obtain ⟨h1, h2, h3⟩ := h
  refine ⟨Nat.min_le_right _ _, fun j hj => ?_, h3⟩
  have hj' : j ≤ min (s.2.1 + 1) 20 := hj
  show tz_WT (tz_psh s.1 s.2.1 t j)
  unfold tz_psh
  by_cases e : s.2.1 < 20
  · rw [if_pos e]
    unfold va_up
    by_cases e2 : j = s.2.1 + 1
    · rw [if_pos e2]; exact ht
    · rw [if_neg e2]; exact h2 j (by omega)
  · rw [if_neg e]
    show tz_WT (if j < 20 then s.1 (j + 1) else t)
    by_cases e2 : j < 20
    · rw [if_pos e2]; exact h2 (j + 1) (by omega)
    · rw [if_neg e2]; exact ht
theorem wf_an {s : tz_SG} {v : Int32} (h : tz_WF s) : tz_WF (tz_an s v).2 := h
theorem wf_ss {s : tz_SG} {k n : Nat} {b : Int32} {g : Nat → Int32} (h : tz_WF s) (hn : n ≤ 120) (hb : b = 0 ∨ b = 8 ∨ b = 16 ∨ b = 32) : tz_WF (tz_ss s k (b, n, g)) := by
  obtain ⟨h1, h2, h3⟩ := h
  refine ⟨h1, h2, fun q hq => ?_⟩
  show (va_up s.2.2.1 k (b, n, g) q).2.1 ≤ 120 ∧ _
  by_cases e : q = k
  · have e1 : va_up s.2.2.1 k (b, n, g) q = (b, n, g) := by unfold va_up; rw [if_pos e]
    show (va_up s.2.2.1 k (b, n, g) q).2.1 ≤ 120 ∧ ((va_up s.2.2.1 k (b, n, g) q).1 = 0 ∨ (va_up s.2.2.1 k (b, n, g) q).1 = 8 ∨ (va_up s.2.2.1 k (b, n, g) q).1 = 16 ∨ (va_up s.2.2.1 k (b, n, g) q).1 = 32)
    rw [e1]; exact ⟨hn, hb⟩
  · have e1 : va_up s.2.2.1 k (b, n, g) q = s.2.2.1 q := by unfold va_up; rw [if_neg e]
    show (va_up s.2.2.1 k (b, n, g) q).2.1 ≤ 120 ∧ ((va_up s.2.2.1 k (b, n, g) q).1 = 0 ∨ (va_up s.2.2.1 k (b, n, g) q).1 = 8 ∨ (va_up s.2.2.1 k (b, n, g) q).1 = 16 ∨ (va_up s.2.2.1 k (b, n, g) q).1 = 32)
    rw [e1]; exact h3 q hq
theorem tz_pk_lt {p : Int32} {k : Nat} (h : tz_pk p = some k) : k < 4 ∧ p = nI k := by
  unfold tz_pk at h
  split at h
  · rename_i h1
    obtain ⟨j, hj, e⟩ := tz_pk_in h1
    have e2 := Option.some.inj h
    rw [e, nI_clamp (by omega)] at e2
    subst e2
    exact ⟨hj, e⟩
  · cases h
theorem tz_lk_lt {s : tz_SG} {i : Int32} {k : Nat} (h : tz_lk s i = some k) (hW : tz_WF s) : k < tz_nlr s := by
  unfold tz_lk at h
  split at h
  · rename_i h1
    obtain ⟨j, hj, e, e2⟩ := tz_lk_y h1 hW.cur.2.1
    have e3 := Option.some.inj h
    rw [e, nI_clamp (by have := hW.cur.2.1; omega)] at e3
    subst e3
    exact hj
  · cases h
theorem tz_cl120 {n : Int32} {m : Nat} (h : 0 ≤ n ∧ n ≤ nI m) (hm : m < 2 ^ 30) : n.toNatClampNeg ≤ m := by
  obtain ⟨j, hj, e⟩ := tz_toN (tz_le_nlt h.1) h.2 hm
  subst e
  rw [nI_clamp (by omega)]; exact hj
theorem wt_sl {t : tz_TS} {n : Nat} {lay : Nat → tz_V4} (h : tz_WT t) (hn : n ≤ 8) (hl : ∀ k, k < n → tz_can (lay k).1 (lay k).2.1 (lay k).2.2.1 ∧ ((lay k).2.2.2 = 0 ∨ (lay k).2.2.2 = 1)) : tz_WT (tz_sl t n lay) := ⟨h.1, hn, hl, h.2.2.2⟩
theorem wf_pass {s : tz_SG} {p n : Int32} (h : tz_WF s) : tz_WF (sp_pass s p n).2 := by
  unfold sp_pass
  split
  · exact wf_an h
  · rename_i k e
    split
    · rename_i hn
      exact wf_act h (tz_WT_sr h.cur (tz_pk_lt e).1 (tz_cl120 (m := 120) hn (by decide)) (fun j _ => Or.inr (by decide)))
    · exact wf_an h
theorem wf_put {s : tz_SG} {p i v : Int32} (h : tz_WF s) : tz_WF (sp_put s p i v).2 := by
  unfold sp_put
  split
  · exact wf_an h
  · rename_i k e
    split
    · rename_i hn
      refine wf_act h (tz_WT_sr h.cur (tz_pk_lt e).1 (h.cur.1 k (tz_pk_lt e).1).1 (fun j hj => ?_))
      unfold tz_rset
      split
      · simp only [upd]
        split
        · exact Or.inr hn.2
        · exact (h.cur.1 k (tz_pk_lt e).1).2 j hj
      · exact (h.cur.1 k (tz_pk_lt e).1).2 j hj
    · exact wf_an h
theorem wf_lose {s : tz_SG} {p i n : Int32} (h : tz_WF s) : tz_WF (sp_lose s p i n).2 := by
  unfold sp_lose
  split
  · exact wf_an h
  · rename_i k e
    split
    · exact wf_act h (tz_WT_sr h.cur (tz_pk_lt e).1 (h.cur.1 k (tz_pk_lt e).1).1 (tz_lsg_rg (h.cur.1 k (tz_pk_lt e).1).2))
    · exact wf_an h
theorem wf_sample {s : tz_SG} {p i : Int32} (h : tz_WF s) : tz_WF (sp_sample s p i).2 := by
  unfold sp_sample
  split
  · exact wf_an h
  · split <;> exact wf_an h
theorem wf_about {s : tz_SG} {p i : Int32} (h : tz_WF s) : tz_WF (sp_about s p i).2 := by
  unfold sp_about
  split
  · exact wf_an h
  · split
    · exact h
    · split
      · exact h
      · split
        · exact h
        · split
          · exact h
          · exact wf_an h
theorem wf_turn {s : tz_SG} {p i : Int32} (h : tz_WF s) : tz_WF (sp_turn s p i).2 := by
  unfold sp_turn
  split <;> exact wf_an h
theorem wf_sheet {s : tz_SG} {x b n : Int32} (h : tz_WF s) : tz_WF (sp_sheet s x b n).2 := by
  unfold sp_sheet
  split
  · exact wf_an h
  · split
    · rename_i hb
      split
      · exact wf_an h
      · rename_i h0
        split
        · rename_i hn
          refine wf_ss h ?_ hb
          split
          · exact Nat.zero_le _
          · exact tz_cl120 (m := 120) ⟨Int32.not_lt.mp h0, hn⟩ (by decide)
        · exact wf_an h
    · exact wf_an h
theorem wf_write {s : tz_SG} {x i v : Int32} (h : tz_WF s) : tz_WF (sp_write s x i v).2 := by
  unfold sp_write
  split
  · exact wf_an h
  · rename_i k e
    split
    · exact wf_an h
    · split
      · exact wf_ss h (h.2.2 k (tz_pk_lt e).1).1 (h.2.2 k (tz_pk_lt e).1).2
      · exact wf_an h
theorem wf_copy {s : tz_SG} {x i y j n : Int32} (h : tz_WF s) : tz_WF (sp_copy s x i y j n).2 := by
  unfold sp_copy
  split
  · exact wf_an h
  · split
    · exact wf_an h
    · rename_i b e
      split
      · exact wf_an h
      · split
        · exact wf_an h
        · split
          · exact wf_ss h (h.2.2 b (tz_pk_lt e).1).1 (h.2.2 b (tz_pk_lt e).1).2
          · exact wf_an h
theorem wf_lay {s : tz_SG} {p x : Int32} (h : tz_WF s) : tz_WF (sp_lay s p x).2 := by
  unfold sp_lay
  split
  · exact wf_an h
  · rename_i a ea
    split
    · exact wf_an h
    · rename_i b eb
      split
      · exact wf_an h
      · exact wf_act h (tz_WT_sr h.cur (tz_pk_lt ea).1 (h.2.2 b (tz_pk_lt eb).1).1 (fun j _ => tz_smp_ok))
theorem tz_can_b {k a b : Int32} (h : tz_can k a b) : tz_can k a (if k = 2 ∨ k = 5 then b else 0) := by
  by_cases e : k = 2 ∨ k = 5
  · rw [if_pos e]; exact h
  · rw [if_neg e]
    exact ⟨h.1, h.2.1, h.2.2.1, h.2.2.2.1, Or.inl (fun z => e (Or.inl z)), Or.inl (fun z => e (Or.inr z))⟩
theorem wf_layer {s : tz_SG} {k a b : Int32} (h : tz_WF s) : tz_WF (sp_layer s k a b).2 := by
  unfold sp_layer
  split
  · rename_i hc
    split
    · rename_i hn
      refine wf_act h (wt_sl h.cur (by omega) (fun q hq => ?_))
      unfold tz_inl
      by_cases e : q = tz_nlr s
      · rw [if_pos e]
        exact ⟨tz_can_b hc, Or.inr rfl⟩
      · rw [if_neg e, if_neg (by omega)]
        exact h.cur.2.2.1 q (show q < tz_nlr s by omega)
    · exact wf_an h
  · exact wf_an h
theorem wf_turnOn {s : tz_SG} {i on : Int32} (hon : on = 0 ∨ on = 1) (h : tz_WF s) : tz_WF (sp_turnOn s i on).2 := by
  unfold sp_turnOn
  split
  · exact wf_an h
  · rename_i k e
    refine wf_act h (wt_sl h.cur h.cur.2.1 (fun q hq => ?_))
    unfold va_up
    by_cases e2 : q = k
    · rw [if_pos e2]
      exact ⟨(h.cur.2.2.1 k (tz_lk_lt e h)).1, hon⟩
    · rw [if_neg e2]
      exact h.cur.2.2.1 q hq
theorem wf_rml {s : tz_SG} {k q : Nat} (h : tz_WF s) (hq : q < tz_nlr s - 1) : tz_can (tz_rml (tz_lyr s) k (tz_nlr s) q).1 (tz_rml (tz_lyr s) k (tz_nlr s) q).2.1 (tz_rml (tz_lyr s) k (tz_nlr s) q).2.2.1 ∧ ((tz_rml (tz_lyr s) k (tz_nlr s) q).2.2.2 = 0 ∨ (tz_rml (tz_lyr s) k (tz_nlr s) q).2.2.2 = 1) := by
  unfold tz_rml
  by_cases e : k ≤ q ∧ q < tz_nlr s - 1
  · rw [if_pos e]; exact h.cur.2.2.1 (q + 1) (show q + 1 < tz_nlr s by omega)
  · rw [if_neg e]; exact h.cur.2.2.1 q (show q < tz_nlr s by omega)
theorem wf_drop {s : tz_SG} {i : Int32} (h : tz_WF s) : tz_WF (sp_drop s i).2 := by
  unfold sp_drop
  split
  · exact wf_an h
  · rename_i k e
    have h8 := h.cur.2.1
    exact wf_act h (wt_sl h.cur (Nat.le_trans (Nat.sub_le _ _) h8) (fun q hq => wf_rml h hq))
theorem wf_move {s : tz_SG} {i j : Int32} (h : tz_WF s) : tz_WF (sp_move s i j).2 := by
  unfold sp_move
  split
  · exact wf_an h
  · rename_i a ea
    split
    · exact wf_an h
    · rename_i b eb
      have h8 := h.cur.2.1
      have ha := tz_lk_lt ea h
      have hb := tz_lk_lt eb h
      refine wf_act h (wt_sl h.cur h8 (fun q hq => ?_))
      have hq' : q < tz_nlr s := hq
      unfold tz_inl
      by_cases e : q = b
      · rw [if_pos e]; exact h.cur.2.2.1 a ha
      · rw [if_neg e]
        by_cases e2 : b < q ∧ q ≤ tz_nlr s - 1
        · rw [if_pos e2]; exact wf_rml h (by omega)
        · rw [if_neg e2]; exact wf_rml h (by omega)
theorem wf_told {s : tz_SG} {i w : Int32} (h : tz_WF s) : tz_WF (sp_told s i w).2 := by
  unfold sp_told
  split
  · exact wf_an h
  · split
    · exact h
    · split
      · exact h
      · split
        · exact h
        · split
          · exact h
          · exact wf_an h
theorem wf_as {s : tz_SG} {i w : Int32} (h : tz_WF s) : tz_WF (sp_as s i w).2 := by
  unfold sp_as
  split
  · exact wf_an h
  · split
    · split
      · exact h
      · exact wf_an h
    · exact wf_an h
theorem wf_size {s : tz_SG} {p : Int32} (h : tz_WF s) : tz_WF (sp_size s p).2 := by
  unfold sp_size
  split
  · exact wf_an h
  · exact h
theorem wf_out {s : tz_SG} {p i : Int32} (h : tz_WF s) : tz_WF (sp_out s p i).2 := by
  unfold sp_out
  split
  · exact wf_an h
  · split <;> exact wf_an h
theorem wf_heard {s : tz_SG} {p i : Int32} (h : tz_WF s) : tz_WF (sp_heard s p i).2 := by
  unfold sp_heard
  split
  · exact wf_an h
  · split
    · exact h
    · split
      · exact h
      · split
        · exact h
        · exact wf_an h
theorem wf_power {s : tz_SG} {p : Int32} (h : tz_WF s) : tz_WF (sp_power s p).2 := by
  unfold sp_power
  split
  · exact wf_an h
  · exact h
theorem wf_bake {s : tz_SG} {p q : Int32} (h : tz_WF s) : tz_WF (sp_bake s p q).2 := by
  unfold sp_bake
  split
  · exact wf_an h
  · rename_i a ea
    split
    · exact wf_an h
    · rename_i b eb
      exact wf_act h (tz_WT_sr h.cur (tz_pk_lt eb).1 (tz_ou_le h.cur (tz_pk_lt ea).1 (-1)) (tz_rn_ok h.cur (tz_pk_lt ea).1 (-1) _ (Nat.le_refl _)).1)
theorem wf_align {s : tz_SG} {p q w : Int32} (h : tz_WF s) : tz_WF (sp_align s p q w).2 := by
  unfold sp_align
  split
  · exact wf_an h
  · split
    · exact wf_an h
    · split <;> exact wf_an h
theorem wf_differ {s : tz_SG} {p q d z : Int32} (h : tz_WF s) : tz_WF (sp_differ s p q d z).2 := by
  unfold sp_differ
  split
  · exact wf_an h
  · split
    · exact wf_an h
    · split
      · exact h
      · exact wf_an h
theorem wf_seam {s : tz_SG} {p q x y : Int32} (h : tz_WF s) : tz_WF (sp_seam s p q x y).2 := by
  unfold sp_seam
  split
  · exact wf_an h
  · split
    · exact wf_an h
    · split <;> exact wf_an h
theorem wf_join {s : tz_SG} {p q x r : Int32} (h : tz_WF s) : tz_WF (sp_join s p q x r).2 := by
  unfold sp_join
  split
  · exact wf_an h
  · rename_i a ea
    split
    · exact wf_an h
    · rename_i b eb
      split
      · exact wf_an h
      · rename_i c ec
        split
        · rename_i hx
          have la : tz_ln s a ≤ 120 := (h.cur.1 a (tz_pk_lt ea).1).1
          have lb : tz_ln s b ≤ 120 := (h.cur.1 b (tz_pk_lt eb).1).1
          have hm := tz_cl120 hx (by omega)
          refine wf_act h (tz_WT_sr h.cur (tz_pk_lt ec).1 (Nat.max_le.mpr ⟨by omega, lb⟩) (fun j hj => ?_))
          unfold tz_jn
          split
          · exact (h.cur.1 a (tz_pk_lt ea).1).2 j (show j < tz_ln s a by omega)
          · exact (h.cur.1 b (tz_pk_lt eb).1).2 j (show j < tz_ln s b by omega)
        · exact wf_an h
theorem wf_mark {s : tz_SG} {m p i : Int32} (h : tz_WF s) : tz_WF (sp_mark s m p i).2 := by
  unfold sp_mark
  split
  · split
    · exact wf_an h
    · rename_i k e
      split
      · rename_i hi
        refine wf_act h ⟨h.cur.1, h.cur.2.1, h.cur.2.2.1, fun q hq => ?_⟩
        show (0 ≤ upd (tz_cur s).2.2.2.1 m.toNatClampNeg p q ∧ upd (tz_cur s).2.2.2.1 m.toNatClampNeg p q < 4) ∧ (-1 ≤ upd (tz_cur s).2.2.2.2 m.toNatClampNeg i q ∧ upd (tz_cur s).2.2.2.2 m.toNatClampNeg i q < 120)
        by_cases e2 : q = m.toNatClampNeg
        · subst e2
          rw [tz_updk, tz_updk]
          have hk := tz_pk_lt e
          refine ⟨?_, ?_⟩
          · rw [hk.2]; exact ⟨nI_pos' (by omega), nI_lt (b := 4) hk.1 (by decide)⟩
          · rcases hi with hi | hi
            · rw [hi]; exact ⟨by decide, by decide⟩
            · refine ⟨Int32.le_trans (by decide) hi.1, Int32.lt_of_lt_of_le hi.2 ?_⟩
              have la : tz_ln s k ≤ 120 := (h.cur.1 k hk.1).1
              exact nI_le (b := 120) la (by decide)
        · rw [tz_updo e2, tz_updo e2]
          exact h.cur.2.2.2 q hq
      · exact wf_an h
  · exact wf_an h
theorem wf_moment {s : tz_SG} {m : Int32} (h : tz_WF s) : tz_WF (sp_moment s m).2 := by
  unfold sp_moment
  split
  · split
    · exact wf_an h
    · split
      · split
        · exact wf_an h
        · exact h
      · exact wf_an h
  · exact wf_an h
theorem wf_undo {s : tz_SG} (h : tz_WF s) : tz_WF (sp_undo s).2 := by
  unfold sp_undo
  split
  · exact wf_an h
  · refine ⟨Nat.le_trans (Nat.sub_le _ _) h.1, fun j hj => h.2.1 j (Nat.le_trans hj (Nat.sub_le _ _)), h.2.2⟩
theorem wf_count {s : tz_SG} {w : Int32} (h : tz_WF s) : tz_WF (sp_count s w).2 := by
  unfold sp_count
  split
  · exact h
  · split
    · exact h
    · split
      · exact h
      · split
        · exact h
        · exact wf_an h
