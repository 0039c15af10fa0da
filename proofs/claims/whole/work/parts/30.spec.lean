
/-! ===== the state that both sides are held against ===== -/
abbrev tz_TS : Type := tz_RR × Nat × (Nat → tz_V4) × (Nat → Int32) × (Nat → Int32)
abbrev tz_SG : Type := (Nat → tz_TS) × Nat × (Nat → Int32 × Nat × (Nat → Int32)) × Int32
abbrev tz_cur (s : tz_SG) : tz_TS := s.1 s.2.1
abbrev tz_rw (s : tz_SG) (k : Nat) : Nat × (Nat → Int32) := (tz_cur s).1 k
def tz_fnd (s : tz_SG) : tz_SG := (s.1, s.2.1, s.2.2.1, s.2.2.2 + 1)
def tz_psh (ts : Nat → tz_TS) (kp : Nat) (t : tz_TS) : Nat → tz_TS := if kp < 20 then va_up ts (kp + 1) t else fun j => if j < 20 then ts (j + 1) else t
def tz_act (s : tz_SG) (t : tz_TS) : tz_SG := (tz_psh s.1 s.2.1 t, min (s.2.1 + 1) 20, s.2.2.1, s.2.2.2)
def tz_sr (t : tz_TS) (k : Nat) (r : Nat × (Nat → Int32)) : tz_TS := (va_up t.1 k r, t.2)
def tz_an (s : tz_SG) (v : Int32) : Int32 × tz_SG := (v, (s.1, s.2.1, s.2.2.1, if v ≤ -100000 then s.2.2.2 + 1 else s.2.2.2))
abbrev tz_BE : Int32 := -100001
abbrev tz_MI_ : Int32 := -100002
abbrev tz_SI : Int32 := -100003
abbrev tz_KI : Int32 := -100004
abbrev tz_FU : Int32 := -100005
def tz_agR (R R' : tz_RR) : Prop := ∀ p, p < 4 → (R p).1 = (R' p).1 ∧ ∀ j, j < (R' p).1 → (R p).2 j = (R' p).2 j
def tz_agM (m m' : Nat → Int32) : Prop := ∀ k, k < 6 → m k = m' k
def tz_agT (L0 : Nat) (f : tz_PH) (R : tz_RR) (o : Nat → Option Nat) (mp ml : Nat → Int32) (t : tz_TS) : Prop := tz_agR R t.1 ∧ tz_Lv L0 f o t.2.1 t.2.2.1 ∧ tz_okL L0 f o ∧ tz_agM mp t.2.2.2.1 ∧ tz_agM ml t.2.2.2.2
/-- the record s leads from the state t' back to t -/
def tz_agS (L0 : Nat) (f : tz_PH) (s : tz_S7) (t t' : tz_TS) : Prop := s.2.2.2.1 = t.2.1 ∧ tz_Lv L0 f s.2.2.2.2.1 t.2.1 t.2.2.1 ∧ tz_okL L0 f s.2.2.2.2.1 ∧ tz_agM s.2.2.2.2.2.1 t.2.2.2.1 ∧ tz_agM s.2.2.2.2.2.2 t.2.2.2.2 ∧ ∀ p, p < 4 → (s.1 = nI p → s.2.1 = (t.1 p).1 ∧ ∀ j, j < (t.1 p).1 → s.2.2.1 j = (t.1 p).2 j) ∧ (¬ s.1 = nI p → t.1 p = t'.1 p)
def tz_agH (L0 : Nat) (f : tz_PH) (nx kp : Nat) (St : Nat → tz_S7) (ts : Nat → tz_TS) : Prop := ∀ j, j < kp → tz_agS L0 f (St ((nx + 20 - kp + j) % 20)) (ts j) (ts (j + 1))
theorem tz_okL.fs {L0 : Nat} {f f' : tz_PH} {o : Nat → Option Nat} (h : tz_okL L0 f o) (hq : ∀ q, L0 ≤ q → f q ≠ none → f' q = f q) : tz_okL L0 f' o := fun k hk b hb => by
  obtain ⟨hl, v, hv⟩ := h k hk b hb
  exact ⟨hl, v, (hq b hl (by rw [hv]; simp)).trans hv⟩
theorem tz_Lv.fs {L0 : Nat} {f f' : tz_PH} {o : Nat → Option Nat} {n : Nat} {lay : Nat → tz_V4} (h : tz_Lv L0 f o n lay) (hq : ∀ q, L0 ≤ q → f q ≠ none → f' q = f q) : tz_Lv L0 f' o n lay := fun k hk => by
  obtain ⟨b, hb, hl, hv⟩ := h k hk
  exact ⟨b, hb, hl, (hq b hl (by rw [hv]; simp)).trans hv⟩
theorem tz_agS.fs {L0 : Nat} {f f' : tz_PH} {s : tz_S7} {t t' : tz_TS} (h : tz_agS L0 f s t t') (hq : ∀ q, L0 ≤ q → f q ≠ none → f' q = f q) : tz_agS L0 f' s t t' := ⟨h.1, h.2.1.fs hq, h.2.2.1.fs hq, h.2.2.2⟩
theorem tz_agH.fs {L0 : Nat} {f f' : tz_PH} {nx kp : Nat} {St : Nat → tz_S7} {ts : Nat → tz_TS} (h : tz_agH L0 f nx kp St ts) (hq : ∀ q, L0 ≤ q → f q ≠ none → f' q = f q) : tz_agH L0 f' nx kp St ts := fun j hj => (h j hj).fs hq
def tz_agQ (Sb Sb' : Nat → Int32 × Nat × (Nat → Int32)) : Prop := ∀ s, s < 4 → (Sb s).1 = (Sb' s).1 ∧ (Sb s).2.1 = (Sb' s).2.1 ∧ ∀ j, j < (Sb' s).2.1 → (Sb s).2.2 j = (Sb' s).2.2 j
theorem tz_agT.fr {L0 : Nat} {f f' : tz_PH} {R : tz_RR} {o : Nat → Option Nat} {mp ml : Nat → Int32} {t : tz_TS} (h : tz_agT L0 f R o mp ml t) (hq : ∀ q, L0 ≤ q → f' q = f q) : tz_agT L0 f' R o mp ml t := ⟨h.1, h.2.1.fr hq, h.2.2.1.fr hq, h.2.2.2⟩
theorem tz_agS.fr {L0 : Nat} {f f' : tz_PH} {s : tz_S7} {t t' : tz_TS} (h : tz_agS L0 f s t t') (hq : ∀ q, L0 ≤ q → f' q = f q) : tz_agS L0 f' s t t' := ⟨h.1, h.2.1.fr hq, h.2.2.1.fr hq, h.2.2.2⟩
theorem tz_agH.fr {L0 : Nat} {f f' : tz_PH} {nx kp : Nat} {St : Nat → tz_S7} {ts : Nat → tz_TS} (h : tz_agH L0 f nx kp St ts) (hq : ∀ q, L0 ≤ q → f' q = f q) : tz_agH L0 f' nx kp St ts := fun j hj => (h j hj).fr hq
def tz_sha (b : Nat) : Nat → Option Nat := fun s => some (b + 1 + 2 * s)
def tz_Shs (cs : Nat → ClassId) (f : tz_PH) (b : Nat) (Sb : Nat → Int32 × Nat × (Nat → Int32)) : Prop := f b = some (tz_refs cs 3 4 (tz_sha b)) ∧ ∀ s, s < 4 → tz_Sh cs f (b + 1 + 2 * s) (Sb s).1 (Sb s).2.1 (Sb s).2.2
def tz_TuX (cs : Nat → ClassId) (f : tz_PH) (a : Nat) : Prop := ∃ (tn : Nat) (tg : Nat → Int32), tz_Tu cs f a tn tg ∧ tn ≤ 120
def tz_AlX (f : tz_PH) (a : Nat) : Prop := ∃ (z : Int32) (k : Nat), tz_Al f a z k
def tz_PlX (cs : Nat → ClassId) (f : tz_PH) (a : Nat) : Prop := ∃ (r x : Nat) (fo z : Int32) (k tn : Nat) (tg : Nat → Int32) (n : Nat) (g : Nat → Int32) (n2 : Nat) (g2 : Nat → Int32), tz_Pl cs f a r x fo z k tn tg n g n2 g2 ∧ n ≤ 120 ∧ tn ≤ 120
def tz_RoX (cs : Nat → ClassId) (f : tz_PH) (a : Nat) : Prop := ∃ (n : Nat) (g : Nat → Int32), tz_Row cs f a n g ∧ n ≤ 120
theorem tz_Sh.fr {cs : Nat → ClassId} {f f' : tz_PH} {a n : Nat} {b : Int32} {g : Nat → Int32} (h : tz_Sh cs f a b n g) (hq : ∀ q, a ≤ q → q < a + 2 → f' q = f q) : tz_Sh cs f' a b n g := ⟨(hq _ (by omega) (by omega)).trans h.1, (hq _ (by omega) (by omega)).trans h.2⟩
theorem tz_Shs.fr {cs : Nat → ClassId} {f f' : tz_PH} {b : Nat} {Sb : Nat → Int32 × Nat × (Nat → Int32)} (h : tz_Shs cs f b Sb) (hq : ∀ q, b ≤ q → q < b + 9 → f' q = f q) : tz_Shs cs f' b Sb := ⟨(hq _ (by omega) (by omega)).trans h.1, fun s hs => (h.2 s hs).fr (fun q a c => hq q (by omega) (by omega))⟩
theorem tz_TuX.fr {cs : Nat → ClassId} {f f' : tz_PH} {a : Nat} (h : tz_TuX cs f a) (hq : ∀ q, a ≤ q → q < a + 2 → f' q = f q) : tz_TuX cs f' a := by
  obtain ⟨tn, tg, h1, h2⟩ := h
  exact ⟨tn, tg, h1.fr hq, h2⟩
theorem tz_AlX.fr {f f' : tz_PH} {a : Nat} (h : tz_AlX f a) (hq : ∀ q, a ≤ q → q < a + 1 → f' q = f q) : tz_AlX f' a := by
  obtain ⟨z, k, h1⟩ := h
  exact ⟨z, k, (hq _ (by omega) (by omega)).trans h1⟩
theorem tz_PlX.fr {cs : Nat → ClassId} {f f' : tz_PH} {a : Nat} (h : tz_PlX cs f a) (hq : ∀ q, a ≤ q → q < a + 8 → f' q = f q) : tz_PlX cs f' a := by
  obtain ⟨r, x, fo, z, k, tn, tg, n, g, n2, g2, h1, h2⟩ := h
  exact ⟨r, x, fo, z, k, tn, tg, n, g, n2, g2, h1.fr hq, h2⟩
theorem tz_RoX.fr {cs : Nat → ClassId} {f f' : tz_PH} {a : Nat} (h : tz_RoX cs f a) (hq : ∀ q, a ≤ q → q < a + 2 → f' q = f q) : tz_RoX cs f' a := by
  obtain ⟨n, g, h1, h2⟩ := h
  exact ⟨n, g, h1.fr hq, h2⟩
def tz_XB (cs : Nat → ClassId) (f : tz_PH) (B : Nat) (R : tz_RR) (nl : Nat) (o : Nat → Option Nat) (mp ml : Nat → Int32) (nx kp : Nat) (St : Nat → tz_S7) (Sb : Nat → Int32 × Nat × (Nat → Int32)) (c : Int32) : Prop :=
  f B = some (tz_obj 10 [.ref (B + 1), .ref (B + 15), .ref (B + 157), .ref (B + 166), .ref (B + 168), .ref (B + 169), .ref (B + 177), .int c]) ∧ tz_Tape cs f (B + 1) R nl o mp ml ∧ tz_Hist cs f (B + 15) nx kp St ∧ tz_Shs cs f (B + 157) Sb ∧ tz_TuX cs f (B + 166) ∧ tz_AlX f (B + 168) ∧ tz_PlX cs f (B + 169) ∧ tz_RoX cs f (B + 177)
/-- the object at B stands for the state s; its Layers lie from L0 on -/
def tz_AX (cs : Nat → ClassId) (L0 : Nat) (f : tz_PH) (B : Nat) (s : tz_SG) : Prop := ∃ (R : tz_RR) (o : Nat → Option Nat) (mp ml : Nat → Int32) (nx : Nat) (St : Nat → tz_S7) (Sb : Nat → Int32 × Nat × (Nat → Int32)), tz_XB cs f B R (tz_cur s).2.1 o mp ml nx s.2.1 St Sb s.2.2.2 ∧ tz_agT L0 f R o mp ml (tz_cur s) ∧ nx < 20 ∧ tz_agH L0 f nx s.2.1 St s.1 ∧ tz_agQ Sb s.2.2.1
/-- what holds of every state that is reached -/
abbrev tz_okv (v : Int32) : Prop := v = tz_LO ∨ (-10000 ≤ v ∧ v ≤ 10000)
def tz_WT (t : tz_TS) : Prop := (∀ p, p < 4 → (t.1 p).1 ≤ 120 ∧ ∀ j, j < (t.1 p).1 → tz_okv ((t.1 p).2 j)) ∧ t.2.1 ≤ 8 ∧ (∀ k, k < t.2.1 → tz_can (t.2.2.1 k).1 (t.2.2.1 k).2.1 (t.2.2.1 k).2.2.1 ∧ ((t.2.2.1 k).2.2.2 = 0 ∨ (t.2.2.1 k).2.2.2 = 1)) ∧ ∀ k, k < 6 → (0 ≤ t.2.2.2.1 k ∧ t.2.2.2.1 k < 4) ∧ (-1 ≤ t.2.2.2.2 k ∧ t.2.2.2.2 k < 120)
def tz_WF (s : tz_SG) : Prop := s.2.1 ≤ 20 ∧ (∀ j, j ≤ s.2.1 → tz_WT (s.1 j)) ∧ ∀ k, k < 4 → (s.2.2.1 k).2.1 ≤ 120 ∧ ((s.2.2.1 k).1 = 0 ∨ (s.2.2.1 k).1 = 8 ∨ (s.2.2.1 k).1 = 16 ∨ (s.2.2.1 k).1 = 32)
theorem tz_WF.cur {s : tz_SG} (h : tz_WF s) : tz_WT (tz_cur s) := h.2.1 _ (Nat.le_refl _)
theorem tz_cur_act {s : tz_SG} {t : tz_TS} (h : s.2.1 ≤ 20) : tz_cur (tz_act s t) = t := by
  unfold tz_cur tz_act tz_psh
  dsimp only
  by_cases h1 : s.2.1 < 20
  · rw [if_pos h1, Nat.min_eq_left (by omega)]
    simp [va_up]
  · rw [if_neg h1, Nat.min_eq_right (by omega)]
    simp
theorem tz_held_agS {L0 : Nat} {f f' : tz_PH} {R : tz_RR} {nl : Nat} {o : Nat → Option Nat} {mp ml : Nat → Int32} {t t' : tz_TS} {p : Int32} {s : tz_S7} (hag : tz_agT L0 f R o mp ml t) (hRn : ∀ p, p < 4 → (t.1 p).1 ≤ 120) (hnl : t.2.1 ≤ 8) (hnl2 : nl = t.2.1) (hs : s.1 = p) (hh : tz_held R nl o mp ml p s.2.1 s.2.2.1 s.2.2.2.1 s.2.2.2.2.1 s.2.2.2.2.2.1 s.2.2.2.2.2.2) (hq : ∀ q, L0 ≤ q → f q ≠ none → f' q = f q) (hsame : ∀ k, k < 4 → ¬ p = nI k → t.1 k = t'.1 k) : tz_agS L0 f' s t t' := by
  obtain ⟨a1, a2, a3, a4, a5⟩ := hag
  obtain ⟨b1, b2, b3, b4, b5⟩ := hh
  refine ⟨b2.trans hnl2, (a2.fs hq).cg (fun k hk => b3 k (by omega)), (a3.fs hq).cg b3, fun k hk => (b4 k hk).trans (a4 k hk), fun k hk => (b5 k hk).trans (a5 k hk), fun k hk => ⟨fun e => ?_, fun e => hsame k hk (fun z => e (hs.trans z))⟩⟩
  obtain ⟨c1, c2⟩ := b1 k hk (hs.symm.trans e)
  have hk2 := hRn k hk
  exact ⟨c1.trans (a1 k hk).1, fun j hj => (c2 j (by omega)).trans ((a1 k hk).2 j hj)⟩
theorem tz_agH_act {L0 : Nat} {f f' : tz_PH} {nx kp : Nat} {St : Nat → tz_S7} {ts : Nat → tz_TS} {t' : tz_TS} {s7 : tz_S7} (hnx : nx < 20) (hkp : kp ≤ 20) (hH : tz_agH L0 f nx kp St ts) (hq : ∀ q, L0 ≤ q → f q ≠ none → f' q = f q) (hs : tz_agS L0 f' s7 (ts kp) t') : tz_agH L0 f' ((nx + 1) % 20) (min (kp + 1) 20) (va_up St nx s7) (tz_psh ts kp t') := by
  intro j hj
  by_cases h1 : kp < 20
  · rw [Nat.min_eq_left (by omega)] at hj ⊢
    unfold tz_psh
    rw [if_pos h1]
    by_cases e : j = kp
    · subst e
      have e1 : ((nx + 1) % 20 + 20 - (j + 1) + j) % 20 = nx := by omega
      rw [e1]
      simp only [va_up, if_true, if_neg (show ¬ j = j + 1 by omega)]
      exact hs
    · have e1 : ((nx + 1) % 20 + 20 - (kp + 1) + j) % 20 = (nx + 20 - kp + j) % 20 := by omega
      have e2 : ¬ (nx + 20 - kp + j) % 20 = nx := by omega
      rw [e1]
      simp only [va_up, if_neg e2, if_neg (show ¬ j = kp + 1 by omega), if_neg (show ¬ j + 1 = kp + 1 by omega)]
      exact (hH j (by omega)).fs hq
  · have ek : kp = 20 := by omega
    subst ek
    rw [Nat.min_eq_right (by omega)] at hj ⊢
    unfold tz_psh
    rw [if_neg (by omega)]
    simp only [if_pos hj]
    by_cases e : j = 19
    · subst e
      have e1 : ((nx + 1) % 20 + 20 - 20 + 19) % 20 = nx := by omega
      rw [e1]
      simp only [va_up, if_true]
      exact hs
    · have e1 : ((nx + 1) % 20 + 20 - 20 + j) % 20 = (nx + 20 - 20 + (j + 1)) % 20 := by omega
      have e2 : ¬ (nx + 20 - 20 + (j + 1)) % 20 = nx := by omega
      rw [e1]
      simp only [va_up, if_neg e2, if_pos (show j + 1 < 20 by omega)]
      exact (hH (j + 1) (by omega)).fs hq
/-- behind an act: the state is pushed -/
theorem tz_AX_act {cs : Nat → ClassId} {L0 B nx : Nat} {f f' : tz_PH} {s : tz_SG} {R R' : tz_RR} {o o' : Nat → Option Nat} {mp ml mp' ml' : Nat → Int32} {St : Nat → tz_S7} {Sb : Nat → Int32 × Nat × (Nat → Int32)} {s7 : tz_S7} {p : Int32} {t' : tz_TS} (hW : tz_WF s) (hag : tz_agT L0 f R o mp ml (tz_cur s)) (hnx : nx < 20) (hH : tz_agH L0 f nx s.2.1 St s.1) (hs : s7.1 = p) (hh : tz_held R (tz_cur s).2.1 o mp ml p s7.2.1 s7.2.2.1 s7.2.2.2.1 s7.2.2.2.2.1 s7.2.2.2.2.2.1 s7.2.2.2.2.2.2) (hq' : ∀ q, L0 ≤ q → f q ≠ none → f' q = f q)
    (hX : tz_XB cs f' B R' t'.2.1 o' mp' ml' ((nx + 1) % 20) (min (s.2.1 + 1) 20) (va_up St nx s7) Sb s.2.2.2) (hQ : tz_agQ Sb s.2.2.1) (hag' : tz_agT L0 f' R' o' mp' ml' t') (hsame : ∀ k, k < 4 → ¬ p = nI k → (tz_cur s).1 k = t'.1 k) : tz_AX cs L0 f' B (tz_act s t') := by
  skip
  refine ⟨R', o', mp', ml', (nx + 1) % 20, va_up St nx s7, Sb, ?_, ?_, Nat.mod_lt _ (by omega), ?_, hQ⟩
  · rw [tz_cur_act hW.1]; exact hX
  · rw [tz_cur_act hW.1]; exact hag'
  · exact tz_agH_act hnx hW.1 hH hq' (tz_held_agS hag (fun p hp => (hW.cur.1 p hp).1) hW.cur.2.1 rfl hs hh hq' hsame)


theorem tz_Tape.row {cs : Nat → ClassId} {f f' : tz_PH} {t nl k n' : Nat} {R : tz_RR} {o : Nat → Option Nat} {mp ml g' : Nat → Int32} (h : tz_Tape cs f t R nl o mp ml) (hk : k < 4) (hr : tz_Row cs f' (t + 6 + 2 * k) n' g') (hq : ∀ q, t ≤ q → q < t + 14 → (q < t + 6 + 2 * k ∨ t + 6 + 2 * k + 2 ≤ q) → f' q = f q) : tz_Tape cs f' t (va_up R k (n', g')) nl o mp ml := by
  obtain ⟨h1, h2, h3, h4, h5, h6⟩ := h
  refine ⟨(hq _ (by omega) (by omega) (by omega)).trans h1, (hq _ (by omega) (by omega) (by omega)).trans h2, h3.fr (fun q a b => hq q (by omega) (by omega) (by omega)), (hq _ (by omega) (by omega) (by omega)).trans h4, (hq _ (by omega) (by omega) (by omega)).trans h5, fun p hp => ?_⟩
  by_cases e : p = k
  · subst e
    simp only [va_up, if_true]
    exact hr
  · simp only [va_up, if_neg e]
    exact (h6 p hp).fr (fun q a b => hq q (by omega) (by omega) (by omega))
/-- behind an act that changed one pass -/
theorem tz_AX_row {cs : Nat → ClassId} {L0 B nx k n' : Nat} {f f' : tz_PH} {s : tz_SG} {R : tz_RR} {o : Nat → Option Nat} {mp ml g' : Nat → Int32} {St : Nat → tz_S7} {Sb : Nat → Int32 × Nat × (Nat → Int32)} {s7 : tz_S7} {r : Nat × (Nat → Int32)} (hW : tz_WF s) (hB : B + 179 ≤ L0) (hT : tz_Tape cs f (B + 1) R (tz_cur s).2.1 o mp ml) (hag : tz_agT L0 f R o mp ml (tz_cur s)) (hnx : nx < 20) (hH : tz_agH L0 f nx s.2.1 St s.1) (hQ : tz_agQ Sb s.2.2.1) (hk : k < 4) (hs : s7.1 = nI k) (hh : tz_held R (tz_cur s).2.1 o mp ml (nI k) s7.2.1 s7.2.2.1 s7.2.2.2.1 s7.2.2.2.2.1 s7.2.2.2.2.2.1 s7.2.2.2.2.2.2)
    (hq : ∀ q, (B + 1 ≤ q ∧ q < B + 15 ∨ L0 ≤ q) ∧ (q < B + 1 + 6 + 2 * k ∨ B + 1 + 6 + 2 * k + 2 ≤ q) → f' q = f q) (h0 : f' B = some (tz_obj 10 [.ref (B + 1), .ref (B + 15), .ref (B + 157), .ref (B + 166), .ref (B + 168), .ref (B + 169), .ref (B + 177), .int s.2.2.2])) (h1 : tz_Hist cs f' (B + 15) ((nx + 1) % 20) (min (s.2.1 + 1) 20) (va_up St nx s7)) (h2 : tz_Shs cs f' (B + 157) Sb) (h3 : tz_TuX cs f' (B + 166)) (h4 : tz_AlX f' (B + 168)) (h5 : tz_PlX cs f' (B + 169)) (h6 : tz_RoX cs f' (B + 177))
    (hrow : tz_Row cs f' (B + 1 + 6 + 2 * k) n' g') (hr : n' = r.1 ∧ ∀ j, j < r.1 → g' j = r.2 j) : tz_AX cs L0 f' B (tz_act s (tz_sr (tz_cur s) k r)) := by
  refine tz_AX_act (t' := tz_sr (tz_cur s) k r) hW hag hnx hH hs hh (fun q h _ => hq q (by omega)) (Sb := Sb) (R' := va_up R k (n', g')) (o' := o) (mp' := mp) (ml' := ml) ⟨h0, hT.row hk hrow (fun q a b c => hq q (by omega)), h1, h2, h3, h4, h5, h6⟩ hQ ⟨?_, (hag.2.1).fr (fun q h => hq q (by omega)), (hag.2.2.1).fr (fun q h => hq q (by omega)), hag.2.2.2⟩ ?_
  · intro p hp
    show (va_up R k (n', g') p).1 = (va_up (tz_cur s).1 k r p).1 ∧ ∀ j, j < (va_up (tz_cur s).1 k r p).1 → (va_up R k (n', g') p).2 j = (va_up (tz_cur s).1 k r p).2 j
    by_cases e : p = k
    · subst e
      simp only [va_up, if_true]
      exact hr
    · simp only [va_up, if_neg e]
      exact hag.1 p hp
  · intro p hp e
    show (tz_cur s).1 p = va_up (tz_cur s).1 k r p
    have e2 : ¬ p = k := fun z => e (by rw [z])
    simp only [va_up, if_neg e2]
theorem tz_at_lt {D : va_G} {a : Nat} {e : va_E} {H : Heap} (h : va_at D classes (a, e) H) : a < H.size := by
  have key : ∀ c : Cell, H[a]? = some c → a < H.size := fun c hc => (Array.getElem?_eq_some_iff.mp hc).1
  cases e with
  | inl x => exact key _ h
  | inr x =>
    obtain ⟨r, h1, cell, q1, -⟩ := h
    exact key _ q1
theorem tz_lim {p : Program} {l : Launch} {e : Env} {R : Room} {s : State} {m : MethodId} {args : Array Value} {below : List Frame} {meth : Method} {c : Code} {Q : State → Prop} {A : Nat → Prop} {D : va_G} {nL : Nat} {f : tz_PH} {sz cells slots pc : Nat} {lv : List (Nat × Value)} {st : List Value} (kk : (∀ q, sz ≤ q → f q = none) → tz_V p l e R s m args below meth c Q A D nL f sz cells slots pc lv st) : tz_V p l e R s m args below meth c Q A D nL f sz cells slots pc lv st := by
  intro H locs ls hz hP hS hl
  refine kk (fun q hq => ?_) H locs ls hz hP hS hl
  cases h : f q with
  | none => rfl
  | some e =>
    have := tz_at_lt (hP q e h).1
    omega
def tz_pk (p : Int32) : Option Nat := if 0 ≤ p ∧ p < 4 then some p.toNatClampNeg else none
theorem tz_pk_N {k : Nat} (h : k < 4) : tz_pk (nI k) = some k := by
  unfold tz_pk
  rw [if_pos ⟨nI_pos' (by omega), show nI k < nI 4 from nI_lt h (by omega)⟩, nI_clamp (by omega)]
theorem tz_pk_none {t : Nat} {p : Int32} (h : tz_rof t p = none) : tz_pk p = none := by
  unfold tz_pk
  rw [if_neg (tz_rof_none h)]
theorem tz_toN {x : Int32} {m : Nat} (h0 : ¬ x < 0) (h1 : x ≤ nI m) (hm : m < 2 ^ 30) : ∃ k, k ≤ m ∧ x = nI k := by
  have h2 : x < nI (m + 1) := by
    rw [Int32.lt_iff_toInt_lt, nI_toInt (by omega)]
    have := Int32.le_iff_toInt_le.mp h1
    rw [nI_toInt (by omega)] at this
    omega
  obtain ⟨j, hj, e⟩ := vp_in_of (x := x) (n := m + 1) (tz_inI h0 h2 (by omega)) (by omega)
  exact ⟨j, by omega, e⟩
abbrev tz_ln (s : tz_SG) (k : Nat) : Nat := (tz_rw s k).1
abbrev tz_sg (s : tz_SG) (k : Nat) : Nat → Int32 := (tz_rw s k).2
abbrev tz_AN : Type := Int32 × tz_SG
def sp_pass (s : tz_SG) (p n : Int32) : tz_AN := match tz_pk p with
  | none => tz_an s tz_BE
  | some k => if 0 ≤ n ∧ n ≤ 120 then (nI (tz_ln s k), tz_act s (tz_sr (tz_cur s) k (n.toNatClampNeg, fun _ => 0))) else tz_an s tz_BE
def sp_put (s : tz_SG) (p i v : Int32) : tz_AN := match tz_pk p with
  | none => tz_an s tz_BE
  | some k => if (0 ≤ i ∧ i < nI (tz_ln s k)) ∧ -10000 ≤ v ∧ v ≤ 10000 then (tz_p (tz_at (tz_ln s k) (tz_sg s k) i = tz_LO), tz_act s (tz_sr (tz_cur s) k (tz_ln s k, tz_rset (tz_ln s k) (tz_sg s k) i v))) else tz_an s tz_BE
def sp_sample (s : tz_SG) (p i : Int32) : tz_AN := match tz_pk p with
  | none => tz_an s tz_BE
  | some k => if 0 ≤ i ∧ i < nI (tz_ln s k) then tz_an s (tz_at (tz_ln s k) (tz_sg s k) i) else tz_an s tz_BE
def tz_lost (n : Nat) (g : Nat → Int32) : Nat := tz_ct (fun k => decide (g k = tz_LO)) n
def tz_clk (n : Nat) (g : Nat → Int32) : Nat := tz_ct (fun k => decide (tz_click n g (nI k) 100)) n
def sp_about (s : tz_SG) (p w : Int32) : tz_AN := match tz_pk p with
  | none => tz_an s tz_BE
  | some k => if w = 0 then (nI (tz_ln s k), s) else if w = 1 then (nI (tz_lost (tz_ln s k) (tz_sg s k)), s) else if w = 2 then (nI (tz_T (tz_ln s k) (tz_sg s k)), s) else if w = 3 then (nI (tz_clk (tz_ln s k) (tz_sg s k)), s) else tz_an s tz_BE
def sp_turn (s : tz_SG) (p i : Int32) : tz_AN := match tz_pk p with
  | none => tz_an s tz_BE
  | some k => tz_an s (tz_pl (tz_T (tz_ln s k) (tz_sg s k)) (tz_tg (tz_ln s k) (tz_sg s k)) i)
