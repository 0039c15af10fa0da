
/-! ===== the state that both sides are held against ===== -/
abbrev tz_TS : Type := tz_RR × Nat × (Nat → tz_V4) × (Nat → Int32) × (Nat → Int32)
abbrev tz_SG : Type := (Nat → tz_TS) × Nat × (Nat → Int32 × Nat × (Nat → Int32)) × Int32
abbrev tz_cur (s : tz_SG) : tz_TS := s.1 s.2.1
abbrev tz_rw (s : tz_SG) (k : Nat) : Nat × (Nat → Int32) := (tz_cur s).1 k
def tz_fnd (s : tz_SG) : tz_SG := (s.1, s.2.1, s.2.2.1, s.2.2.2 + 1)
def tz_psh (ts : Nat → tz_TS) (kp : Nat) (t : tz_TS) : Nat → tz_TS := if kp < 20 then va_up ts (kp + 1) t else fun j => if j < 20 then ts (j + 1) else t
def tz_act (s : tz_SG) (t : tz_TS) : tz_SG := (tz_psh s.1 s.2.1 t, min (s.2.1 + 1) 20, s.2.2.1, s.2.2.2)
def tz_sr (t : tz_TS) (k : Nat) (r : Nat × (Nat → Int32)) : tz_TS := (va_up t.1 k r, t.2)
def tz_bad (s : tz_SG) (x : Int32) : Int32 × tz_SG := (x, tz_fnd s)
abbrev tz_BE : Int32 := -100001
abbrev tz_MI_ : Int32 := -100002
abbrev tz_SI : Int32 := -100003
abbrev tz_KI : Int32 := -100004
abbrev tz_FU : Int32 := -100005
def tz_agR (R R' : tz_RR) : Prop := ∀ p, p < 4 → (R p).1 = (R' p).1 ∧ ∀ j, j < (R' p).1 → (R p).2 j = (R' p).2 j
def tz_agM (m m' : Nat → Int32) : Prop := ∀ k, k < 6 → m k = m' k
def tz_agT (L0 : Nat) (f : tz_PH) (R : tz_RR) (o : Nat → Option Nat) (mp ml : Nat → Int32) (t : tz_TS) : Prop := tz_agR R t.1 ∧ tz_Lv L0 f o t.2.1 t.2.2.1 ∧ tz_okL L0 f o ∧ tz_agM mp t.2.2.2.1 ∧ tz_agM ml t.2.2.2.2
/-- the record s leads from the state t' back to t -/
def tz_agS (L0 : Nat) (f : tz_PH) (s : tz_S7) (t t' : tz_TS) : Prop := s.2.2.2.1 = t.2.1 ∧ tz_Lv L0 f s.2.2.2.2.1 t.2.1 t.2.2.1 ∧ tz_okL L0 f s.2.2.2.2.1 ∧ tz_agM s.2.2.2.2.2.1 t.2.2.2.1 ∧ tz_agM s.2.2.2.2.2.2 t.2.2.2.2 ∧ ∀ p, p < 4 → (s.1 = nI p → s.2.1 = (t.1 p).1 ∧ ∀ j, j < (t.1 p).1 → s.2.2.1 j = (t.1 p).2 j) ∧ (¬ s.1 = nI p → t.1 p = t'.1 p)
def tz_agH (L0 : Nat) (f : tz_PH) (nx kp : Nat) (St : Nat → tz_S7) (ts : Nat → tz_TS) : Prop := ∀ j, j < kp → tz_agS L0 f (St ((nx + 20 - kp + j) % 20)) (ts j) (ts (j + 1))
theorem tz_agT.fr {L0 : Nat} {f f' : tz_PH} {R : tz_RR} {o : Nat → Option Nat} {mp ml : Nat → Int32} {t : tz_TS} (h : tz_agT L0 f R o mp ml t) (hq : ∀ q, L0 ≤ q → f' q = f q) : tz_agT L0 f' R o mp ml t := ⟨h.1, h.2.1.fr hq, h.2.2.1.fr hq, h.2.2.2⟩
theorem tz_agS.fr {L0 : Nat} {f f' : tz_PH} {s : tz_S7} {t t' : tz_TS} (h : tz_agS L0 f s t t') (hq : ∀ q, L0 ≤ q → f' q = f q) : tz_agS L0 f' s t t' := ⟨h.1, h.2.1.fr hq, h.2.2.1.fr hq, h.2.2.2⟩
theorem tz_agH.fr {L0 : Nat} {f f' : tz_PH} {nx kp : Nat} {St : Nat → tz_S7} {ts : Nat → tz_TS} (h : tz_agH L0 f nx kp St ts) (hq : ∀ q, L0 ≤ q → f' q = f q) : tz_agH L0 f' nx kp St ts := fun j hj => (h j hj).fr hq
def tz_sha (b : Nat) : Nat → Option Nat := fun s => some (b + 1 + 2 * s)
def tz_Shs (cs : Nat → ClassId) (f : tz_PH) (b : Nat) (Sb : Nat → Int32 × Nat × (Nat → Int32)) : Prop := f b = some (tz_refs cs 3 4 (tz_sha b)) ∧ ∀ s, s < 4 → tz_Sh cs f (b + 1 + 2 * s) (Sb s).1 (Sb s).2.1 (Sb s).2.2
def tz_TuX (cs : Nat → ClassId) (f : tz_PH) (a : Nat) : Prop := ∃ (tn : Nat) (tg : Nat → Int32), tz_Tu cs f a tn tg ∧ tn ≤ 120
def tz_AlX (f : tz_PH) (a : Nat) : Prop := ∃ (z : Int32) (k : Nat), tz_Al f a z k
def tz_PlX (cs : Nat → ClassId) (f : tz_PH) (a : Nat) : Prop := ∃ (r x : Nat) (fo z : Int32) (k tn : Nat) (tg : Nat → Int32) (n : Nat) (g : Nat → Int32) (n2 : Nat) (g2 : Nat → Int32), tz_Pl cs f a r x fo z k tn tg n g n2 g2 ∧ n ≤ 120 ∧ tn ≤ 120
def tz_RoX (cs : Nat → ClassId) (f : tz_PH) (a : Nat) : Prop := ∃ (n : Nat) (g : Nat → Int32), tz_Row cs f a n g ∧ n ≤ 120
theorem tz_Sh.fr {cs : Nat → ClassId} {f f' : tz_PH} {a n : Nat} {b : Int32} {g : Nat → Int32} (h : tz_Sh cs f a b n g) (hq : ∀ q, a ≤ q → q < a + 2 → f' q = f q) : tz_Sh cs f' a b n g := ⟨(hq _ (by omega) (by omega)).trans h.1, (hq _ (by omega) (by omega)).trans h.2⟩
theorem tz_Shs.fr {cs : Nat → ClassId} {f f' : tz_PH} {b : Nat} {Sb : Nat → Int32 × Nat × (Nat → Int32)} (h : tz_Shs cs f b Sb) (hq : ∀ q, b ≤ q → q < b + 9 → f' q = f q) : tz_Shs cs f' b Sb := ⟨(hq _ (by omega) (by omega)).trans h.1, fun s hs => (h.2 s hs).fr (fun q a c => hq q (by omega) (by omega))⟩
theorem tz_TuX.fr {cs : Nat → ClassId} {f f' : tz_PH} {a : Nat} (h : tz_TuX cs f a) (hq : ∀ q, a ≤ q → q < a + 2 → f' q = f q) : tz_TuX cs f' a := by
  obtain ⟨tn, tg, h1, h2⟩ := h
  exact ⟨tn, tg, h1.fr hq, h2⟩
theorem tz_AlX.fr {f f' : tz_PH} {a : Nat} (h : tz_AlX f a) (hq : ∀ q, a ≤ q → q < a + 1 → f' q = f q) : tz_AlX f' a := by
  obtain ⟨z, k, h1⟩ := h
  exact ⟨z, k, (hq _ (by omega) (by omega)).trans h1⟩
theorem tz_PlX.fr {cs : Nat → ClassId} {f f' : tz_PH} {a : Nat} (h : tz_PlX cs f a) (hq : ∀ q, a ≤ q → q < a + 8 → f' q = f q) : tz_PlX cs f' a := by
  obtain ⟨r, x, fo, z, k, tn, tg, n, g, n2, g2, h1, h2⟩ := h
  exact ⟨r, x, fo, z, k, tn, tg, n, g, n2, g2, h1.fr hq, h2⟩
theorem tz_RoX.fr {cs : Nat → ClassId} {f f' : tz_PH} {a : Nat} (h : tz_RoX cs f a) (hq : ∀ q, a ≤ q → q < a + 2 → f' q = f q) : tz_RoX cs f' a := by
  obtain ⟨n, g, h1, h2⟩ := h
  exact ⟨n, g, h1.fr hq, h2⟩
def tz_XB (cs : Nat → ClassId) (f : tz_PH) (B : Nat) (R : tz_RR) (nl : Nat) (o : Nat → Option Nat) (mp ml : Nat → Int32) (nx kp : Nat) (St : Nat → tz_S7) (Sb : Nat → Int32 × Nat × (Nat → Int32)) (c : Int32) : Prop :=
  f B = some (tz_obj 10 [.ref (B + 1), .ref (B + 15), .ref (B + 157), .ref (B + 166), .ref (B + 168), .ref (B + 169), .ref (B + 177), .int c]) ∧ tz_Tape cs f (B + 1) R nl o mp ml ∧ tz_Hist cs f (B + 15) nx kp St ∧ tz_Shs cs f (B + 157) Sb ∧ tz_TuX cs f (B + 166) ∧ tz_AlX f (B + 168) ∧ tz_PlX cs f (B + 169) ∧ tz_RoX cs f (B + 177)
/-- the object at B stands for the state s; its Layers lie from L0 on -/
def tz_AX (cs : Nat → ClassId) (L0 : Nat) (f : tz_PH) (B : Nat) (s : tz_SG) : Prop := ∃ (R : tz_RR) (o : Nat → Option Nat) (mp ml : Nat → Int32) (nx : Nat) (St : Nat → tz_S7), tz_XB cs f B R (tz_cur s).2.1 o mp ml nx s.2.1 St s.2.2.1 s.2.2.2 ∧ tz_agT L0 f R o mp ml (tz_cur s) ∧ nx < 20 ∧ tz_agH L0 f nx s.2.1 St s.1
/-- what holds of every state that is reached -/
abbrev tz_okv (v : Int32) : Prop := v = tz_LO ∨ (-10000 ≤ v ∧ v ≤ 10000)
def tz_WT (t : tz_TS) : Prop := (∀ p, p < 4 → (t.1 p).1 ≤ 120 ∧ ∀ j, j < (t.1 p).1 → tz_okv ((t.1 p).2 j)) ∧ t.2.1 ≤ 8 ∧ (∀ k, k < t.2.1 → tz_can (t.2.2.1 k).1 (t.2.2.1 k).2.1 (t.2.2.1 k).2.2.1 ∧ ((t.2.2.1 k).2.2.2 = 0 ∨ (t.2.2.1 k).2.2.2 = 1)) ∧ ∀ k, k < 6 → (0 ≤ t.2.2.2.1 k ∧ t.2.2.2.1 k < 4) ∧ (-1 ≤ t.2.2.2.2 k ∧ t.2.2.2.2 k < 120)
def tz_WF (s : tz_SG) : Prop := s.2.1 ≤ 20 ∧ (∀ j, j ≤ s.2.1 → tz_WT (s.1 j)) ∧ ∀ k, k < 4 → (s.2.2.1 k).2.1 ≤ 120 ∧ ((s.2.2.1 k).1 = 0 ∨ (s.2.2.1 k).1 = 8 ∨ (s.2.2.1 k).1 = 16 ∨ (s.2.2.1 k).1 = 32)
theorem tz_WF.cur {s : tz_SG} (h : tz_WF s) : tz_WT (tz_cur s) := h.2.1 _ (Nat.le_refl _)
theorem tz_cur_act {s : tz_SG} {t : tz_TS} (h : s.2.1 ≤ 20) : tz_cur (tz_act s t) = t := by
  unfold tz_cur tz_act tz_psh
  dsimp only
  by_cases h1 : s.2.1 < 20
  · rw [if_pos h1, Nat.min_eq_left (by omega)]
    simp [va_up]
  · rw [if_neg h1, Nat.min_eq_right (by omega)]
    simp
theorem tz_held_agS {L0 : Nat} {f f' : tz_PH} {R : tz_RR} {nl : Nat} {o : Nat → Option Nat} {mp ml : Nat → Int32} {t t' : tz_TS} {p : Int32} {s : tz_S7} (hag : tz_agT L0 f R o mp ml t) (hRn : ∀ p, p < 4 → (t.1 p).1 ≤ 120) (hnl : t.2.1 ≤ 8) (hnl2 : nl = t.2.1) (hs : s.1 = p) (hh : tz_held R nl o mp ml p s.2.1 s.2.2.1 s.2.2.2.1 s.2.2.2.2.1 s.2.2.2.2.2.1 s.2.2.2.2.2.2) (hq : ∀ q, L0 ≤ q → f' q = f q) (hsame : ∀ k, k < 4 → ¬ p = nI k → t.1 k = t'.1 k) : tz_agS L0 f' s t t' := by
  obtain ⟨a1, a2, a3, a4, a5⟩ := hag
  obtain ⟨b1, b2, b3, b4, b5⟩ := hh
  refine ⟨b2.trans hnl2, (a2.fr hq).cg (fun k hk => b3 k (by omega)), (a3.fr hq).cg b3, fun k hk => (b4 k hk).trans (a4 k hk), fun k hk => (b5 k hk).trans (a5 k hk), fun k hk => ⟨fun e => ?_, fun e => hsame k hk (fun z => e (hs.trans z))⟩⟩
  obtain ⟨c1, c2⟩ := b1 k hk (hs.symm.trans e)
  have hk2 := hRn k hk
  exact ⟨c1.trans (a1 k hk).1, fun j hj => (c2 j (by omega)).trans ((a1 k hk).2 j hj)⟩
theorem tz_agH_act {L0 : Nat} {f f' : tz_PH} {nx kp : Nat} {St : Nat → tz_S7} {ts : Nat → tz_TS} {t' : tz_TS} {s7 : tz_S7} (hnx : nx < 20) (hkp : kp ≤ 20) (hH : tz_agH L0 f nx kp St ts) (hq : ∀ q, L0 ≤ q → f' q = f q) (hs : tz_agS L0 f' s7 (ts kp) t') : tz_agH L0 f' ((nx + 1) % 20) (min (kp + 1) 20) (va_up St nx s7) (tz_psh ts kp t') := by
  intro j hj
  by_cases h1 : kp < 20
  · rw [Nat.min_eq_left (by omega)] at hj ⊢
    unfold tz_psh
    rw [if_pos h1]
    by_cases e : j = kp
    · subst e
      have e1 : ((nx + 1) % 20 + 20 - (j + 1) + j) % 20 = nx := by omega
      rw [e1]
      simp only [va_up, if_true, if_neg (show ¬ j = j + 1 by omega)]
      exact hs
    · have e1 : ((nx + 1) % 20 + 20 - (kp + 1) + j) % 20 = (nx + 20 - kp + j) % 20 := by omega
      have e2 : ¬ (nx + 20 - kp + j) % 20 = nx := by omega
      rw [e1]
      simp only [va_up, if_neg e2, if_neg (show ¬ j = kp + 1 by omega), if_neg (show ¬ j + 1 = kp + 1 by omega)]
      exact (hH j (by omega)).fr hq
  · have ek : kp = 20 := by omega
    subst ek
    rw [Nat.min_eq_right (by omega)] at hj ⊢
    unfold tz_psh
    rw [if_neg (by omega)]
    simp only [if_pos hj]
    by_cases e : j = 19
    · subst e
      have e1 : ((nx + 1) % 20 + 20 - 20 + 19) % 20 = nx := by omega
      rw [e1]
      simp only [va_up, if_true]
      exact hs
    · have e1 : ((nx + 1) % 20 + 20 - 20 + j) % 20 = (nx + 20 - 20 + (j + 1)) % 20 := by omega
      have e2 : ¬ (nx + 20 - 20 + (j + 1)) % 20 = nx := by omega
      rw [e1]
      simp only [va_up, if_neg e2, if_pos (show j + 1 < 20 by omega)]
      exact (hH (j + 1) (by omega)).fr hq
/-- behind an act: the state is pushed -/
theorem tz_AX_act {cs : Nat → ClassId} {L0 B nx : Nat} {f f' : tz_PH} {s : tz_SG} {R R' : tz_RR} {o o' : Nat → Option Nat} {mp ml mp' ml' : Nat → Int32} {St : Nat → tz_S7} {s7 : tz_S7} {p : Int32} {t' : tz_TS} (hW : tz_WF s) (hag : tz_agT L0 f R o mp ml (tz_cur s)) (hnx : nx < 20) (hH : tz_agH L0 f nx s.2.1 St s.1) (hs : s7.1 = p) (hh : tz_held R (tz_cur s).2.1 o mp ml p s7.2.1 s7.2.2.1 s7.2.2.2.1 s7.2.2.2.2.1 s7.2.2.2.2.2.1 s7.2.2.2.2.2.2) (hq' : ∀ q, L0 ≤ q → f' q = f q)
    (hX : tz_XB cs f' B R' t'.2.1 o' mp' ml' ((nx + 1) % 20) (min (s.2.1 + 1) 20) (va_up St nx s7) s.2.2.1 s.2.2.2) (hag' : tz_agT L0 f' R' o' mp' ml' t') (hsame : ∀ k, k < 4 → ¬ p = nI k → (tz_cur s).1 k = t'.1 k) : tz_AX cs L0 f' B (tz_act s t') := by
  skip
  refine ⟨R', o', mp', ml', (nx + 1) % 20, va_up St nx s7, ?_, ?_, Nat.mod_lt _ (by omega), ?_⟩
  · rw [tz_cur_act hW.1]; exact hX
  · rw [tz_cur_act hW.1]; exact hag'
  · exact tz_agH_act hnx hW.1 hH hq' (tz_held_agS hag (fun p hp => (hW.cur.1 p hp).1) hW.cur.2.1 rfl hs hh hq' hsame)
