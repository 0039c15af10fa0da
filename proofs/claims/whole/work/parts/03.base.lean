/-! ===== the pure heap: what a walk knows of the cells, as a partial function from addresses ===== -/
def tz_TT : List Cond := lw_tbl.filter goodWord
theorem tz_mem {w : Cond} (i : Nat) (h : lw_tbl[i]? = some w ∧ goodWord w = true) : w ∈ tz_TT := List.mem_filter.mpr ⟨List.mem_of_getElem? h.1, h.2⟩
theorem tz_memL {w : Cond} (i : Nat) (h : lw_tbl[i]? = some w) : w ∈ lw_tbl := List.mem_of_getElem? h
abbrev tz_ws (y : MethodName) (b : ByteArray) (n : Nat) (r : Option FieldType) : List Cond := Cond.code y b n r :: tz_TT
theorem tz_goodT {y : MethodName} {b : ByteArray} {n : Nat} {r : Option FieldType} (h : Cond.code y b n r ∈ tz_TT) : GoodIn tz_TT (tz_ws y b n r) := by
  intro w hw
  have hT : w ∈ tz_TT := by
    rcases List.mem_cons.mp hw with e | e
    · rw [e]; exact h
    · exact e
  exact ⟨hT, good_of_word (List.mem_filter.mp hT).2⟩
abbrev tz_PH : Type := Nat → Option va_E
def tz_set (f : tz_PH) (a : Nat) (e : va_E) : tz_PH := fun q => if q = a then some e else f q
theorem tz_set_s (f : tz_PH) (a : Nat) (e : va_E) : tz_set f a e a = some e := by simp [tz_set]
theorem tz_set_n {f : tz_PH} {a q : Nat} {e : va_E} (h : q ≠ a) : tz_set f a e q = f q := by simp [tz_set, h]
theorem tz_set_k {f : tz_PH} {a q : Nat} {e : va_E} {x : Option va_E} (h : f q = x) (hn : q ≠ a) : tz_set f a e q = x := by rw [tz_set_n hn]; exact h
def tz_P (D : va_G) (A : Nat → Prop) (f : tz_PH) (H : Heap) : Prop := ∀ (a : Nat) (e : va_E), f a = some e → va_at D classes (a, e) H ∧ A a
abbrev tz_ints (cs : Nat → ClassId) (n : Nat) (g : Nat → Int32) : va_E := .inl (cs 0, n, .inl g)
abbrev tz_refs (cs : Nat → ClassId) (k n : Nat) (g : Nat → Option Nat) : va_E := .inl (cs k, n, .inr (.inr (.inr (.inr g))))
abbrev tz_obj (ci : Nat) (fs : List Value) : va_E := .inr (ci, fs)
def tz_tys (cs : Nat → ClassId) : List (ClassId × FieldType) := [(cs 0, .int), (cs 1, .object "TapeBench$Row"), (cs 2, .object "TapeBench$Step"), (cs 3, .object "TapeBench$Sheet"), (cs 4, .object "TapeBench$Layer")]
def tz_low : Nat → Int32 := fun k => match k with
  | 0 => -400 | 1 => 1 | 2 => 0 | 3 => 1 | 4 => 1 | 5 => 0 | _ => 1
def tz_high : Nat → Int32 := fun k => match k with
  | 0 => 400 | 1 => 40000 | 2 => 3 | 3 => 20 | 4 => 30 | 5 => 119 | _ => 120
def tz_abov : Nat → Int32 := fun k => match k with
  | 0 => -1 | 1 => -1 | 2 => 1 | 3 => 1 | 4 => -1 | 5 => 4 | _ => -1
def tz_SA (nm : String) (g : Nat → Int32) (A : Nat → Prop) (U : State) (H : Heap) : Prop := ∃ t : Nat, va_Z "TapeBench" nm "[I" (.ref t) A U H ∧ va_T .int t 7 (fun j => .int (g j)) A U H
theorem tz_SA.to {nm : String} {g : Nat → Int32} {A : Nat → Prop} {s U : State} {H H1 : Heap} (h : tz_SA nm g A s H) (hvm : s.vm.Alike U.vm) (hq : ∀ a : Nat, a < H.size → ¬ A a → H1[a]? = H[a]?) : tz_SA nm g A U H1 := by
  obtain ⟨t, h1, h2⟩ := h
  exact ⟨t, (va_Z.moved hvm h1).kept hq, (va_T.moved hvm h2).kept hq⟩
def tz_E (D : va_G) (cs : Nat → ClassId) (A : Nat → Prop) (U : State) : Prop := va_K D classes (tz_tys cs) U ∧ (∀ (a : String) (i : Nat) (y : MethodName) (h : String), Cond.methodLinkNest a i y h ∈ lw_tbl → va_Nw (.methodLinkNest a i y h) U) ∧ (∀ (a : String) (i : Nat) (b n d h : String), Cond.fieldLinkNest a i b n d h ∈ lw_tbl → va_Nw (.fieldLinkNest a i b n d h) U) ∧ (∀ C : String, Cond.arrayOver (.object C) ∈ lw_tbl → va_AO C U) ∧ tz_SA "LOWEST_A" tz_low A U U.heap ∧ tz_SA "HIGHEST_A" tz_high A U U.heap ∧ tz_SA "KIND_ABOVE" tz_abov A U U.heap
theorem tz_E.to {D : va_G} {cs : Nat → ClassId} {A : Nat → Prop} {s U : State} (h : tz_E D cs A s) (hW : s.WarmedH U.vm) (hq : ∀ a : Nat, a < s.heap.size → ¬ A a → U.heap[a]? = s.heap[a]?) : tz_E D cs A U := by
  obtain ⟨h1, h2, h3, h4, h5, h6, h7⟩ := h
  exact ⟨h1.moved hW.alike, fun a i y x hx => va_Nw.warmM hW (h2 a i y x hx), fun a i b n d x hx => va_Nw.warmF hW (h3 a i b n d x hx), fun C hC => (h4 C hC).moved hW.alike, h5.to hW.alike hq, h6.to hW.alike hq, h7.to hW.alike hq⟩
theorem tz_E.calling {D : va_G} {cs : Nat → ClassId} {A : Nat → Prop} {U : State} (h : tz_E D cs A U) (g : JFrame) (mk : MethodId) (a : Array Value) : tz_E D cs A (U.calling g mk a) :=
  tz_E.to (U := U.calling g mk a) h (State.WarmedH.refl U) (fun _ _ _ => rfl)
abbrev tz_Cx (p : Program) (s : State) (m : MethodId) (args : Array Value) (c : Code) (A : Nat → Prop) (D : va_G) (cs : Nat → ClassId) (own : String) (cc : ByteArray) (nL : Nat) : Prop :=
  p.tables.exec = Jvm.exec ∧ c.code = cc ∧ c.maxLocals = nL ∧ s.vm.findClass own = some m.cls ∧ (∀ w ∈ tz_TT, w.before args s = true) ∧ tz_E D cs A s
def tz_V (p : Program) (l : Launch) (e : Env) (R : Room) (s : State) (m : MethodId) (args : Array Value) (below : List Frame) (meth : Method) (c : Code) (Q : State → Prop) (A : Nat → Prop) (D : va_G) (nL : Nat) (f : tz_PH) (sz cells slots pc : Nat) (lv : List (Nat × Value)) (st : List Value) : Prop :=
  ∀ (H : Heap) (locs : List Loc) (ls : Array Slot), H.size = sz → tz_P D A f H → va_S A s.heap H locs → lv_has ls nL lv → W p l e R s m args below meth c H locs cells slots Q (F0 m pc ls st)
def tz_Q (D : va_G) (A : Nat → Prop) (sz mc : Nat) (P : Option Value → tz_PH → Prop) : Array Value → State → Outcome → State → Prop := fun _ st oc t => (∃ (rv : Option Value) (f' : tz_PH), oc = .returned rv ∧ P rv f' ∧ tz_P D A f' t.heap ∧ t.heap.size = sz + mc) ∧ va_F A st t
/-- a contract: called with the values av on a heap that holds f, the method returns, with P of its answer and of the heap then -/
def tz_C (l : Launch) (y : MethodName) (b : ByteArray) (nL : Nat) (ret : Option FieldType) (rm : Room) (mc ms : Nat) (A : Nat → Prop) (D : va_G) (cs : Nat → ClassId) (sz : Nat) (av : List Value) (f : tz_PH) (P : Option Value → tz_PH → Prop) : Prop :=
  Met l y (tz_ws y b nL ret) rm (va_Pc av (fun U => U.heap.size = sz ∧ tz_P D A f U.heap ∧ tz_E D cs A U)) (tz_Q D A sz mc P) mc ms A
theorem tz_ofW {l : Launch} {y : MethodName} {ws ws' : List Cond} {rm : Room} {Pc : Array Value → State → Prop} {Qc : Array Value → State → Outcome → State → Prop} {mc ms : Nat} {free : Addr → Prop} {cc : ByteArray} {maxL : Nat} {ret : Option FieldType}
    (hy : plainFor y = true) (hw : ws = Cond.code y cc maxL ret :: ws')
    (body : ∀ p e s m args below meth c s₁, BodyLoose p l y (headSpec ws rm) cc maxL ret e s m args below meth c s₁ → c.maxLocals = maxL → Pc args s →
      W p l e (headSpec ws rm).room s m args below meth c s.heap [] 0 0 (MQ below Qc args s mc ms free) (entryFrame m args maxL)) : Met l y ws rm Pc Qc mc ms free := by
  refine MetFree.of_bodySF (code := cc) (maxLocals := maxL) (ret := ret) hy ?_ ?_
  · intro args s m h hn
    obtain ⟨meth, c, h1, h2, h3, h4, h5, h6, -, -⟩ := Cond.code_spec hn (atoms_spec (ws := ws) h _ (by rw [hw]; exact List.mem_cons_self))
    exact ⟨meth, c, h1, h2, h3, h4, h5, h6⟩
  · intro p e s m args below meth c s₁ B hml hP _
    have hh0 : s₁.heap = s.heap := by rw [B.state]; rfl
    obtain ⟨t, a1, o, b1, b2, b3⟩ := body p e s m args below meth c s₁ B hml hP s₁ hh0 (Stand.of_body B)
    exact ⟨t, o, a1, b1, b2, ⟨b3.1, b3.2⟩⟩
section TZA
variable {p : Program} {l : Launch} {e : Env} {R : Room} {s : State} {m : MethodId} {args : Array Value} {below : List Frame} {meth : Method} {c : Code} {Q : State → Prop} {A : Nat → Prop} {D : va_G} {cs : Nat → ClassId} {own : String} {cc : ByteArray} {nL : Nat} {f : tz_PH} {sz cells slots pc n : Nat} {lv : List (Nat × Value)} {rest : List Value}
theorem tz_C.ofV {y : MethodName} {ret : Option FieldType} {rm : Room} {mc ms : Nat} {av : List Value} {P : Option Value → tz_PH → Prop} {lv0 : List (Nat × Value)} (hy : plainFor y = true) (hlen : (lg_sl av).length ≤ nL) (hlv : lv_args 0 av = lv0)
    (body : ∀ (p : Program) (e : Env) (s : State) (m : MethodId) (below : List Frame) (meth : Method) (c : Code), tz_Cx p s m av.toArray c A D cs y.cls cc nL → meth.sig.returnType = ret → meth.locks = false → meth.name = y.name → s.heap.size = sz →
      tz_V p l e rm s m av.toArray below meth c (MQ below (tz_Q D A sz mc P) av.toArray s mc ms A) A D nL f sz 0 0 0 lv0 []) : tz_C l y cc nL ret rm mc ms A D cs sz av f P := by
  refine tz_ofW (cc := cc) (maxL := nL) (ret := ret) hy rfl ?_
  intro p e s m args below meth c s₁ B hml hv
  obtain ⟨rfl, hsz, hP, hE⟩ := hv
  have hts := atoms_spec (ws := tz_ws y cc nL ret) B.pre
  have hown : s.vm.findClass y.cls = some m.cls := findClass_of_methodNamed B.named
  have hl := lv_entry av hlen
  rw [hlv] at hl
  rw [lg_entry_eq]
  exact body p e s m below meth c ⟨B.exec, B.bytes, hml, hown, fun w hw => hts w (List.mem_cons_of_mem _ hw), hE⟩ B.returns B.notSynchronized (name_of_methodNamed B.named B.method).1 hsz s.heap [] _ hsz hP va_S.rf hl
/-- behind a call -/
theorem tz_cont {P : Option Value → tz_PH → Prop} {mc ms : Nat} {H : Heap} {locs : List Loc} {ls : Array Slot} {st0 : List Value} {a : Array Value} (hr : va_Run p l e R s m args below meth c H locs cells slots mc ms (F0 m pc ls st0) rest (tz_Q D A sz mc P a) A) (hS : va_S A s.heap H locs)
    (kk : ∀ (rv : Option Value) (f' : tz_PH) (H1 : Heap) (locs1 : List Loc), P rv f' → H1.size = sz + mc → tz_P D A f' H1 → va_S A s.heap H1 locs1 → W p l e R s m args below meth c H1 locs1 (cells + mc) (slots + ms) Q (F0 m (pc + 3) ls (rv.toList ++ rest))) : W p l e R s m args below meth c H locs cells slots Q (F0 m pc ls st0) := by
  intro T hT X
  obtain ⟨v, st₀, t, T', L, h0, X', hL, e1, e2, ⟨⟨rv, f', hv, hp, hb, hz1⟩, hz, hk⟩, st⟩ := hr T hT X
  cases hv
  rw [h0] at hz hk
  obtain ⟨t2, a1, b1⟩ := kk v f' T'.heap (locs ++ L) hp (by rw [e1]; exact hz1) (by rw [e1]; exact hb)
    ⟨Nat.le_trans hS.1 (by rw [e1]; exact hz), fun q h1 h2 => by rw [e1, hk q (Nat.lt_of_lt_of_le h1 hS.1) h2]; exact hS.2.1 q h1 h2, fun q hq => by
      rcases List.mem_append.mp hq with h | h
      · exact hS.2.2 q h
      · exact hL q h⟩ T' rfl X'
  exact ⟨t2, st t2 a1, b1⟩
theorem tz_blind {av : List Value} : FrameBlind (va_Pc av (fun U => U.heap.size = sz ∧ tz_P D A f U.heap ∧ tz_E D cs A U)) := fun a U g mk q => by
  obtain ⟨q0, q1, q2, q3⟩ := q
  exact ⟨q0, q1, q2, q3.calling g mk a⟩
theorem tz_pre {H : Heap} {locs : List Loc} {av : List Value} (C : tz_Cx p s m args c A D cs own cc nL) (hz : H.size = sz) (hP : tz_P D A f H) (hS : va_S A s.heap H locs) : PreS s H (va_Pc av (fun U => U.heap.size = sz ∧ tz_P D A f U.heap ∧ tz_E D cs A U)) av :=
  ⟨tz_blind, fun U hU hW => ⟨rfl, by rw [hU]; exact hz, by rw [hU]; exact hP, C.2.2.2.2.2.to hW (fun a h1 h2 => by rw [hU]; exact hS.2.1 a h1 h2)⟩⟩
/-- the words of a method that is called, all of the tables -/
abbrev tz_MI (y : MethodName) (b : ByteArray) (maxL : Nat) (ret : Option FieldType) (np : Nat) : Prop := Cond.code y b maxL ret ∈ tz_TT ∧ Cond.initialized y.cls ∈ tz_TT ∧ (y.cls ≠ "java/lang/invoke/MethodHandle" ∧ y.cls ≠ "java/lang/invoke/VarHandle" ∧ (parseMethodDescriptor y.desc).map (fun d => d.parameters.length) = some np)
variable {y : MethodName} {b : ByteArray} {maxL np idx mc ms : Nat} {ret : Option FieldType} {rm : Room} {P : Option Value → tz_PH → Prop} {As st0 : List Value} {a : Nat}
theorem tz_recv {C : String} {ci : Nat} {T : u_T} {N : Nat} {fs : List Value} {H : Heap} (hE : tz_E D cs A s) (hP : tz_P D A f H) (hf : f a = some (.inr (ci, fs))) (hc : classes[ci]? = some (C, T, N)) : ∃ cell : Cell, H[a]? = some cell ∧ cell.vm.isStatics = false ∧ s.vm.findClass C = some cell.cls := by
  obtain ⟨⟨r, h1, cell, q1, q2, q3, -⟩, -⟩ := hP a _ hf
  have hr : r = (C, T, N) := Option.some.inj (h1.symm.trans hc)
  subst hr
  obtain ⟨-, hfc, -⟩ := hE.1.1 ci _ hc
  exact ⟨cell, q1, by rw [q3]; rfl, by rw [q2]; exact hfc⟩
theorem tz_callVA (C : tz_Cx p s m args c A D cs own cc nL) (hI : tz_MI y b maxL ret np) (hin : Cond.instanceMethod y ∈ tz_TT) (hse : Cond.selects y.cls y y ∈ tz_TT) (hl : Cond.methodLink own idx y ∈ tz_TT) {ci : Nat} {T : u_T} {N : Nat} {fs : List Value} (hf : f a = some (.inr (ci, fs))) (hc : classes[ci]? = some (y.cls, T, N)) (hM : tz_C l y b maxL ret rm mc ms A D cs sz (.ref a :: As) f P) (hn : As.length = np) (hst : st0 = As.reverse ++ .ref a :: rest) (hrm : rm.cells = mc ∧ rm.slots = ms ∧ cells + mc ≤ R.cells ∧ slots + ms ≤ R.slots ∧ rm.frames + 1 ≤ R.frames ∧ 8 + (maxL + 11) + rm.locals ≤ R.locals) (hw : (rest.map fun v => v.category).sum ≤ 8) (hd : tz_dk cc pc (.invokevirtual idx) 3 n) {sz' cells' slots' : Nat} (he : sz + mc = sz' ∧ cells + mc = cells' ∧ slots + ms = slots')
    (kk : ∀ (rv : Option Value) (f' : tz_PH), P rv f' → tz_V p l e R s m args below meth c Q A D nL f' sz' cells' slots' n lv (rv.toList ++ rest)) : tz_V p l e R s m args below meth c Q A D nL f sz cells slots pc lv st0 := by
  intro H locs ls hz hP hS hl9
  obtain ⟨hx, hb, hml, hown, hts, hE⟩ := id C
  obtain ⟨hd, rfl⟩ := hd
  obtain ⟨rfl, rfl, rfl⟩ := he
  have hp := tz_pre (av := .ref a :: As) C hz hP hS
  refine tz_cont (rest := rest) (mc := mc) (ms := ms) (va_runV (C := y.cls) (As := As) (rest := rest) (b := a) (n := np) ⟨hx, hb, hml, hown, hts⟩ hM ⟨callB_of np hts (tz_goodT hI.1) rfl hrm.1 hrm.2.1 (hts _ hI.2.1) (hts _ hl) hI.2.2 ⟨hrm.2.2.2.2.1, hrm.2.2.2.2.2⟩, hts _ hin, hts _ hse⟩ ⟨hp.1, tz_recv hE hP hf hc, hp.2⟩ rfl hn hl9.1 hst (lv_room hw) hd ⟨hrm.2.2.1, hrm.2.2.2.1⟩) hS ?_
  intro rv f' H1 locs1 h1 h2 h3 h4
  exact kk rv f' h1 H1 locs1 ls h2 h3 h4 hl9
theorem tz_callSA (C : tz_Cx p s m args c A D cs own cc nL) (hI : tz_MI y b maxL ret np) (hin : Cond.static y ∈ tz_TT) (hl : Cond.methodLink own idx y ∈ tz_TT) (hM : tz_C l y b maxL ret rm mc ms A D cs sz As f P) (hn : As.length = np) (hst : st0 = As.reverse ++ rest) (hrm : rm.cells = mc ∧ rm.slots = ms ∧ cells + mc ≤ R.cells ∧ slots + ms ≤ R.slots ∧ rm.frames + 1 ≤ R.frames ∧ 8 + (maxL + 11) + rm.locals ≤ R.locals) (hw : (rest.map fun v => v.category).sum ≤ 8) (hd : tz_dk cc pc (.invokestatic idx) 3 n) {sz' cells' slots' : Nat} (he : sz + mc = sz' ∧ cells + mc = cells' ∧ slots + ms = slots')
    (kk : ∀ (rv : Option Value) (f' : tz_PH), P rv f' → tz_V p l e R s m args below meth c Q A D nL f' sz' cells' slots' n lv (rv.toList ++ rest)) : tz_V p l e R s m args below meth c Q A D nL f sz cells slots pc lv st0 := by
  intro H locs ls hz hP hS hl9
  obtain ⟨hx, hb, hml, hown, hts, hE⟩ := id C
  obtain ⟨hd, rfl⟩ := hd
  obtain ⟨rfl, rfl, rfl⟩ := he
  refine tz_cont (rest := rest) (mc := mc) (ms := ms) (va_runS (As := As) (rest := rest) (n := np) ⟨hx, hb, hml, hown, hts⟩ hM ⟨callB_of np hts (tz_goodT hI.1) rfl hrm.1 hrm.2.1 (hts _ hI.2.1) (hts _ hl) hI.2.2 ⟨hrm.2.2.2.2.1, hrm.2.2.2.2.2⟩, hts _ hin⟩ (tz_pre (av := As) C hz hP hS) rfl hn hl9.1 hst (lv_room hw) hd ⟨hrm.2.2.1, hrm.2.2.2.1⟩) hS ?_
  intro rv f' H1 locs1 h1 h2 h3 h4
  exact kk rv f' h1 H1 locs1 ls h2 h3 h4 hl9
theorem tz_callSNA (C : tz_Cx p s m args c A D cs own cc nL) (hI : tz_MI y b maxL ret np) (hin : Cond.static y ∈ tz_TT) {host : String} (hl : Cond.methodLinkNest own idx y host ∈ lw_tbl) (hM : tz_C l y b maxL ret rm mc ms A D cs sz As f P) (hn : As.length = np) (hst : st0 = As.reverse ++ rest) (hrm : rm.cells = mc ∧ rm.slots = ms ∧ cells + mc ≤ R.cells ∧ slots + ms ≤ R.slots ∧ rm.frames + 1 ≤ R.frames ∧ 8 + (maxL + 11) + rm.locals ≤ R.locals) (hw : (rest.map fun v => v.category).sum ≤ 8) (hd : tz_dk cc pc (.invokestatic idx) 3 n) {sz' cells' slots' : Nat} (he : sz + mc = sz' ∧ cells + mc = cells' ∧ slots + ms = slots')
    (kk : ∀ (rv : Option Value) (f' : tz_PH), P rv f' → tz_V p l e R s m args below meth c Q A D nL f' sz' cells' slots' n lv (rv.toList ++ rest)) : tz_V p l e R s m args below meth c Q A D nL f sz cells slots pc lv st0 := by
  intro H locs ls hz hP hS hl9
  obtain ⟨hx, hb, hml, hown, hts, hE⟩ := id C
  obtain ⟨hd, rfl⟩ := hd
  obtain ⟨rfl, rfl, rfl⟩ := he
  refine tz_cont (rest := rest) (mc := mc) (ms := ms) (va_runSN (As := As) (rest := rest) (n := np) ⟨hx, hb, hml, hown, hts⟩ hM ⟨va_cnB np hts (tz_goodT hI.1) rfl hrm.1 hrm.2.1 (hE.2.1 _ _ _ _ hl) (hts _ hI.2.1) hI.2.2 ⟨hrm.2.2.2.2.1, hrm.2.2.2.2.2⟩, hts _ hin, trivial⟩ (tz_pre (av := As) C hz hP hS) rfl hn hl9.1 hst (lv_room hw) hd ⟨hrm.2.2.1, hrm.2.2.2.1⟩) hS ?_
  intro rv f' H1 locs1 h1 h2 h3 h4
  exact kk rv f' h1 H1 locs1 ls h2 h3 h4 hl9
theorem tz_callIA (C : tz_Cx p s m args c A D cs own cc nL) (hI : tz_MI y b maxL none np) (hy1 : y.name = "<init>") (hin : Cond.instanceMethod y ∈ tz_TT) (hl : Cond.methodLink own idx y ∈ tz_TT) (hM : tz_C l y b maxL none rm mc ms A D cs sz (.ref a :: As) f P) (hn : As.length = np) (hst : st0 = As.reverse ++ .ref a :: rest) (hrm : rm.cells = mc ∧ rm.slots = ms ∧ cells + mc ≤ R.cells ∧ slots + ms ≤ R.slots ∧ rm.frames + 1 ≤ R.frames ∧ 8 + (maxL + 11) + rm.locals ≤ R.locals) (hw : (rest.map fun v => v.category).sum ≤ 8) (hd : tz_dk cc pc (.invokespecial idx) 3 n) {sz' cells' slots' : Nat} (he : sz + mc = sz' ∧ cells + mc = cells' ∧ slots + ms = slots')
    (kk : ∀ (rv : Option Value) (f' : tz_PH), P rv f' → tz_V p l e R s m args below meth c Q A D nL f' sz' cells' slots' n lv (rv.toList ++ rest)) : tz_V p l e R s m args below meth c Q A D nL f sz cells slots pc lv st0 := by
  intro H locs ls hz hP hS hl9
  obtain ⟨hx, hb, hml, hown, hts, hE⟩ := id C
  obtain ⟨hd, rfl⟩ := hd
  obtain ⟨rfl, rfl, rfl⟩ := he
  refine tz_cont (rest := rest) (mc := mc) (ms := ms) (va_runI (As := As) (rest := rest) (b := a) (n := np) ⟨hx, hb, hml, hown, hts⟩ hM ⟨callB_of np hts (tz_goodT hI.1) rfl hrm.1 hrm.2.1 (hts _ hI.2.1) (hts _ hl) hI.2.2 ⟨hrm.2.2.2.2.1, hrm.2.2.2.2.2⟩, hy1, hts _ hin⟩ (tz_pre (av := .ref a :: As) C hz hP hS) rfl hn hl9.1 hst (lv_room hw) hd ⟨hrm.2.2.1, hrm.2.2.2.1⟩) hS ?_
  intro rv f' H1 locs1 h1 h2 h3 h4
  exact kk rv f' h1 H1 locs1 ls h2 h3 h4 hl9
theorem tz_callINA (C : tz_Cx p s m args c A D cs own cc nL) (hI : tz_MI y b maxL none np) (hy1 : y.name = "<init>") (hin : Cond.instanceMethod y ∈ tz_TT) {host : String} (hl : Cond.methodLinkNest own idx y host ∈ lw_tbl) (hM : tz_C l y b maxL none rm mc ms A D cs sz (.ref a :: As) f P) (hn : As.length = np) (hst : st0 = As.reverse ++ .ref a :: rest) (hrm : rm.cells = mc ∧ rm.slots = ms ∧ cells + mc ≤ R.cells ∧ slots + ms ≤ R.slots ∧ rm.frames + 1 ≤ R.frames ∧ 8 + (maxL + 11) + rm.locals ≤ R.locals) (hw : (rest.map fun v => v.category).sum ≤ 8) (hd : tz_dk cc pc (.invokespecial idx) 3 n) {sz' cells' slots' : Nat} (he : sz + mc = sz' ∧ cells + mc = cells' ∧ slots + ms = slots')
    (kk : ∀ (rv : Option Value) (f' : tz_PH), P rv f' → tz_V p l e R s m args below meth c Q A D nL f' sz' cells' slots' n lv (rv.toList ++ rest)) : tz_V p l e R s m args below meth c Q A D nL f sz cells slots pc lv st0 := by
  intro H locs ls hz hP hS hl9
  obtain ⟨hx, hb, hml, hown, hts, hE⟩ := id C
  obtain ⟨hd, rfl⟩ := hd
  obtain ⟨rfl, rfl, rfl⟩ := he
  refine tz_cont (rest := rest) (mc := mc) (ms := ms) (va_runIN (As := As) (rest := rest) (b := a) (n := np) ⟨hx, hb, hml, hown, hts⟩ hM ⟨va_cnB np hts (tz_goodT hI.1) rfl hrm.1 hrm.2.1 (hE.2.1 _ _ _ _ hl) (hts _ hI.2.1) hI.2.2 ⟨hrm.2.2.2.2.1, hrm.2.2.2.2.2⟩, hy1, hts _ hin⟩ (tz_pre (av := .ref a :: As) C hz hP hS) rfl hn hl9.1 hst (lv_room hw) hd ⟨hrm.2.2.1, hrm.2.2.2.1⟩) hS ?_
  intro rv f' H1 locs1 h1 h2 h3 h4
  exact kk rv f' h1 H1 locs1 ls h2 h3 h4 hl9
theorem tz_objInit (C : tz_Cx p s m args c A D cs own cc nL) (hl : Cond.methodLink own idx Lib.objectInit ∈ tz_TT) (hin : Cond.instanceMethod Lib.objectInit ∈ tz_TT) (hco : Cond.code Lib.objectInit ⟨#[0xb1]⟩ 1 none ∈ tz_TT) (hR : 1 ≤ R.frames ∧ (rest.map fun v => v.category).sum + 12 ≤ R.locals) (hd : tz_dk cc pc (.invokespecial idx) 3 n) (kk : tz_V p l e R s m args below meth c Q A D nL f sz cells slots n lv rest) : tz_V p l e R s m args below meth c Q A D nL f sz cells slots pc lv (.ref a :: rest) := by
  intro H locs ls hz hP hS hl9
  obtain ⟨hx, hb, hml, hown, hts, hE⟩ := id C
  obtain ⟨hd, rfl⟩ := hd
  exact W.objInit hx hb hown (hts _ hl) (hts _ hin) (hts _ hco) rfl (by rw [hml]; exact hl9.1) rfl hd hR.1 (by have := hR.2; show 2 * 0 + _ + 12 ≤ _; omega) (kk H locs ls hz hP hS hl9)
/-! fields -/
abbrev tz_CI (ci : Nat) (C : String) (T : u_T) (N : Nat) (ty : Nat → FieldType) : Prop := classes[ci]? = some (C, T, N) ∧ (∀ w ∈ u_ws C T N, w ∈ tz_TT) ∧ (∀ k, k < N → parseFieldDescriptor (T k).2.2.1 = some (ty k)) ∧ (∀ a, a < N → ∀ b, b < N → a ≠ b → (T a).2.1 ≠ (T b).2.1)
variable {Cn : String} {T : u_T} {N ci : Nat} {ty : Nat → FieldType} {fs : List Value} {v : Value}
theorem tz_get (C : tz_Cx p s m args c A D cs own cc nL) (hI : tz_CI ci Cn T N ty) (k : Nat) (hk : k < N) (hl : Cond.fieldLink own idx (T k).1 (T k).2.1 (T k).2.2.1 ∈ tz_TT) (hf : f a = some (.inr (ci, fs))) (hv : fs[k]? = some v) (hd : tz_dk cc pc (.getfield idx) 3 n) (kk : tz_V p l e R s m args below meth c Q A D nL f sz cells slots n lv (v :: rest)) : tz_V p l e R s m args below meth c Q A D nL f sz cells slots pc lv (.ref a :: rest) := by
  intro H locs ls hz hP hS hl9
  obtain ⟨hx, hb, hml, hown, hts, hE⟩ := id C
  obtain ⟨hd, rfl⟩ := hd
  exact va_get (D := D) (cl := classes) (ws := [(a, .inr (ci, fs))]) hx hb hts hI.2.1 hown hE.1 (fun j q hq => by
    have hz : j < 1 := (List.getElem?_eq_some_iff.mp hq).1
    rw [show j = 0 by omega] at hq
    cases hq
    exact (hP a _ hf).1) 0 rfl hI.1 k hk (hts _ hl) (fun _ h9 => h9) hv hd (kk H locs ls hz hP hS hl9)
theorem tz_P.put {H H1 : Heap} {e0 e1 : va_E} (hP : tz_P D A f H) (hf : f a = some e0) (he : va_at D classes (a, e1) H1) (oq : ∀ q : Nat, q ≠ a → H1[q]? = H[q]?) : tz_P D A (tz_set f a e1) H1 := by
  intro q x hq
  by_cases h : q = a
  · subst h
    rw [tz_set_s] at hq
    cases hq
    exact ⟨he, (hP q _ hf).2⟩
  · rw [tz_set_n h] at hq
    exact ⟨(hP q x hq).1.kept (oq q h), (hP q x hq).2⟩
theorem tz_put (C : tz_Cx p s m args c A D cs own cc nL) (hI : tz_CI ci Cn T N ty) (k : Nat) (hk : k < N) (hl : Cond.fieldLink own idx (T k).1 (T k).2.1 (T k).2.2.1 ∈ tz_TT) (hfin : (T k).2.2.2 = false) (hf : f a = some (.inr (ci, fs))) (hlen : k < fs.length) (hnf : narrow (ty k) v = v ∧ fits (ty k) v = true) {fs' : List Value} (hfs : fs.set k v = fs') (hd : tz_dk cc pc (.putfield idx) 3 n) (kk : tz_V p l e R s m args below meth c Q A D nL (tz_set f a (.inr (ci, fs'))) sz cells slots n lv rest) : tz_V p l e R s m args below meth c Q A D nL f sz cells slots pc lv (v :: .ref a :: rest) := by
  intro H locs ls hz hP hS hl9
  obtain ⟨hx, hb, hml, hown, hts, hE⟩ := id C
  obtain ⟨hd, rfl⟩ := hd
  obtain ⟨hc, hin, hty, hnm⟩ := hI
  subst hfs
  have hap := va_apart (own := own) hts hin ty hty hnm hE.1 hc
  obtain ⟨⟨r, h1, cell, q1, q2, q3, q4⟩, hA⟩ := hP a _ hf
  have hr : r = (Cn, T, N) := Option.some.inj (h1.symm.trans hc)
  subst hr
  obtain ⟨hSl, hfc, kC, hkC, hkind⟩ := hE.1.1 ci _ hc
  obtain ⟨cf, kf, fi, fd, hi, hsl⟩ := hSl k hk
  have hlay := hts _ (hin _ (u_in_lay hk))
  unfold u_lay at hlay
  rw [if_neg (by rw [hfin]; decide)] at hlay
  have hst := (u_facts hfc hkC (u_lays hts hin hk) hi).1
  have h6 := u_store hfc hkC hkind hlay hi (hty k hk) hnf.1 hnf.2
  refine W.putK hx hb (f := fd) ⟨hown, hts _ hl, ⟨_, _, _, hi⟩, hst⟩ (by rw [q2]; exact h6) q1 q3 (by rw [hsl]; exact k2_hasslot (q4 k hk)) rfl rfl hd fun H' e1 e2 e3 => ?_
  rw [hsl] at e1 ⊢
  exact kk H' _ ls (by rw [e2]; exact hz) (hP.put hf ⟨_, hc, t_OB.to (V := updV (vp_V fs) k v) ⟨_, e1, q2, q3, t_set q4 hap hk v⟩ (fun j _ => vp_updV_set hlen v j)⟩ e3) (hS.put e2 e3 hA) hl9
theorem tz_putF (C : tz_Cx p s m args c A D cs own cc nL) (hin2 : meth.name = "<init>") (hI : tz_CI ci Cn T N ty) (k : Nat) (hk : k < N) (hl : Cond.fieldLink own idx (T k).1 (T k).2.1 (T k).2.2.1 ∈ tz_TT) (hfin : (T k).2.2.2 = true ∧ (T k).1 = own) (hf : f a = some (.inr (ci, fs))) (hlen : k < fs.length) (hnf : narrow (ty k) v = v ∧ fits (ty k) v = true) {fs' : List Value} (hfs : fs.set k v = fs') (hd : tz_dk cc pc (.putfield idx) 3 n) (kk : tz_V p l e R s m args below meth c Q A D nL (tz_set f a (.inr (ci, fs'))) sz cells slots n lv rest) : tz_V p l e R s m args below meth c Q A D nL f sz cells slots pc lv (v :: .ref a :: rest) := by
  intro H locs ls hz hP hS hl9
  obtain ⟨hx, hb, hml, hown, hts, hE⟩ := id C
  obtain ⟨hd, rfl⟩ := hd
  obtain ⟨hc, hin, hty, hnm⟩ := hI
  subst hfs
  have hap := va_apart (own := own) hts hin ty hty hnm hE.1 hc
  obtain ⟨⟨r, h1, cell, q1, q2, q3, q4⟩, hA⟩ := hP a _ hf
  have hr : r = (Cn, T, N) := Option.some.inj (h1.symm.trans hc)
  subst hr
  obtain ⟨hSl, hfc, kC, hkC, hkind⟩ := hE.1.1 ci _ hc
  obtain ⟨cf, kf, fi, fd, hi, hsl⟩ := hSl k hk
  have hlay := hts _ (hin _ (u_in_lay hk))
  unfold u_lay at hlay
  rw [if_pos hfin.1] at hlay
  have hst := (u_facts hfc hkC (u_lays hts hin hk) hi).1
  have hcf : m.cls = cf := by
    obtain ⟨_, _, c', _, _, _, -, -, hf', -, -, -, hown2, -⟩ := Cond.laysFinal_spec hlay
    have e1 : c' = cf := by have := hi.symm.trans hf'; simp at this; exact this.1.symm
    rw [hfin.2] at hown2
    rw [← e1]; exact Option.some.inj (hown.symm.trans hown2)
  have h6 := u_fits hfc hkC hkind (Or.inr hlay) hi (hty k hk) hnf.1 hnf.2
  refine W.putFinK hx hb hown (hts _ hl) hi hst hcf hin2 (by rw [q2]; exact h6) q1 q3 (by rw [hsl]; exact k2_hasslot (q4 k hk)) rfl rfl hd fun H' e1 e2 e3 => ?_
  rw [hsl] at e1 ⊢
  exact kk H' _ ls (by rw [e2]; exact hz) (hP.put hf ⟨_, hc, t_OB.to (V := updV (vp_V fs) k v) ⟨_, e1, q2, q3, t_set q4 hap hk v⟩ (fun j _ => vp_updV_set hlen v j)⟩ e3) (hS.put e2 e3 hA) hl9
/-! arrays -/
theorem tz_P.one {H : Heap} {e0 : va_E} (hP : tz_P D A f H) (hf : f a = some e0) : va_P D classes [(a, e0)] H := fun j q hq => by
  have hz : j < 1 := (List.getElem?_eq_some_iff.mp hq).1
  rw [show j = 0 by omega] at hq
  cases hq
  exact (hP a _ hf).1
variable {nA : Nat} {g : Nat → Int32} {o : Nat → Option Nat} {i x : Int32}
theorem tz_iald (C : tz_Cx p s m args c A D cs own cc nL) (hf : f a = some (tz_ints cs nA g)) (hin : vp_in i nA) (hd : tz_dk cc pc .iaload 1 n) (kk : tz_V p l e R s m args below meth c Q A D nL f sz cells slots n lv (.int (g i.toNatClampNeg) :: rest)) : tz_V p l e R s m args below meth c Q A D nL f sz cells slots pc lv (.int i :: .ref a :: rest) := by
  intro H locs ls hz hP hS hl9
  obtain ⟨hx, hb, hml, hown, hts, hE⟩ := id C
  obtain ⟨hd, rfl⟩ := hd
  exact va_iald (D := D) (cl := classes) hx hb hE.1 (hP.one hf) 0 0 rfl rfl hin hd (kk H locs ls hz hP hS hl9)
theorem tz_alenI (C : tz_Cx p s m args c A D cs own cc nL) (hf : f a = some (tz_ints cs nA g)) {v : Int32} (hv : Int32.ofNat nA = v) (hd : tz_dk cc pc .arraylength 1 n) (kk : tz_V p l e R s m args below meth c Q A D nL f sz cells slots n lv (.int v :: rest)) : tz_V p l e R s m args below meth c Q A D nL f sz cells slots pc lv (.ref a :: rest) := by
  intro H locs ls hz hP hS hl9
  obtain ⟨hx, hb, hml, hown, hts, hE⟩ := id C
  obtain ⟨hd, rfl⟩ := hd
  exact va_alen (D := D) (cl := classes) (ty := .int) hx hb hE.1 (hP.one hf) 0 0 rfl rfl hv hd (kk H locs ls hz hP hS hl9)
theorem tz_alenR (C : tz_Cx p s m args c A D cs own cc nL) {t : Nat} {q : FieldType} (ht : (tz_tys cs)[t]? = some (cs t, q)) (hf : f a = some (tz_refs cs t nA o)) {v : Int32} (hv : Int32.ofNat nA = v) (hd : tz_dk cc pc .arraylength 1 n) (kk : tz_V p l e R s m args below meth c Q A D nL f sz cells slots n lv (.int v :: rest)) : tz_V p l e R s m args below meth c Q A D nL f sz cells slots pc lv (.ref a :: rest) := by
  intro H locs ls hz hP hS hl9
  obtain ⟨hx, hb, hml, hown, hts, hE⟩ := id C
  obtain ⟨hd, rfl⟩ := hd
  exact va_alen (D := D) (cl := classes) (ty := q) hx hb hE.1 (hP.one hf) 0 t rfl ht hv hd (kk H locs ls hz hP hS hl9)
theorem tz_aald (C : tz_Cx p s m args c A D cs own cc nL) {t : Nat} {cn : String} (ht : (tz_tys cs)[t]? = some (cs t, .object cn)) (hf : f a = some (tz_refs cs t nA o)) (hin : vp_in i nA) (hd : tz_dk cc pc .aaload 1 n) (kk : tz_V p l e R s m args below meth c Q A D nL f sz cells slots n lv (va_rf (o i.toNatClampNeg) :: rest)) : tz_V p l e R s m args below meth c Q A D nL f sz cells slots pc lv (.int i :: .ref a :: rest) := by
  intro H locs ls hz hP hS hl9
  obtain ⟨hx, hb, hml, hown, hts, hE⟩ := id C
  obtain ⟨hd, rfl⟩ := hd
  exact va_aldq (D := D) (cl := classes) (C := cn) hx hb hE.1 (hP.one hf) 0 t rfl ht hin hd (kk H locs ls hz hP hS hl9)
theorem tz_iast (C : tz_Cx p s m args c A D cs own cc nL) (hf : f a = some (tz_ints cs nA g)) (hin : vp_in i nA) (hd : tz_dk cc pc .iastore 1 n) (kk : tz_V p l e R s m args below meth c Q A D nL (tz_set f a (tz_ints cs nA (upd g i.toNatClampNeg x))) sz cells slots n lv rest) : tz_V p l e R s m args below meth c Q A D nL f sz cells slots pc lv (.int x :: .int i :: .ref a :: rest) := by
  intro H locs ls hz hP hS hl9
  obtain ⟨hx, hb, hml, hown, hts, hE⟩ := id C
  obtain ⟨hd, rfl⟩ := hd
  refine W.iast hx hb (hP.one hf 0 _ rfl) ((hE.1.2 0 (cs 0, .int) rfl).1 nA (fun j => .int (g j))) (fun q => by cases q) (by show ¬ (i < 0 ∨ (arrV _ _ _).slots.size ≤ _); rw [arrV_size]; exact hin) rfl rfl hd fun H1 e1 z oq => ?_
  refine kk H1 _ ls (by rw [z]; exact hz) (hP.put hf ?_ oq) (hS.put z oq (hP a _ hf).2) hl9
  show H1[a]? = some (vp_cell _ _)
  rw [e1]
  rw [vp_cell_i, vp_cell_i, arrV_store]
  congr 2
  funext q
  by_cases hq : q = i.toNatClampNeg
  · subst hq
    simp [updV, upd]
  · simp [updV, upd, hq]
theorem tz_aast (C : tz_Cx p s m args c A D cs own cc nL) {t : Nat} {cn : String} (ht : (tz_tys cs)[t]? = some (cs t, .object cn)) (hf : f a = some (tz_refs cs t nA o)) {b : Nat} (hfb : f b = some (.inr (ci, fs))) (hc : classes[ci]? = some (cn, T, N)) (hin : vp_in i nA) (hd : tz_dk cc pc .aastore 1 n) (kk : tz_V p l e R s m args below meth c Q A D nL (tz_set f a (tz_refs cs t nA (va_up o i.toNatClampNeg (some b)))) sz cells slots n lv rest) : tz_V p l e R s m args below meth c Q A D nL f sz cells slots pc lv (.ref b :: .int i :: .ref a :: rest) := by
  intro H locs ls hz hP hS hl9
  obtain ⟨hx, hb, hml, hown, hts, hE⟩ := id C
  obtain ⟨hd, rfl⟩ := hd
  have hlt : i.toNatClampNeg < nA := Nat.not_le.mp fun q => hin (Or.inr q)
  have h0 : ¬ i < 0 := fun q => hin (Or.inl q)
  obtain ⟨⟨r', hr', cellV, g1, g2, g3, -⟩, -⟩ := hP b _ hfb
  have hcls := (hE.1.1 ci _ hc).2
  obtain ⟨kA, comp, k1, k2, k3, -⟩ := (hE.1.2 t _ ht).2
  have hcomp : comp = D.1 ci := Option.some.inj (k3.symm.trans hcls.1)
  subst hcomp
  obtain ⟨kC, hkC, -⟩ := hcls.2
  refine W.aast hx hb (hP.one hf 0 _ rfl) (fun q h => by cases h) (fun h => by cases h) k1 k2 rfl hkC ⟨h0, by show _ < (arrV _ _ _).slots.size; rw [arrV_size]; exact hlt⟩ g1 (fun q h => by rw [g3] at h; cases h) (by rw [g2]; exact hkC) (by rw [g2]; exact va_assign hcls) rfl rfl hd fun H1 e1 z oq => ?_
  refine kk H1 _ ls (by rw [z]; exact hz) (hP.put hf ?_ oq) (hS.put z oq (hP a _ hf).2) hl9
  show H1[a]? = some (vp_cell _ _)
  rw [e1]
  rw [vp_cell_q, vp_cell_q, arrV_store]
  congr 2
  funext q
  by_cases hq : q = i.toNatClampNeg
  · subst hq
    simp [updV, va_up, va_rf]
  · simp [updV, va_up, hq]
theorem tz_aastN (C : tz_Cx p s m args c A D cs own cc nL) {t : Nat} {cn : String} (ht : (tz_tys cs)[t]? = some (cs t, .object cn)) (hf : f a = some (tz_refs cs t nA o)) (hin : vp_in i nA) (hd : tz_dk cc pc .aastore 1 n) (kk : tz_V p l e R s m args below meth c Q A D nL (tz_set f a (tz_refs cs t nA (va_up o i.toNatClampNeg none))) sz cells slots n lv rest) : tz_V p l e R s m args below meth c Q A D nL f sz cells slots pc lv (.null :: .int i :: .ref a :: rest) := by
  intro H locs ls hz hP hS hl9
  obtain ⟨hx, hb, hml, hown, hts, hE⟩ := id C
  obtain ⟨hd, rfl⟩ := hd
  refine va_WaastN (C := cn) hx hb (hP.one hf 0 _ rfl) ((hE.1.2 t _ ht).1 nA (fun j => va_rf (o j))) (fun h => by cases h) (by show ¬ (i < 0 ∨ (arrV _ _ _).slots.size ≤ _); rw [arrV_size]; exact hin) rfl rfl hd fun H1 e1 z oq => ?_
  refine kk H1 _ ls (by rw [z]; exact hz) (hP.put hf ?_ oq) (hS.put z oq (hP a _ hf).2) hl9
  show H1[a]? = some (vp_cell _ _)
  rw [e1]
  rw [vp_cell_q, vp_cell_q, arrV_store]
  congr 2
  funext q
  by_cases hq : q = i.toNatClampNeg
  · subst hq
    simp [updV, va_up, va_rf]
  · simp [updV, va_up, hq]
/-! what is made -/
theorem tz_P.push {H H1 : Heap} {e1 : va_E} (hP : tz_P D A f H) (hz : H.size = sz) (he : va_at D classes (sz, e1) H1) (hA : A sz) (oq : ∀ q : Nat, q < sz → H1[q]? = H[q]?) : tz_P D A (tz_set f sz e1) H1 := by
  intro q x hq
  by_cases h : q = sz
  · subst h
    rw [tz_set_s] at hq
    cases hq
    exact ⟨he, hA⟩
  · rw [tz_set_n h] at hq
    exact ⟨(hP q x hq).1.kept (oq q (by have := (hP q x hq).1.lt; rw [hz] at this; exact this)), (hP q x hq).2⟩
theorem tz_S.push {H0 H H1 : Heap} {locs : List Loc} (hS : va_S A H0 H locs) (hz : H.size = sz) (z1 : H1.size = sz + 1) (oq : ∀ q : Nat, q < sz → H1[q]? = H[q]?) : va_S A H0 H1 locs :=
  ⟨Nat.le_trans hS.1 (by omega), fun x h1 h2 => (oq x (by rw [← hz]; exact Nat.lt_of_lt_of_le h1 hS.1)).trans (hS.2.1 x h1 h2), hS.2.2⟩
theorem tz_new (C : tz_Cx p s m args c A D cs own cc nL) (hI : tz_CI ci Cn T N ty) (hcl : Cond.classLink own idx Cn ∈ tz_TT) (hins : Cond.instantiable Cn N ∈ tz_TT) (hini : Cond.initialized Cn ∈ tz_TT) (hA : A sz) (hfs : ∀ j, j < N → defaultValue (ty j) = vp_V fs j) (hR : cells + 1 ≤ R.cells ∧ slots + N ≤ R.slots) (hd : tz_dk cc pc (.new idx) 3 n) {sz' cells' slots' : Nat} (he : sz + 1 = sz' ∧ cells + 1 = cells' ∧ slots + N = slots') (kk : tz_V p l e R s m args below meth c Q A D nL (tz_set f sz (.inr (ci, fs))) sz' cells' slots' n lv (.ref sz :: rest)) : tz_V p l e R s m args below meth c Q A D nL f sz cells slots pc lv rest := by
  intro H locs ls hz hP hS hl9
  obtain ⟨hx, hb, hml, hown, hts, hE⟩ := id C
  obtain ⟨hd, rfl⟩ := hd
  obtain ⟨rfl, rfl, rfl⟩ := he
  obtain ⟨hc, hin, hty, hnm⟩ := hI
  have hKn := hE.1.1 ci _ hc
  refine W.newcK hx hb hown (hts _ hcl) (hts _ hins) (hts _ hini) rfl hd hR.1 hR.2 hKn.2.1 hz fun H1 kC hkC e1 z1 o1 => ?_
  exact kk H1 locs ls z1 (hP.push hz ⟨_, hc, (u_born ty hts hin hKn hkC e1 hty).to hfs⟩ hA o1) (tz_S.push hS hz z1 o1) hl9
theorem tz_newI (C : tz_Cx p s m args c A D cs own cc nL) (harr : Cond.arrayClass .int ∈ tz_TT) (hA : A sz) {k : Int32} (hk : ¬ k < 0 ∧ k.toNatClampNeg = nA ∧ nA * 4 ≤ 536870912) (hR : cells + 1 ≤ R.cells ∧ slots + nA ≤ R.slots) (hd : tz_dk cc pc (.newarray .int) 2 n) {sz' cells' slots' : Nat} (he : sz + 1 = sz' ∧ cells + 1 = cells' ∧ slots + nA = slots') (kk : tz_V p l e R s m args below meth c Q A D nL (tz_set f sz (tz_ints cs nA (fun _ => 0))) sz' cells' slots' n lv (.ref sz :: rest)) : tz_V p l e R s m args below meth c Q A D nL f sz cells slots pc lv (.int k :: rest) := by
  intro H locs ls hz hP hS hl9
  obtain ⟨hx, hb, hml, hown, hts, hE⟩ := id C
  obtain ⟨hd, rfl⟩ := hd
  obtain ⟨rfl, rfl, rfl⟩ := he
  refine va_newaK (atype := .int) hx hb (hts (.arrayClass .int) harr) rfl hd rfl hk.1 hk.2.1 hk.2.2 hR.1 hR.2 hz fun H1 cA e1 z1 o1 hAr hNm => ?_
  have hcI : cA = cs 0 := by
    have h2 : s.vm.findClass ("[" ++ FieldType.int.toString) = some (cs 0) := (hE.1.2 0 (cs 0, .int) rfl).2
    exact Option.some.inj (hNm.symm.trans h2)
  subst hcI
  exact kk H1 locs ls z1 (hP.push hz (by show H1[sz]? = some (vp_cell _ _); rw [e1]; rfl) hA o1) (tz_S.push hS hz z1 o1) hl9
theorem tz_newR (C : tz_Cx p s m args c A D cs own cc nL) {t : Nat} {cn : String} (ht : (tz_tys cs)[t]? = some (cs t, .object cn)) (hcl : Cond.classLink own idx cn ∈ tz_TT) (hov : Cond.arrayOver (.object cn) ∈ lw_tbl) (hA : A sz) {k : Int32} (hk : ¬ k < 0 ∧ k.toNatClampNeg = nA ∧ nA * 4 ≤ 536870912) (hR : cells + 1 ≤ R.cells ∧ slots + nA ≤ R.slots) (hd : tz_dk cc pc (.anewarray idx) 3 n) {sz' cells' slots' : Nat} (he : sz + 1 = sz' ∧ cells + 1 = cells' ∧ slots + nA = slots') (kk : tz_V p l e R s m args below meth c Q A D nL (tz_set f sz (tz_refs cs t nA (fun _ => none))) sz' cells' slots' n lv (.ref sz :: rest)) : tz_V p l e R s m args below meth c Q A D nL f sz cells slots pc lv (.int k :: rest) := by
  intro H locs ls hz hP hS hl9
  obtain ⟨hx, hb, hml, hown, hts, hE⟩ := id C
  obtain ⟨hd, rfl⟩ := hd
  obtain ⟨rfl, rfl, rfl⟩ := he
  obtain ⟨hk1, rfl, hk3⟩ := hk
  refine W.anew hx hb hown (hts _ hcl) ((hE.2.2.2.1 cn hov).use) rfl hd rfl hk1 hk3 hR.1 hR.2 fun cA kA comp h1 h2 h3 h4 => ?_
  have hcI : cA = cs t := by
    obtain ⟨_, _, -, -, -, h5⟩ := (hE.1.2 t _ ht).2
    exact Option.some.inj (h1.symm.trans h5)
  subst hcI
  have o1 : ∀ q : Nat, q < sz → (H.push { cls := cs t, slots := Array.replicate k.toNatClampNeg .null, vm := .none })[q]? = H[q]? := fun q hq => by
    rw [Array.getElem?_push, if_neg (by omega)]
  have z1 : (H.push { cls := cs t, slots := Array.replicate k.toNatClampNeg .null, vm := .none }).size = sz + 1 := by simp [hz]
  have e1 : (H.push ({ cls := cs t, slots := Array.replicate k.toNatClampNeg .null, vm := .none } : Cell))[sz]? = some (vp_cell (cs t) (k.toNatClampNeg, .inr (.inr (.inr (.inr (fun _ => none)))))) := by
    rw [vp_cell_q, ← hz]
    rw [show (fun j : Nat => va_rf ((fun _ => none : Nat → Option Nat) j)) = (fun _ => Value.null) from rfl, ← arrV_new]
    simp
  have hh := kk _ locs ls z1 (hP.push hz e1 hA o1) (tz_S.push hS hz z1 o1) hl9
  rw [← hz] at hh
  exact hh
/-! static arrays -/
theorem tz_gets (C : tz_Cx p s m args c A D cs own cc nL) {nm ref host : String} {gA : Nat → Int32} (hZ : tz_SA nm gA A s s.heap) (hl : Cond.fieldLinkNest own idx "TapeBench" nm "[I" host ∈ lw_tbl) (hd : tz_dk cc pc (.getstatic idx) 3 n) (kk : ∀ t : Nat, va_T .int t 7 (fun j => .int (gA j)) A s s.heap → tz_V p l e R s m args below meth c Q A D nL f sz cells slots n lv (.ref t :: rest)) : tz_V p l e R s m args below meth c Q A D nL f sz cells slots pc lv rest := by
  intro H locs ls hz hP hS hl9
  obtain ⟨hx, hb, hml, hown, hts, hE⟩ := id C
  obtain ⟨hd, rfl⟩ := hd
  obtain ⟨t, h1, h2⟩ := hZ
  exact va_getsN hx hb h1 hS hown (va_Nw.use rfl (hE.2.2.1 _ _ _ _ _ _ hl)) (fun _ h => h) hd (kk t h2 H locs ls hz hP hS hl9)
theorem tz_sald (C : tz_Cx p s m args c A D cs own cc nL) {t : Nat} {gA : Nat → Int32} (hT : va_T .int t 7 (fun j => .int (gA j)) A s s.heap) (hin : vp_in i 7) (hd : tz_dk cc pc .iaload 1 n) (kk : tz_V p l e R s m args below meth c Q A D nL f sz cells slots n lv (.int (gA i.toNatClampNeg) :: rest)) : tz_V p l e R s m args below meth c Q A D nL f sz cells slots pc lv (.int i :: .ref t :: rest) := by
  intro H locs ls hz hP hS hl9
  obtain ⟨hx, hb, hml, hown, hts, hE⟩ := id C
  obtain ⟨hd, rfl⟩ := hd
  obtain ⟨cell, h1, h2, h3, h4, h5, h6, h7⟩ := hT
  have hlt : i.toNatClampNeg < 7 := Nat.not_le.mp fun q => hin (Or.inr q)
  exact W.iald (v := .int (gA i.toNatClampNeg)) hx hb (by rw [hS.2.1 t (Array.getElem?_eq_some_iff.mp h1).1 h7]; exact h1) h2 h3 (fun z => by rcases z with z | z; exact hin (Or.inl z); omega) (h6 _ hlt) rfl rfl hd (kk H locs ls hz hP hS hl9)
/-! System.arraycopy of two int arrays -/
theorem tz_acopy (C : tz_Cx p s m args c A D cs own cc nL) (hl : Cond.methodLink own idx arraycopyName ∈ tz_TT) (hnat : Cond.native arraycopyName ∈ tz_TT) (hstat : Cond.static arraycopyName ∈ tz_TT) (hini : Cond.initialized "java/lang/System" ∈ tz_TT) {a0 n0 n1 : Nat} {g0 g1 : Nat → Int32} (hf0 : f a0 = some (tz_ints cs n0 g0)) (hf1 : f a = some (tz_ints cs n1 g1)) {sp dp k : Int32} (h1 : ¬ sp < 0) (h2 : ¬ dp < 0) (h3 : ¬ k < 0) (h4 : sp.toNatClampNeg + k.toNatClampNeg ≤ n0) (h5 : dp.toNatClampNeg + k.toNatClampNeg ≤ n1) (hR : 1 ≤ R.frames ∧ (rest.map fun v => v.category).sum + (nativeFrameWords "java/lang/System" "arraycopy" 5 + 11) ≤ R.locals) (hd : tz_dk cc pc (.invokestatic idx) 3 n)
    (kk : tz_V p l e R s m args below meth c Q A D nL (tz_set f a (tz_ints cs n1 (va_cpy g0 g1 sp.toNatClampNeg dp.toNatClampNeg k.toNatClampNeg))) sz cells slots n lv rest) : tz_V p l e R s m args below meth c Q A D nL f sz cells slots pc lv (.int k :: .int dp :: .ref a :: .int sp :: .ref a0 :: rest) := by
  intro H locs ls hz hP hS hl9
  obtain ⟨hx, hb, hml, hown, hts, hE⟩ := id C
  obtain ⟨hd, rfl⟩ := hd
  have nn : ∀ z : Int32, ¬ z < 0 → z.toInt = (z.toNatClampNeg : Int) := by
    intro z hz
    have hz0 : (0 : Int) ≤ z.toInt := by
      have := Int32.not_lt.mp hz
      simpa using Int32.le_iff_toInt_le.mp this
    show z.toInt = ((z.toInt.toNat : Nat) : Int)
    omega
  intro T hT X
  have hc0 : H[a0]? = some (vp_cell (cs 0) (n0, .inl g0)) := hP.one hf0 0 _ rfl
  have hc1 : H[a]? = some (vp_cell (cs 0) (n1, .inl g1)) := hP.one hf1 0 _ rfl
  obtain ⟨-, k0, hk0, cm0, hkk0⟩ := (hE.1.2 0 (cs 0, .int) rfl).1 n0 (fun j => .int (g0 j))
  obtain ⟨-, k1, hk1, cm1, hkk1⟩ := (hE.1.2 0 (cs 0, .int) rfl).1 n1 (fun j => .int (g1 j))
  obtain ⟨vm', X', step⟩ := X.arraycopy hx hown (hts _ hl) (hts _ hnat) (hts _ hstat) (hts _ hini) (src := a0) (dst := a) (cs := vp_cell (cs 0) (n0, .inl g0)) (cd := vp_cell (cs 0) (n1, .inl g1)) (srcPos := sp) (destPos := dp) (n := k) (by rw [hT]; exact hc0) (by rw [hT]; exact hc1)
    (fun _ h => by cases h) (fun _ h => by cases h) (fun h => by cases h) (fun h => by cases h) hk0 hk1 hkk0 hkk1 (by simp [refKind]) h1 h2 h3
    (by rw [nn sp h1, nn k h3]; show ¬ _ > ((arrV (cs 0) n0 (fun j => .int (g0 j))).slots.size : Int); rw [arrV_size]; omega)
    (by rw [nn dp h2, nn k h3]; show ¬ _ > ((arrV (cs 0) n1 (fun j => .int (g1 j))).slots.size : Int); rw [arrV_size]; omega)
    (fun vm₁ _ i hi => by
      have e : (vp_cell (cs 0) (n0, .inl g0)).slots.getD (sp.toNatClampNeg + i) .null = .int (g0 (sp.toNatClampNeg + i)) := by
        show (arrV (cs 0) n0 (fun j => .int (g0 j))).slots.getD _ _ = _
        rw [Array.getD_eq_getD_getElem?, arrV_read _ _ (by omega)]
        rfl
      refine ⟨?_, ?_⟩
      · rw [e]
        rfl
      · rw [e]
        exact trivial)
    (g := F0 m pc ls (.int k :: .int dp :: .ref a :: .int sp :: .ref a0 :: rest)) rfl (by rw [hml]; exact hl9.1) (rest := rest) rfl (by rw [hb]; exact hd) hR.1 (by show 2 * 0 + _ + _ ≤ _; have := hR.2; omega)
  have e1 : copied (vp_cell (cs 0) (n0, .inl g0)) (vp_cell (cs 0) (n1, .inl g1)) sp dp k = vp_cell (cs 0) (n1, .inl (va_cpy g0 g1 sp.toNatClampNeg dp.toNatClampNeg k.toNatClampNeg)) := va_copied (fun z => .int z) (cs 0) (cs 0) g0 g1 h4
  rw [e1] at X' step
  have hl0 : a < H.size := (Array.getElem?_eq_some_iff.mp hc1).1
  have hheap : ((T.setVm vm').setCell a (vp_cell (cs 0) (n1, .inl (va_cpy g0 g1 sp.toNatClampNeg dp.toNatClampNeg k.toNatClampNeg)))).heap = H.setIfInBounds a (vp_cell (cs 0) (n1, .inl (va_cpy g0 g1 sp.toNatClampNeg dp.toNatClampNeg k.toNatClampNeg))) := by rw [← hT]; rfl
  have oq : ∀ q : Nat, q ≠ a → (H.setIfInBounds a (vp_cell (cs 0) (n1, .inl (va_cpy g0 g1 sp.toNatClampNeg dp.toNatClampNeg k.toNatClampNeg))))[q]? = H[q]? := fun q hq => by simp [Array.getElem?_setIfInBounds, Ne.symm hq]
  obtain ⟨t, a1, b1⟩ := kk _ _ ls (by simp [hz]) (hP.put hf1 (show (H.setIfInBounds a _)[a]? = some _ by simp [Array.getElem?_setIfInBounds, hl0]) oq) ⟨by simp; exact hS.1, fun q g1 g2 => by
      rw [oq q (fun e => g2 (by rw [e]; exact (hP a _ hf1).2))]
      exact hS.2.1 q g1 g2, fun q hq => by
      rcases List.mem_append.mp hq with h | h
      · exact hS.2.2 q h
      · obtain ⟨z, -, hz⟩ := List.mem_map.mp h
        rw [← hz]
        exact (hP a _ hf1).2⟩ hl9 _ hheap X'
  exact ⟨t, step t a1, b1⟩
/-! returns -/
theorem tz_iret {x : Int32} (C : tz_Cx p s m args c A D cs own cc nL) (hr : meth.sig.returnType = some .int) (hk : meth.locks = false) (hz : sz = n + mc) (hd : tz_dk cc pc .ireturn 1 np) (hp : P (some (.int x)) f) : tz_V p l e R s m args below meth c (MQ below (tz_Q D A n mc P) args s mc ms A) A D nL f sz mc ms pc lv [.int x] := by
  intro H locs ls hz1 hP hS hl9
  exact W.iret C.1 C.2.1 hr (fun t ht hW => ⟨⟨_, f, rfl, hp, by rw [ht]; exact hP, by rw [ht, hz1, hz]⟩, hS.F ht⟩) hS.2.2 hd.1 hk
theorem tz_zret {x : Int32} (C : tz_Cx p s m args c A D cs own cc nL) (hr : meth.sig.returnType = some .boolean) (hk : meth.locks = false) (hx : x = 0 ∨ x = 1) (hz : sz = n + mc) (hd : tz_dk cc pc .ireturn 1 np) (hp : P (some (.int x)) f) : tz_V p l e R s m args below meth c (MQ below (tz_Q D A n mc P) args s mc ms A) A D nL f sz mc ms pc lv [.int x] := by
  intro H locs ls hz1 hP hS hl9
  exact W.zret C.1 C.2.1 hr (by rcases hx with rfl | rfl <;> rfl) (fun t ht hW => ⟨⟨_, f, rfl, hp, by rw [ht]; exact hP, by rw [ht, hz1, hz]⟩, hS.F ht⟩) hS.2.2 hd.1 hk
theorem tz_lret {x : Int64} (C : tz_Cx p s m args c A D cs own cc nL) (hr : meth.sig.returnType = some .long) (hk : meth.locks = false) (hz : sz = n + mc) (hd : tz_dk cc pc .lreturn 1 np) (hp : P (some (.long x)) f) : tz_V p l e R s m args below meth c (MQ below (tz_Q D A n mc P) args s mc ms A) A D nL f sz mc ms pc lv [.long x] := by
  intro H locs ls hz1 hP hS hl9
  exact W.lret C.1 C.2.1 hr (fun t ht hW => ⟨⟨_, f, rfl, hp, by rw [ht]; exact hP, by rw [ht, hz1, hz]⟩, hS.F ht⟩) hS.2.2 hd.1 hk
theorem tz_vret (C : tz_Cx p s m args c A D cs own cc nL) (hr : meth.sig.returnType = none) (hk : meth.locks = false) (hz : sz = n + mc) (hd : tz_dk cc pc .return_ 1 np) (hp : P none f) : tz_V p l e R s m args below meth c (MQ below (tz_Q D A n mc P) args s mc ms A) A D nL f sz mc ms pc lv [] := by
  intro H locs ls hz1 hP hS hl9
  exact W.vret C.1 C.2.1 hr (fun t ht hW => ⟨⟨_, f, rfl, hp, by rw [ht]; exact hP, by rw [ht, hz1, hz]⟩, hS.F ht⟩) hS.2.2 hd.1 hk
theorem tz_aret {r : Option Nat} {cn : String} (C : tz_Cx p s m args c A D cs own cc nL) (hr : meth.sig.returnType = some (.object cn)) (hk : meth.locks = false) (hz : sz = n + mc) (hd : tz_dk cc pc .areturn 1 np) (hp : P (some (va_rf r)) f) : tz_V p l e R s m args below meth c (MQ below (tz_Q D A n mc P) args s mc ms A) A D nL f sz mc ms pc lv [va_rf r] := by
  intro H locs ls hz1 hP hS hl9
  exact W.aret C.1 C.2.1 hr (Or.inl ⟨cn, rfl⟩) (by cases r with
    | none => exact Or.inl rfl
    | some q => exact Or.inr ⟨q, rfl⟩) (fun t ht hW => ⟨⟨_, f, rfl, hp, by rw [ht]; exact hP, by rw [ht, hz1, hz]⟩, hS.F ht⟩) hS.2.2 hd.1 hk
theorem tz_lvs {lv' : List (Nat × Value)} {st : List Value} (ks : List Nat) (h : lv_pick lv ks = lv') (kk : tz_V p l e R s m args below meth c Q A D nL f sz cells slots pc lv' st) : tz_V p l e R s m args below meth c Q A D nL f sz cells slots pc lv st := fun H locs ls hz hP hS hl => kk H locs ls hz hP hS (lv_sub hl ks h)
theorem tz_heap {f' : tz_PH} {st : List Value} (h : f = f') (kk : tz_V p l e R s m args below meth c Q A D nL f' sz cells slots pc lv st) : tz_V p l e R s m args below meth c Q A D nL f sz cells slots pc lv st := h ▸ kk
/-- fewer cells known -/
theorem tz_less {f' : tz_PH} {st : List Value} (h : ∀ q e, f' q = some e → f q = some e) (kk : tz_V p l e R s m args below meth c Q A D nL f' sz cells slots pc lv st) : tz_V p l e R s m args below meth c Q A D nL f sz cells slots pc lv st := fun H locs ls hz hP hS hl => kk H locs ls hz (fun q e hq => hP q e (h q e hq)) hS hl
theorem tz_widen {st : List Value} {cells' slots' : Nat} (h1 : cells ≤ cells') (h2 : slots ≤ slots') (kk : tz_V p l e R s m args below meth c Q A D nL f sz cells' slots' pc lv st) : tz_V p l e R s m args below meth c Q A D nL f sz cells slots pc lv st := fun H locs ls hz hP hS hl => W.widen h1 h2 (kk H locs ls hz hP hS hl)
end TZA
section TZR
variable {p : Program} {l : Launch} {e : Env} {R : Room} {s : State} {m : MethodId} {args : Array Value} {below : List Frame} {meth : Method} {c : Code} {Q : State → Prop} {A : Nat → Prop} {D : va_G} {cs : Nat → ClassId} {own : String} {cc : ByteArray} {nL : Nat} {f : tz_PH} {sz cells slots pc n tgt : Nat} {lv : List (Nat × Value)} {rest : List Value}
theorem tz_iconst (C : tz_Cx p s m args c A D cs own cc nL) {k : Int} {v : Int32} (hv : Int32.ofInt k = v) (hd : tz_dk cc pc (.iconst k) 1 n) (kk : tz_V p l e R s m args below meth c Q A D nL f sz cells slots n lv (.int v :: rest)) : tz_V p l e R s m args below meth c Q A D nL f sz cells slots pc lv (rest) := by
  obtain ⟨hd, rfl⟩ := hd
  exact fun H locs ls hz hP hS hl => lv_iconst C.1 C.2.1 hd hv (kk H locs ls hz hP hS hl)
theorem tz_bipush (C : tz_Cx p s m args c A D cs own cc nL) {k : Int} {v : Int32} (hv : (Int8.ofInt k).toInt32 = v) (hd : tz_dk cc pc (.bipush k) 2 n) (kk : tz_V p l e R s m args below meth c Q A D nL f sz cells slots n lv (.int v :: rest)) : tz_V p l e R s m args below meth c Q A D nL f sz cells slots pc lv (rest) := by
  obtain ⟨hd, rfl⟩ := hd
  exact fun H locs ls hz hP hS hl => lv_bipush C.1 C.2.1 hd hv (kk H locs ls hz hP hS hl)
theorem tz_sipush (C : tz_Cx p s m args c A D cs own cc nL) {k : Int} {v : Int32} (hv : (Int16.ofInt k).toInt32 = v) (hd : tz_dk cc pc (.sipush k) 3 n) (kk : tz_V p l e R s m args below meth c Q A D nL f sz cells slots n lv (.int v :: rest)) : tz_V p l e R s m args below meth c Q A D nL f sz cells slots pc lv (rest) := by
  obtain ⟨hd, rfl⟩ := hd
  exact fun H locs ls hz hP hS hl => lv_sipush C.1 C.2.1 hd hv (kk H locs ls hz hP hS hl)
theorem tz_lconst (C : tz_Cx p s m args c A D cs own cc nL) {k : Fin 2} {v : Int64} (hv : Int64.ofNat (k : Nat) = v) (hd : tz_dk cc pc (.lconst k) 1 n) (kk : tz_V p l e R s m args below meth c Q A D nL f sz cells slots n lv (.long v :: rest)) : tz_V p l e R s m args below meth c Q A D nL f sz cells slots pc lv (rest) := by
  obtain ⟨hd, rfl⟩ := hd
  exact fun H locs ls hz hP hS hl => lv_lconst C.1 C.2.1 hd hv (kk H locs ls hz hP hS hl)
theorem tz_ldc (C : tz_Cx p s m args c A D cs own cc nL) {idx : Nat} {v : Int32} (hw : Cond.constant own idx v ∈ tz_TT) (hd : tz_dk cc pc (.ldc idx) 2 n) (kk : tz_V p l e R s m args below meth c Q A D nL f sz cells slots n lv (.int v :: rest)) : tz_V p l e R s m args below meth c Q A D nL f sz cells slots pc lv (rest) := by
  obtain ⟨hd, rfl⟩ := hd
  exact fun H locs ls hz hP hS hl => lv_ldc C.1 C.2.1 C.2.2.2.1 (C.2.2.2.2.1 _ hw) hd (kk H locs ls hz hP hS hl)
theorem tz_ldcw (C : tz_Cx p s m args c A D cs own cc nL) {idx : Nat} {v : Int32} (hw : Cond.constant own idx v ∈ tz_TT) (hd : tz_dk cc pc (.ldc_w idx) 3 n) (kk : tz_V p l e R s m args below meth c Q A D nL f sz cells slots n lv (.int v :: rest)) : tz_V p l e R s m args below meth c Q A D nL f sz cells slots pc lv (rest) := by
  obtain ⟨hd, rfl⟩ := hd
  exact fun H locs ls hz hP hS hl => lv_ldcw C.1 C.2.1 C.2.2.2.1 (C.2.2.2.2.1 _ hw) hd (kk H locs ls hz hP hS hl)
theorem tz_ldc2 (C : tz_Cx p s m args c A D cs own cc nL) {idx : Nat} {v : Int64} (hw : Cond.constantLong own idx v ∈ tz_TT) (hd : tz_dk cc pc (.ldc2_w idx) 3 n) (kk : tz_V p l e R s m args below meth c Q A D nL f sz cells slots n lv (.long v :: rest)) : tz_V p l e R s m args below meth c Q A D nL f sz cells slots pc lv (rest) := by
  obtain ⟨hd, rfl⟩ := hd
  exact fun H locs ls hz hP hS hl => lv_ldc2 C.1 C.2.1 C.2.2.2.1 (C.2.2.2.2.1 _ hw) hd (kk H locs ls hz hP hS hl)
theorem tz_null (C : tz_Cx p s m args c A D cs own cc nL)  (hd : tz_dk cc pc (.aconst_null) 1 n) (kk : tz_V p l e R s m args below meth c Q A D nL f sz cells slots n lv (.null :: rest)) : tz_V p l e R s m args below meth c Q A D nL f sz cells slots pc lv (rest) := by
  obtain ⟨hd, rfl⟩ := hd
  exact fun H locs ls hz hP hS hl => lv_null C.1 C.2.1 hd (kk H locs ls hz hP hS hl)
theorem tz_dup (C : tz_Cx p s m args c A D cs own cc nL) {va : Value} (h1 : va.category = 1) (hd : tz_dk cc pc (.dup) 1 n) (kk : tz_V p l e R s m args below meth c Q A D nL f sz cells slots n lv (va :: va :: rest)) : tz_V p l e R s m args below meth c Q A D nL f sz cells slots pc lv (va :: rest) := by
  obtain ⟨hd, rfl⟩ := hd
  exact fun H locs ls hz hP hS hl => lv_dup C.1 C.2.1 hd h1 (kk H locs ls hz hP hS hl)
theorem tz_dup2 (C : tz_Cx p s m args c A D cs own cc nL) {va vb : Value} (h1 : va.category = 1) (h2 : vb.category = 1) (hd : tz_dk cc pc (.dup2) 1 n) (kk : tz_V p l e R s m args below meth c Q A D nL f sz cells slots n lv (va :: vb :: va :: vb :: rest)) : tz_V p l e R s m args below meth c Q A D nL f sz cells slots pc lv (va :: vb :: rest) := by
  obtain ⟨hd, rfl⟩ := hd
  exact fun H locs ls hz hP hS hl => lv_dup2_11 C.1 C.2.1 hd h1 h2 (kk H locs ls hz hP hS hl)
theorem tz_pop (C : tz_Cx p s m args c A D cs own cc nL) {va : Value} (h1 : va.category = 1) (hd : tz_dk cc pc (.pop) 1 n) (kk : tz_V p l e R s m args below meth c Q A D nL f sz cells slots n lv (rest)) : tz_V p l e R s m args below meth c Q A D nL f sz cells slots pc lv (va :: rest) := by
  obtain ⟨hd, rfl⟩ := hd
  exact fun H locs ls hz hP hS hl => lv_pop C.1 C.2.1 hd h1 (kk H locs ls hz hP hS hl)
theorem tz_iadd (C : tz_Cx p s m args c A D cs own cc nL) {x y : Int32} (hd : tz_dk cc pc (.iadd) 1 n) (kk : tz_V p l e R s m args below meth c Q A D nL f sz cells slots n lv (.int (x + y) :: rest)) : tz_V p l e R s m args below meth c Q A D nL f sz cells slots pc lv (.int y :: .int x :: rest) := by
  obtain ⟨hd, rfl⟩ := hd
  exact fun H locs ls hz hP hS hl => lv_iadd C.1 C.2.1 hd (kk H locs ls hz hP hS hl)
theorem tz_isub (C : tz_Cx p s m args c A D cs own cc nL) {x y : Int32} (hd : tz_dk cc pc (.isub) 1 n) (kk : tz_V p l e R s m args below meth c Q A D nL f sz cells slots n lv (.int (x - y) :: rest)) : tz_V p l e R s m args below meth c Q A D nL f sz cells slots pc lv (.int y :: .int x :: rest) := by
  obtain ⟨hd, rfl⟩ := hd
  exact fun H locs ls hz hP hS hl => lv_isub C.1 C.2.1 hd (kk H locs ls hz hP hS hl)
theorem tz_imul (C : tz_Cx p s m args c A D cs own cc nL) {x y : Int32} (hd : tz_dk cc pc (.imul) 1 n) (kk : tz_V p l e R s m args below meth c Q A D nL f sz cells slots n lv (.int (x * y) :: rest)) : tz_V p l e R s m args below meth c Q A D nL f sz cells slots pc lv (.int y :: .int x :: rest) := by
  obtain ⟨hd, rfl⟩ := hd
  exact fun H locs ls hz hP hS hl => lv_imul C.1 C.2.1 hd (kk H locs ls hz hP hS hl)
theorem tz_iand (C : tz_Cx p s m args c A D cs own cc nL) {x y : Int32} (hd : tz_dk cc pc (.iand) 1 n) (kk : tz_V p l e R s m args below meth c Q A D nL f sz cells slots n lv (.int (x &&& y) :: rest)) : tz_V p l e R s m args below meth c Q A D nL f sz cells slots pc lv (.int y :: .int x :: rest) := by
  obtain ⟨hd, rfl⟩ := hd
  exact fun H locs ls hz hP hS hl => lv_iand C.1 C.2.1 hd (kk H locs ls hz hP hS hl)
theorem tz_ishl (C : tz_Cx p s m args c A D cs own cc nL) {x y : Int32} (hd : tz_dk cc pc (.ishl) 1 n) (kk : tz_V p l e R s m args below meth c Q A D nL f sz cells slots n lv (.int (x <<< (y &&& 31)) :: rest)) : tz_V p l e R s m args below meth c Q A D nL f sz cells slots pc lv (.int y :: .int x :: rest) := by
  obtain ⟨hd, rfl⟩ := hd
  exact fun H locs ls hz hP hS hl => lv_ishl C.1 C.2.1 hd (kk H locs ls hz hP hS hl)
theorem tz_ishr (C : tz_Cx p s m args c A D cs own cc nL) {x y : Int32} (hd : tz_dk cc pc (.ishr) 1 n) (kk : tz_V p l e R s m args below meth c Q A D nL f sz cells slots n lv (.int (x >>> (y &&& 31)) :: rest)) : tz_V p l e R s m args below meth c Q A D nL f sz cells slots pc lv (.int y :: .int x :: rest) := by
  obtain ⟨hd, rfl⟩ := hd
  exact fun H locs ls hz hP hS hl => lv_ishr C.1 C.2.1 hd (kk H locs ls hz hP hS hl)
theorem tz_ixor (C : tz_Cx p s m args c A D cs own cc nL) {x y : Int32} (hd : tz_dk cc pc (.ixor) 1 n) (kk : tz_V p l e R s m args below meth c Q A D nL f sz cells slots n lv (.int (x ^^^ y) :: rest)) : tz_V p l e R s m args below meth c Q A D nL f sz cells slots pc lv (.int y :: .int x :: rest) := by
  obtain ⟨hd, rfl⟩ := hd
  exact fun H locs ls hz hP hS hl => lv_ixor C.1 C.2.1 hd (kk H locs ls hz hP hS hl)
theorem tz_idiv (C : tz_Cx p s m args c A D cs own cc nL) {x y : Int32} (h0 : ¬ y = 0) (hd : tz_dk cc pc (.idiv) 1 n) (kk : tz_V p l e R s m args below meth c Q A D nL f sz cells slots n lv (.int (x / y) :: rest)) : tz_V p l e R s m args below meth c Q A D nL f sz cells slots pc lv (.int y :: .int x :: rest) := by
  obtain ⟨hd, rfl⟩ := hd
  exact fun H locs ls hz hP hS hl => lv_idiv C.1 C.2.1 hd h0 (kk H locs ls hz hP hS hl)
theorem tz_irem (C : tz_Cx p s m args c A D cs own cc nL) {x y : Int32} (h0 : ¬ y = 0) (hd : tz_dk cc pc (.irem) 1 n) (kk : tz_V p l e R s m args below meth c Q A D nL f sz cells slots n lv (.int (x - x / y * y) :: rest)) : tz_V p l e R s m args below meth c Q A D nL f sz cells slots pc lv (.int y :: .int x :: rest) := by
  obtain ⟨hd, rfl⟩ := hd
  exact fun H locs ls hz hP hS hl => lv_irem C.1 C.2.1 hd h0 (kk H locs ls hz hP hS hl)
theorem tz_ineg (C : tz_Cx p s m args c A D cs own cc nL) {x : Int32} (hd : tz_dk cc pc (.ineg) 1 n) (kk : tz_V p l e R s m args below meth c Q A D nL f sz cells slots n lv (.int (-x) :: rest)) : tz_V p l e R s m args below meth c Q A D nL f sz cells slots pc lv (.int x :: rest) := by
  obtain ⟨hd, rfl⟩ := hd
  exact fun H locs ls hz hP hS hl => lv_ineg C.1 C.2.1 hd (kk H locs ls hz hP hS hl)
theorem tz_i2l (C : tz_Cx p s m args c A D cs own cc nL) {x : Int32} (hd : tz_dk cc pc (.i2l) 1 n) (kk : tz_V p l e R s m args below meth c Q A D nL f sz cells slots n lv (.long x.toInt64 :: rest)) : tz_V p l e R s m args below meth c Q A D nL f sz cells slots pc lv (.int x :: rest) := by
  obtain ⟨hd, rfl⟩ := hd
  exact fun H locs ls hz hP hS hl => lv_i2l C.1 C.2.1 hd rfl (kk H locs ls hz hP hS hl)
theorem tz_ladd (C : tz_Cx p s m args c A D cs own cc nL) {x y : Int64} (hd : tz_dk cc pc (.ladd) 1 n) (kk : tz_V p l e R s m args below meth c Q A D nL f sz cells slots n lv (.long (x + y) :: rest)) : tz_V p l e R s m args below meth c Q A D nL f sz cells slots pc lv (.long y :: .long x :: rest) := by
  obtain ⟨hd, rfl⟩ := hd
  exact fun H locs ls hz hP hS hl => lv_ladd C.1 C.2.1 hd (kk H locs ls hz hP hS hl)
theorem tz_lmul (C : tz_Cx p s m args c A D cs own cc nL) {x y : Int64} (hd : tz_dk cc pc (.lmul) 1 n) (kk : tz_V p l e R s m args below meth c Q A D nL f sz cells slots n lv (.long (x * y) :: rest)) : tz_V p l e R s m args below meth c Q A D nL f sz cells slots pc lv (.long y :: .long x :: rest) := by
  obtain ⟨hd, rfl⟩ := hd
  exact fun H locs ls hz hP hS hl => lv_lmul C.1 C.2.1 hd (kk H locs ls hz hP hS hl)
theorem tz_lcmp (C : tz_Cx p s m args c A D cs own cc nL) {x y : Int64} (hd : tz_dk cc pc (.lcmp) 1 n) (kk : tz_V p l e R s m args below meth c Q A D nL f sz cells slots n lv (.int (lg_cmp x y) :: rest)) : tz_V p l e R s m args below meth c Q A D nL f sz cells slots pc lv (.long y :: .long x :: rest) := by
  obtain ⟨hd, rfl⟩ := hd
  exact fun H locs ls hz hP hS hl => W.lcmp C.1 C.2.1 hd (kk H locs ls hz hP hS hl)
theorem tz_iload_n (C : tz_Cx p s m args c A D cs own cc nL) {k : Fin 4} (i : Nat) {j : Nat} {x : Int32} (hi : (k : Nat) = j) (hx : lv[i]? = some (j, .int x)) (hd : tz_dk cc pc (.iload_n k) 1 n) (kk : tz_V p l e R s m args below meth c Q A D nL f sz cells slots n lv (.int x :: rest)) : tz_V p l e R s m args below meth c Q A D nL f sz cells slots pc lv (rest) := by
  obtain ⟨hd, rfl⟩ := hd
  exact fun H locs ls hz hP hS hl => lv_iload_n C.1 C.2.1 hd hi (lv_at hl i hx) (kk H locs ls hz hP hS hl)
theorem tz_iload (C : tz_Cx p s m args c A D cs own cc nL) (i : Nat) {j : Nat} {x : Int32} (hx : lv[i]? = some (j, .int x)) (hd : tz_dk cc pc (.iload j) 2 n) (kk : tz_V p l e R s m args below meth c Q A D nL f sz cells slots n lv (.int x :: rest)) : tz_V p l e R s m args below meth c Q A D nL f sz cells slots pc lv (rest) := by
  obtain ⟨hd, rfl⟩ := hd
  exact fun H locs ls hz hP hS hl => lv_iload C.1 C.2.1 hd (lv_at hl i hx) (kk H locs ls hz hP hS hl)
theorem tz_lload_n (C : tz_Cx p s m args c A D cs own cc nL) {k : Fin 4} (i : Nat) {j : Nat} {x : Int64} (hi : (k : Nat) = j) (hx : lv[i]? = some (j, .long x)) (hd : tz_dk cc pc (.lload_n k) 1 n) (kk : tz_V p l e R s m args below meth c Q A D nL f sz cells slots n lv (.long x :: rest)) : tz_V p l e R s m args below meth c Q A D nL f sz cells slots pc lv (rest) := by
  obtain ⟨hd, rfl⟩ := hd
  exact fun H locs ls hz hP hS hl => lv_lload_n C.1 C.2.1 hd hi (lv_at hl i hx) (kk H locs ls hz hP hS hl)
theorem tz_lload (C : tz_Cx p s m args c A D cs own cc nL) (i : Nat) {j : Nat} {x : Int64} (hx : lv[i]? = some (j, .long x)) (hd : tz_dk cc pc (.lload j) 2 n) (kk : tz_V p l e R s m args below meth c Q A D nL f sz cells slots n lv (.long x :: rest)) : tz_V p l e R s m args below meth c Q A D nL f sz cells slots pc lv (rest) := by
  obtain ⟨hd, rfl⟩ := hd
  exact fun H locs ls hz hP hS hl => lv_lload C.1 C.2.1 hd (lv_at hl i hx) (kk H locs ls hz hP hS hl)
theorem tz_aload_n (C : tz_Cx p s m args c A D cs own cc nL) {k : Fin 4} (i : Nat) {j : Nat} {x : Nat} (hi : (k : Nat) = j) (hx : lv[i]? = some (j, .ref x)) (hd : tz_dk cc pc (.aload_n k) 1 n) (kk : tz_V p l e R s m args below meth c Q A D nL f sz cells slots n lv (.ref x :: rest)) : tz_V p l e R s m args below meth c Q A D nL f sz cells slots pc lv (rest) := by
  obtain ⟨hd, rfl⟩ := hd
  exact fun H locs ls hz hP hS hl => lv_aload_n C.1 C.2.1 hd hi (lv_at hl i hx) (kk H locs ls hz hP hS hl)
theorem tz_aload (C : tz_Cx p s m args c A D cs own cc nL) (i : Nat) {j : Nat} {x : Nat} (hx : lv[i]? = some (j, .ref x)) (hd : tz_dk cc pc (.aload j) 2 n) (kk : tz_V p l e R s m args below meth c Q A D nL f sz cells slots n lv (.ref x :: rest)) : tz_V p l e R s m args below meth c Q A D nL f sz cells slots pc lv (rest) := by
  obtain ⟨hd, rfl⟩ := hd
  exact fun H locs ls hz hP hS hl => lv_aload C.1 C.2.1 hd (lv_at hl i hx) (kk H locs ls hz hP hS hl)
theorem tz_aload_nN (C : tz_Cx p s m args c A D cs own cc nL) {k : Fin 4} (i : Nat) {j : Nat} (hi : (k : Nat) = j) (hx : lv[i]? = some (j, .null)) (hd : tz_dk cc pc (.aload_n k) 1 n) (kk : tz_V p l e R s m args below meth c Q A D nL f sz cells slots n lv (.null :: rest)) : tz_V p l e R s m args below meth c Q A D nL f sz cells slots pc lv (rest) := by
  obtain ⟨hd, rfl⟩ := hd
  exact fun H locs ls hz hP hS hl => lv_aload_nN C.1 C.2.1 hd hi (lv_at hl i hx) (kk H locs ls hz hP hS hl)
theorem tz_aloadN (C : tz_Cx p s m args c A D cs own cc nL) (i : Nat) {j : Nat} (hx : lv[i]? = some (j, .null)) (hd : tz_dk cc pc (.aload j) 2 n) (kk : tz_V p l e R s m args below meth c Q A D nL f sz cells slots n lv (.null :: rest)) : tz_V p l e R s m args below meth c Q A D nL f sz cells slots pc lv (rest) := by
  obtain ⟨hd, rfl⟩ := hd
  exact fun H locs ls hz hP hS hl => lv_aloadN C.1 C.2.1 hd (lv_at hl i hx) (kk H locs ls hz hP hS hl)
theorem tz_aload_nQ (C : tz_Cx p s m args c A D cs own cc nL) {k : Fin 4} (i : Nat) {j : Nat} {r : Option Nat} (hi : (k : Nat) = j) (hx : lv[i]? = some (j, va_rf r)) (hd : tz_dk cc pc (.aload_n k) 1 n) (kk : tz_V p l e R s m args below meth c Q A D nL f sz cells slots n lv (va_rf r :: rest)) : tz_V p l e R s m args below meth c Q A D nL f sz cells slots pc lv rest := by
  cases r with
  | none => exact tz_aload_nN C i hi hx hd kk
  | some q => exact tz_aload_n C i hi hx hd kk
theorem tz_aloadQ (C : tz_Cx p s m args c A D cs own cc nL) (i : Nat) {j : Nat} {r : Option Nat} (hx : lv[i]? = some (j, va_rf r)) (hd : tz_dk cc pc (.aload j) 2 n) (kk : tz_V p l e R s m args below meth c Q A D nL f sz cells slots n lv (va_rf r :: rest)) : tz_V p l e R s m args below meth c Q A D nL f sz cells slots pc lv rest := by
  cases r with
  | none => exact tz_aloadN C i hx hd kk
  | some q => exact tz_aload C i hx hd kk
theorem tz_istore_n (C : tz_Cx p s m args c A D cs own cc nL) {k : Fin 4} {j : Nat} {x : Int32} {lv' : List (Nat × Value)} (ks : List Nat) (hi : (k : Nat) = j) (hn : j < nL) (hp : lv_pick ((j, Value.int x) :: lv.filter (fun q => !(q.1 == j) && !(q.1 + 1 == j && q.2.category == 2))) ks = lv') (hd : tz_dk cc pc (.istore_n k) 1 n) (kk : tz_V p l e R s m args below meth c Q A D nL f sz cells slots n lv' rest) : tz_V p l e R s m args below meth c Q A D nL f sz cells slots pc lv (Value.int x :: rest) := by
  obtain ⟨hd, rfl⟩ := hd
  exact fun H locs ls hz hP hS hl => lv_istore_n C.1 C.2.1 hd hi hl hn rfl (fun ls' hl' => kk H locs ls' hz hP hS (lv_sub hl' ks hp))
theorem tz_istore (C : tz_Cx p s m args c A D cs own cc nL) {j : Nat} {x : Int32} {lv' : List (Nat × Value)} (ks : List Nat) (hn : j < nL) (hp : lv_pick ((j, Value.int x) :: lv.filter (fun q => !(q.1 == j) && !(q.1 + 1 == j && q.2.category == 2))) ks = lv') (hd : tz_dk cc pc (.istore j) 2 n) (kk : tz_V p l e R s m args below meth c Q A D nL f sz cells slots n lv' rest) : tz_V p l e R s m args below meth c Q A D nL f sz cells slots pc lv (Value.int x :: rest) := by
  obtain ⟨hd, rfl⟩ := hd
  exact fun H locs ls hz hP hS hl => lv_istore C.1 C.2.1 hd hl hn rfl (fun ls' hl' => kk H locs ls' hz hP hS (lv_sub hl' ks hp))
theorem tz_astore_n (C : tz_Cx p s m args c A D cs own cc nL) {k : Fin 4} {j : Nat} {x : Nat} {lv' : List (Nat × Value)} (ks : List Nat) (hi : (k : Nat) = j) (hn : j < nL) (hp : lv_pick ((j, Value.ref x) :: lv.filter (fun q => !(q.1 == j) && !(q.1 + 1 == j && q.2.category == 2))) ks = lv') (hd : tz_dk cc pc (.astore_n k) 1 n) (kk : tz_V p l e R s m args below meth c Q A D nL f sz cells slots n lv' rest) : tz_V p l e R s m args below meth c Q A D nL f sz cells slots pc lv (Value.ref x :: rest) := by
  obtain ⟨hd, rfl⟩ := hd
  exact fun H locs ls hz hP hS hl => lv_astore_n C.1 C.2.1 hd hi hl hn rfl (fun ls' hl' => kk H locs ls' hz hP hS (lv_sub hl' ks hp))
theorem tz_astore (C : tz_Cx p s m args c A D cs own cc nL) {j : Nat} {x : Nat} {lv' : List (Nat × Value)} (ks : List Nat) (hn : j < nL) (hp : lv_pick ((j, Value.ref x) :: lv.filter (fun q => !(q.1 == j) && !(q.1 + 1 == j && q.2.category == 2))) ks = lv') (hd : tz_dk cc pc (.astore j) 2 n) (kk : tz_V p l e R s m args below meth c Q A D nL f sz cells slots n lv' rest) : tz_V p l e R s m args below meth c Q A D nL f sz cells slots pc lv (Value.ref x :: rest) := by
  obtain ⟨hd, rfl⟩ := hd
  exact fun H locs ls hz hP hS hl => lv_astore C.1 C.2.1 hd hl hn rfl (fun ls' hl' => kk H locs ls' hz hP hS (lv_sub hl' ks hp))
theorem tz_astore_nN (C : tz_Cx p s m args c A D cs own cc nL) {k : Fin 4} {j : Nat} {lv' : List (Nat × Value)} (ks : List Nat) (hi : (k : Nat) = j) (hn : j < nL) (hp : lv_pick ((j, Value.null) :: lv.filter (fun q => !(q.1 == j) && !(q.1 + 1 == j && q.2.category == 2))) ks = lv') (hd : tz_dk cc pc (.astore_n k) 1 n) (kk : tz_V p l e R s m args below meth c Q A D nL f sz cells slots n lv' rest) : tz_V p l e R s m args below meth c Q A D nL f sz cells slots pc lv (Value.null :: rest) := by
  obtain ⟨hd, rfl⟩ := hd
  exact fun H locs ls hz hP hS hl => lv_astore_nN C.1 C.2.1 hd hi hl hn rfl (fun ls' hl' => kk H locs ls' hz hP hS (lv_sub hl' ks hp))
theorem tz_astoreN (C : tz_Cx p s m args c A D cs own cc nL) {j : Nat} {lv' : List (Nat × Value)} (ks : List Nat) (hn : j < nL) (hp : lv_pick ((j, Value.null) :: lv.filter (fun q => !(q.1 == j) && !(q.1 + 1 == j && q.2.category == 2))) ks = lv') (hd : tz_dk cc pc (.astore j) 2 n) (kk : tz_V p l e R s m args below meth c Q A D nL f sz cells slots n lv' rest) : tz_V p l e R s m args below meth c Q A D nL f sz cells slots pc lv (Value.null :: rest) := by
  obtain ⟨hd, rfl⟩ := hd
  exact fun H locs ls hz hP hS hl => lv_astoreN C.1 C.2.1 hd hl hn rfl (fun ls' hl' => kk H locs ls' hz hP hS (lv_sub hl' ks hp))
theorem tz_lstore_n (C : tz_Cx p s m args c A D cs own cc nL) {k : Fin 4} {j : Nat} {x : Int64} {lv' : List (Nat × Value)} (ks : List Nat) (hi : (k : Nat) = j) (hn : j + 1 < nL) (hp : lv_pick ((j, Value.long x) :: lv.filter (fun q => !(q.1 == j) && (!(q.1 == j + 1) && !(q.1 + 1 == j && q.2.category == 2)))) ks = lv') (hd : tz_dk cc pc (.lstore_n k) 1 n) (kk : tz_V p l e R s m args below meth c Q A D nL f sz cells slots n lv' rest) : tz_V p l e R s m args below meth c Q A D nL f sz cells slots pc lv (Value.long x :: rest) := by
  obtain ⟨hd, rfl⟩ := hd
  exact fun H locs ls hz hP hS hl => lv_lstore_n C.1 C.2.1 hd hi hl hn rfl (fun ls' hl' => kk H locs ls' hz hP hS (lv_sub hl' ks hp))
theorem tz_lstore (C : tz_Cx p s m args c A D cs own cc nL) {j : Nat} {x : Int64} {lv' : List (Nat × Value)} (ks : List Nat) (hn : j + 1 < nL) (hp : lv_pick ((j, Value.long x) :: lv.filter (fun q => !(q.1 == j) && (!(q.1 == j + 1) && !(q.1 + 1 == j && q.2.category == 2)))) ks = lv') (hd : tz_dk cc pc (.lstore j) 2 n) (kk : tz_V p l e R s m args below meth c Q A D nL f sz cells slots n lv' rest) : tz_V p l e R s m args below meth c Q A D nL f sz cells slots pc lv (Value.long x :: rest) := by
  obtain ⟨hd, rfl⟩ := hd
  exact fun H locs ls hz hP hS hl => lv_lstore C.1 C.2.1 hd hl hn rfl (fun ls' hl' => kk H locs ls' hz hP hS (lv_sub hl' ks hp))
theorem tz_astore_nQ (C : tz_Cx p s m args c A D cs own cc nL) {k : Fin 4} {j : Nat} {r : Option Nat} {lv' : List (Nat × Value)} (ks : List Nat) (hi : (k : Nat) = j) (hn : j < nL) (hp : lv_pick ((j, va_rf r) :: lv.filter (fun q => !(q.1 == j) && !(q.1 + 1 == j && q.2.category == 2))) ks = lv') (hd : tz_dk cc pc (.astore_n k) 1 n) (kk : tz_V p l e R s m args below meth c Q A D nL f sz cells slots n lv' rest) : tz_V p l e R s m args below meth c Q A D nL f sz cells slots pc lv (va_rf r :: rest) := by
  cases r with
  | none => exact tz_astore_nN C ks hi hn hp hd kk
  | some q => exact tz_astore_n C ks hi hn hp hd kk
theorem tz_astoreQ (C : tz_Cx p s m args c A D cs own cc nL) {j : Nat} {r : Option Nat} {lv' : List (Nat × Value)} (ks : List Nat) (hn : j < nL) (hp : lv_pick ((j, va_rf r) :: lv.filter (fun q => !(q.1 == j) && !(q.1 + 1 == j && q.2.category == 2))) ks = lv') (hd : tz_dk cc pc (.astore j) 2 n) (kk : tz_V p l e R s m args below meth c Q A D nL f sz cells slots n lv' rest) : tz_V p l e R s m args below meth c Q A D nL f sz cells slots pc lv (va_rf r :: rest) := by
  cases r with
  | none => exact tz_astoreN C ks hn hp hd kk
  | some q => exact tz_astore C ks hn hp hd kk
theorem tz_iinc (C : tz_Cx p s m args c A D cs own cc nL) {j : Nat} {k : Int} {x v : Int32} {lv' : List (Nat × Value)} (i : Nat) (hx : lv[i]? = some (j, .int x)) (hv : x + Int32.ofInt k = v) (ks : List Nat) (hn : j < nL) (hp : lv_pick ((j, Value.int v) :: lv.filter (fun q => !(q.1 == j) && !(q.1 + 1 == j && q.2.category == 2))) ks = lv') (hd : tz_dk cc pc (.iinc j k) 3 n) (kk : tz_V p l e R s m args below meth c Q A D nL f sz cells slots n lv' rest) : tz_V p l e R s m args below meth c Q A D nL f sz cells slots pc lv rest := by
  obtain ⟨hd, rfl⟩ := hd
  exact fun H locs ls hz hP hS hl => lv_iinc C.1 C.2.1 hd hl hx hv hn rfl (fun ls' hl' => kk H locs ls' hz hP hS (lv_sub hl' ks hp))
theorem tz_if_eq (C : tz_Cx p s m args c A D cs own cc nL) {x : Int32} {off : Int} (hd : tz_dj cc pc (.ifCond .eq off) off n tgt) (kt : x = 0 → tz_V p l e R s m args below meth c Q A D nL f sz cells slots tgt lv rest) (kf : ¬ x = 0 → tz_V p l e R s m args below meth c Q A D nL f sz cells slots n lv rest) : tz_V p l e R s m args below meth c Q A D nL f sz cells slots pc lv (.int x :: rest) := by
  obtain ⟨hd, rfl, ht⟩ := hd
  exact fun H locs ls hz hP hS hl => lv_if_eq C.1 C.2.1 hd ht (fun h => kt h H locs ls hz hP hS hl) (fun h => kf h H locs ls hz hP hS hl)
theorem tz_if_ne (C : tz_Cx p s m args c A D cs own cc nL) {x : Int32} {off : Int} (hd : tz_dj cc pc (.ifCond .ne off) off n tgt) (kt : ¬ x = 0 → tz_V p l e R s m args below meth c Q A D nL f sz cells slots tgt lv rest) (kf : x = 0 → tz_V p l e R s m args below meth c Q A D nL f sz cells slots n lv rest) : tz_V p l e R s m args below meth c Q A D nL f sz cells slots pc lv (.int x :: rest) := by
  obtain ⟨hd, rfl, ht⟩ := hd
  exact fun H locs ls hz hP hS hl => lv_if_ne C.1 C.2.1 hd ht (fun h => kt h H locs ls hz hP hS hl) (fun h => kf h H locs ls hz hP hS hl)
theorem tz_if_lt (C : tz_Cx p s m args c A D cs own cc nL) {x : Int32} {off : Int} (hd : tz_dj cc pc (.ifCond .lt off) off n tgt) (kt : x < 0 → tz_V p l e R s m args below meth c Q A D nL f sz cells slots tgt lv rest) (kf : ¬ x < 0 → tz_V p l e R s m args below meth c Q A D nL f sz cells slots n lv rest) : tz_V p l e R s m args below meth c Q A D nL f sz cells slots pc lv (.int x :: rest) := by
  obtain ⟨hd, rfl, ht⟩ := hd
  exact fun H locs ls hz hP hS hl => lv_if_lt C.1 C.2.1 hd ht (fun h => kt h H locs ls hz hP hS hl) (fun h => kf h H locs ls hz hP hS hl)
theorem tz_if_ge (C : tz_Cx p s m args c A D cs own cc nL) {x : Int32} {off : Int} (hd : tz_dj cc pc (.ifCond .ge off) off n tgt) (kt : 0 ≤ x → tz_V p l e R s m args below meth c Q A D nL f sz cells slots tgt lv rest) (kf : ¬ 0 ≤ x → tz_V p l e R s m args below meth c Q A D nL f sz cells slots n lv rest) : tz_V p l e R s m args below meth c Q A D nL f sz cells slots pc lv (.int x :: rest) := by
  obtain ⟨hd, rfl, ht⟩ := hd
  exact fun H locs ls hz hP hS hl => lv_if_ge C.1 C.2.1 hd ht (fun h => kt h H locs ls hz hP hS hl) (fun h => kf h H locs ls hz hP hS hl)
theorem tz_if_gt (C : tz_Cx p s m args c A D cs own cc nL) {x : Int32} {off : Int} (hd : tz_dj cc pc (.ifCond .gt off) off n tgt) (kt : 0 < x → tz_V p l e R s m args below meth c Q A D nL f sz cells slots tgt lv rest) (kf : ¬ 0 < x → tz_V p l e R s m args below meth c Q A D nL f sz cells slots n lv rest) : tz_V p l e R s m args below meth c Q A D nL f sz cells slots pc lv (.int x :: rest) := by
  obtain ⟨hd, rfl, ht⟩ := hd
  exact fun H locs ls hz hP hS hl => lv_if_gt C.1 C.2.1 hd ht (fun h => kt h H locs ls hz hP hS hl) (fun h => kf h H locs ls hz hP hS hl)
theorem tz_if_le (C : tz_Cx p s m args c A D cs own cc nL) {x : Int32} {off : Int} (hd : tz_dj cc pc (.ifCond .le off) off n tgt) (kt : x ≤ 0 → tz_V p l e R s m args below meth c Q A D nL f sz cells slots tgt lv rest) (kf : ¬ x ≤ 0 → tz_V p l e R s m args below meth c Q A D nL f sz cells slots n lv rest) : tz_V p l e R s m args below meth c Q A D nL f sz cells slots pc lv (.int x :: rest) := by
  obtain ⟨hd, rfl, ht⟩ := hd
  exact fun H locs ls hz hP hS hl => lv_if_le C.1 C.2.1 hd ht (fun h => kt h H locs ls hz hP hS hl) (fun h => kf h H locs ls hz hP hS hl)
theorem tz_icmp_eq (C : tz_Cx p s m args c A D cs own cc nL) {x y : Int32} {off : Int} (hd : tz_dj cc pc (.if_icmp .eq off) off n tgt) (kt : x = y → tz_V p l e R s m args below meth c Q A D nL f sz cells slots tgt lv rest) (kf : ¬ x = y → tz_V p l e R s m args below meth c Q A D nL f sz cells slots n lv rest) : tz_V p l e R s m args below meth c Q A D nL f sz cells slots pc lv (.int y :: .int x :: rest) := by
  obtain ⟨hd, rfl, ht⟩ := hd
  exact fun H locs ls hz hP hS hl => lv_icmp_eq C.1 C.2.1 hd ht (fun h => kt h H locs ls hz hP hS hl) (fun h => kf h H locs ls hz hP hS hl)
theorem tz_icmp_ne (C : tz_Cx p s m args c A D cs own cc nL) {x y : Int32} {off : Int} (hd : tz_dj cc pc (.if_icmp .ne off) off n tgt) (kt : ¬ x = y → tz_V p l e R s m args below meth c Q A D nL f sz cells slots tgt lv rest) (kf : x = y → tz_V p l e R s m args below meth c Q A D nL f sz cells slots n lv rest) : tz_V p l e R s m args below meth c Q A D nL f sz cells slots pc lv (.int y :: .int x :: rest) := by
  obtain ⟨hd, rfl, ht⟩ := hd
  exact fun H locs ls hz hP hS hl => lv_icmp_ne C.1 C.2.1 hd ht (fun h => kt h H locs ls hz hP hS hl) (fun h => kf h H locs ls hz hP hS hl)
theorem tz_icmp_lt (C : tz_Cx p s m args c A D cs own cc nL) {x y : Int32} {off : Int} (hd : tz_dj cc pc (.if_icmp .lt off) off n tgt) (kt : x < y → tz_V p l e R s m args below meth c Q A D nL f sz cells slots tgt lv rest) (kf : ¬ x < y → tz_V p l e R s m args below meth c Q A D nL f sz cells slots n lv rest) : tz_V p l e R s m args below meth c Q A D nL f sz cells slots pc lv (.int y :: .int x :: rest) := by
  obtain ⟨hd, rfl, ht⟩ := hd
  exact fun H locs ls hz hP hS hl => lv_icmp_lt C.1 C.2.1 hd ht (fun h => kt h H locs ls hz hP hS hl) (fun h => kf h H locs ls hz hP hS hl)
theorem tz_icmp_ge (C : tz_Cx p s m args c A D cs own cc nL) {x y : Int32} {off : Int} (hd : tz_dj cc pc (.if_icmp .ge off) off n tgt) (kt : y ≤ x → tz_V p l e R s m args below meth c Q A D nL f sz cells slots tgt lv rest) (kf : ¬ y ≤ x → tz_V p l e R s m args below meth c Q A D nL f sz cells slots n lv rest) : tz_V p l e R s m args below meth c Q A D nL f sz cells slots pc lv (.int y :: .int x :: rest) := by
  obtain ⟨hd, rfl, ht⟩ := hd
  exact fun H locs ls hz hP hS hl => lv_icmp_ge C.1 C.2.1 hd ht (fun h => kt h H locs ls hz hP hS hl) (fun h => kf h H locs ls hz hP hS hl)
theorem tz_icmp_gt (C : tz_Cx p s m args c A D cs own cc nL) {x y : Int32} {off : Int} (hd : tz_dj cc pc (.if_icmp .gt off) off n tgt) (kt : y < x → tz_V p l e R s m args below meth c Q A D nL f sz cells slots tgt lv rest) (kf : ¬ y < x → tz_V p l e R s m args below meth c Q A D nL f sz cells slots n lv rest) : tz_V p l e R s m args below meth c Q A D nL f sz cells slots pc lv (.int y :: .int x :: rest) := by
  obtain ⟨hd, rfl, ht⟩ := hd
  exact fun H locs ls hz hP hS hl => lv_icmp_gt C.1 C.2.1 hd ht (fun h => kt h H locs ls hz hP hS hl) (fun h => kf h H locs ls hz hP hS hl)
theorem tz_icmp_le (C : tz_Cx p s m args c A D cs own cc nL) {x y : Int32} {off : Int} (hd : tz_dj cc pc (.if_icmp .le off) off n tgt) (kt : x ≤ y → tz_V p l e R s m args below meth c Q A D nL f sz cells slots tgt lv rest) (kf : ¬ x ≤ y → tz_V p l e R s m args below meth c Q A D nL f sz cells slots n lv rest) : tz_V p l e R s m args below meth c Q A D nL f sz cells slots pc lv (.int y :: .int x :: rest) := by
  obtain ⟨hd, rfl, ht⟩ := hd
  exact fun H locs ls hz hP hS hl => lv_icmp_le C.1 C.2.1 hd ht (fun h => kt h H locs ls hz hP hS hl) (fun h => kf h H locs ls hz hP hS hl)
theorem tz_goto (C : tz_Cx p s m args c A D cs own cc nL) {off : Int} (hd : tz_dj cc pc (.goto off) off n tgt) (kk : tz_V p l e R s m args below meth c Q A D nL f sz cells slots tgt lv rest) : tz_V p l e R s m args below meth c Q A D nL f sz cells slots pc lv rest := by
  obtain ⟨hd, rfl, ht⟩ := hd
  exact fun H locs ls hz hP hS hl => lv_goto C.1 C.2.1 hd ht (kk H locs ls hz hP hS hl)
theorem tz_ifnull (C : tz_Cx p s m args c A D cs own cc nL) {off : Int} {r : Option Nat} (hd : tz_dj cc pc (.ifnull off) off n tgt) (kt : r = none → tz_V p l e R s m args below meth c Q A D nL f sz cells slots tgt lv rest) (kf : ∀ q : Nat, r = some q → tz_V p l e R s m args below meth c Q A D nL f sz cells slots n lv rest) : tz_V p l e R s m args below meth c Q A D nL f sz cells slots pc lv (va_rf r :: rest) := by
  obtain ⟨hd, rfl, ht⟩ := hd
  cases r with
  | none => exact fun H locs ls hz hP hS hl => lv_ifnullN C.1 C.2.1 hd ht (kt rfl H locs ls hz hP hS hl)
  | some q => exact fun H locs ls hz hP hS hl => lv_ifnull C.1 C.2.1 hd (kf q rfl H locs ls hz hP hS hl)
theorem tz_ifnonnull (C : tz_Cx p s m args c A D cs own cc nL) {off : Int} {r : Option Nat} (hd : tz_dj cc pc (.ifnonnull off) off n tgt) (kt : ∀ q : Nat, r = some q → tz_V p l e R s m args below meth c Q A D nL f sz cells slots tgt lv rest) (kf : r = none → tz_V p l e R s m args below meth c Q A D nL f sz cells slots n lv rest) : tz_V p l e R s m args below meth c Q A D nL f sz cells slots pc lv (va_rf r :: rest) := by
  obtain ⟨hd, rfl, ht⟩ := hd
  cases r with
  | none => exact fun H locs ls hz hP hS hl => lv_ifnonnullN C.1 C.2.1 hd (kf rfl H locs ls hz hP hS hl)
  | some q => exact fun H locs ls hz hP hS hl => lv_ifnonnull C.1 C.2.1 hd ht (kt q rfl H locs ls hz hP hS hl)
theorem tz_tableOut (C : tz_Cx p s m args c A D cs own cc nL) {dflt lo hi : Int} {offs : Array Int} {len : Nat} {x : Int32} (hd : decode cc pc = .ok (.tableswitch dflt lo hi offs, len)) (ht : (pc : Int) + dflt = (tgt : Int)) (h : x.toInt < lo ∨ hi < x.toInt) (kk : tz_V p l e R s m args below meth c Q A D nL f sz cells slots tgt lv rest) : tz_V p l e R s m args below meth c Q A D nL f sz cells slots pc lv (.int x :: rest) := fun H locs ls hz hP hS hl => lv_tableOut C.1 C.2.1 hd h ht (kk H locs ls hz hP hS hl)
theorem tz_tableIn (C : tz_Cx p s m args c A D cs own cc nL) {dflt lo hi : Int} {offs : Array Int} {len : Nat} {x : Int32} {off : Int} (hd : decode cc pc = .ok (.tableswitch dflt lo hi offs, len)) (h1 : ¬ x.toInt < lo ∧ ¬ hi < x.toInt ∧ offs[(x.toInt - lo).toNat]? = some off) (ht : (pc : Int) + off = (tgt : Int)) (kk : tz_V p l e R s m args below meth c Q A D nL f sz cells slots tgt lv rest) : tz_V p l e R s m args below meth c Q A D nL f sz cells slots pc lv (.int x :: rest) := fun H locs ls hz hP hS hl => lv_tableIn C.1 C.2.1 hd h1.1 h1.2.1 h1.2.2 ht (kk H locs ls hz hP hS hl)
end TZR
