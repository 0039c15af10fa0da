/-! ===== contracts with a known answer, and the rows of their calls ===== -/
def tz_res (r : Option Value) (F : tz_PH → Prop) : Option Value → tz_PH → Prop := fun rv f' => rv = r ∧ F f'
abbrev tz_CR (l : Launch) (y : MethodName) (b : ByteArray) (nL : Nat) (ret : Option FieldType) (rm : Room) (A : Nat → Prop) (D : va_G) (cs : Nat → ClassId) (sz : Nat) (av : List Value) (f : tz_PH) (r : Option Value) : Prop := tz_C l y b nL ret rm 0 0 A D cs sz av f (tz_res r (fun f' => f' = f))
abbrev tz_CW (l : Launch) (y : MethodName) (b : ByteArray) (nL : Nat) (ret : Option FieldType) (rm : Room) (A : Nat → Prop) (D : va_G) (cs : Nat → ClassId) (sz : Nat) (av : List Value) (f : tz_PH) (r : Option Value) (F : tz_PH → Prop) : Prop := tz_C l y b nL ret rm 0 0 A D cs sz av f (tz_res r F)
abbrev tz_CN (l : Launch) (y : MethodName) (b : ByteArray) (nL : Nat) (ret : Option FieldType) (rm : Room) (mc ms : Nat) (A : Nat → Prop) (D : va_G) (cs : Nat → ClassId) (sz : Nat) (av : List Value) (f : tz_PH) (r : Option Value) (F : tz_PH → Prop) : Prop := tz_C l y b nL ret rm mc ms A D cs sz av f (tz_res r F)
def tz_p (P : Prop) [Decidable P] : Int32 := if P then 1 else 0
theorem tz_p0 {P : Prop} [Decidable P] : tz_p P = 0 ↔ ¬ P := by unfold tz_p; split <;> simp_all
theorem tz_p1 {P : Prop} [Decidable P] : ¬ tz_p P = 0 ↔ P := by unfold tz_p; split <;> simp_all
theorem tz_pt {P : Prop} [Decidable P] (h : P) : tz_p P = 1 := by simp [tz_p, h]
theorem tz_pf {P : Prop} [Decidable P] (h : ¬ P) : tz_p P = 0 := by simp [tz_p, h]
theorem tz_p01 {P : Prop} [Decidable P] : tz_p P = 0 ∨ tz_p P = 1 := by unfold tz_p; split <;> simp
section TZC
variable {p : Program} {l : Launch} {e : Env} {R : Room} {s : State} {m : MethodId} {args : Array Value} {below : List Frame} {meth : Method} {c : Code} {Q : State → Prop} {A : Nat → Prop} {D : va_G} {cs : Nat → ClassId} {own : String} {cc : ByteArray} {nL : Nat} {f : tz_PH} {sz cells slots pc n : Nat} {lv : List (Nat × Value)} {rest st0 st1 As : List Value} {y : MethodName} {b : ByteArray} {maxL np idx mc ms : Nat} {ret : Option FieldType} {rm : Room} {a : Nat} {r : Option Value} {F : tz_PH → Prop}
theorem tz_C.ofB {av : List Value} {P : Option Value → tz_PH → Prop} {lv0 : List (Nat × Value)} (hy : plainFor y = true) (hlen : (lg_sl av).length ≤ nL) (hlv : lv_args 0 av = lv0)
    (body : ∀ (p : Program) (e : Env) (s : State) (m : MethodId) (args : Array Value) (below : List Frame) (meth : Method) (c : Code) (Q : State → Prop), tz_Cx p s m args c A D cs y.cls cc nL → meth.sig.returnType = ret → meth.locks = false → meth.name = y.name → s.heap.size = sz → Q = MQ below (tz_Q D A sz mc P) args s mc ms A →
      tz_V p l e rm s m args below meth c Q A D nL f sz 0 0 0 lv0 []) : tz_C l y cc nL ret rm mc ms A D cs sz av f P :=
  tz_C.ofV hy hlen hlv (fun p e s m below meth c C h1 h2 h3 h4 => body p e s m _ below meth c _ C h1 h2 h3 h4 rfl)
abbrev tz_rmok (rm R : Room) (maxL cells slots mc ms : Nat) : Prop := rm.cells = mc ∧ rm.slots = ms ∧ cells + mc ≤ R.cells ∧ slots + ms ≤ R.slots ∧ rm.frames + 1 ≤ R.frames ∧ 8 + (maxL + 11) + rm.locals ≤ R.locals
theorem tz_cV (C : tz_Cx p s m args c A D cs own cc nL) (hI : tz_MI y b maxL ret np) (hin : Cond.instanceMethod y ∈ tz_TT) (hse : Cond.selects y.cls y y ∈ tz_TT) (hl : Cond.methodLink own idx y ∈ tz_TT) {ci : Nat} {T : u_T} {N : Nat} {fs : List Value} (hf : f a = some (.inr (ci, fs))) (hc : classes[ci]? = some (y.cls, T, N)) (hM : tz_CW l y b maxL ret rm A D cs sz (.ref a :: As) f r F) (hn : As.length = np) (hst : st0 = As.reverse ++ .ref a :: rest) (hrm : tz_rmok rm R maxL cells slots 0 0) (hw : (rest.map fun v => v.category).sum ≤ 8) (hd : tz_dk cc pc (.invokevirtual idx) 3 n) (h1 : r.toList ++ rest = st1)
    (kk : ∀ f' : tz_PH, F f' → tz_V p l e R s m args below meth c Q A D nL f' sz cells slots n lv st1) : tz_V p l e R s m args below meth c Q A D nL f sz cells slots pc lv st0 :=
  tz_callVA C hI hin hse hl hf hc hM hn hst hrm hw hd ⟨rfl, rfl, rfl⟩ (fun rv f' hp => by obtain ⟨rfl, hF⟩ := hp; rw [h1]; exact kk f' hF)
theorem tz_cS (C : tz_Cx p s m args c A D cs own cc nL) (hI : tz_MI y b maxL ret np) (hin : Cond.static y ∈ tz_TT) (hl : Cond.methodLink own idx y ∈ tz_TT) (hM : tz_CW l y b maxL ret rm A D cs sz As f r F) (hn : As.length = np) (hst : st0 = As.reverse ++ rest) (hrm : tz_rmok rm R maxL cells slots 0 0) (hw : (rest.map fun v => v.category).sum ≤ 8) (hd : tz_dk cc pc (.invokestatic idx) 3 n) (h1 : r.toList ++ rest = st1)
    (kk : ∀ f' : tz_PH, F f' → tz_V p l e R s m args below meth c Q A D nL f' sz cells slots n lv st1) : tz_V p l e R s m args below meth c Q A D nL f sz cells slots pc lv st0 :=
  tz_callSA C hI hin hl hM hn hst hrm hw hd ⟨rfl, rfl, rfl⟩ (fun rv f' hp => by obtain ⟨rfl, hF⟩ := hp; rw [h1]; exact kk f' hF)
theorem tz_cSN (C : tz_Cx p s m args c A D cs own cc nL) (hI : tz_MI y b maxL ret np) (hin : Cond.static y ∈ tz_TT) {host : String} (hl : Cond.methodLinkNest own idx y host ∈ lw_tbl) (hM : tz_CW l y b maxL ret rm A D cs sz As f r F) (hn : As.length = np) (hst : st0 = As.reverse ++ rest) (hrm : tz_rmok rm R maxL cells slots 0 0) (hw : (rest.map fun v => v.category).sum ≤ 8) (hd : tz_dk cc pc (.invokestatic idx) 3 n) (h1 : r.toList ++ rest = st1)
    (kk : ∀ f' : tz_PH, F f' → tz_V p l e R s m args below meth c Q A D nL f' sz cells slots n lv st1) : tz_V p l e R s m args below meth c Q A D nL f sz cells slots pc lv st0 :=
  tz_callSNA C hI hin hl hM hn hst hrm hw hd ⟨rfl, rfl, rfl⟩ (fun rv f' hp => by obtain ⟨rfl, hF⟩ := hp; rw [h1]; exact kk f' hF)
theorem tz_cI (C : tz_Cx p s m args c A D cs own cc nL) (hI : tz_MI y b maxL none np) (hy1 : y.name = "<init>") (hin : Cond.instanceMethod y ∈ tz_TT) (hl : Cond.methodLink own idx y ∈ tz_TT) (hM : tz_CN l y b maxL none rm mc ms A D cs sz (.ref a :: As) f none F) (hn : As.length = np) (hst : st0 = As.reverse ++ .ref a :: rest) (hrm : tz_rmok rm R maxL cells slots mc ms) (hw : (rest.map fun v => v.category).sum ≤ 8) (hd : tz_dk cc pc (.invokespecial idx) 3 n) {sz' cells' slots' : Nat} (he : sz + mc = sz' ∧ cells + mc = cells' ∧ slots + ms = slots')
    (kk : ∀ f' : tz_PH, F f' → tz_V p l e R s m args below meth c Q A D nL f' sz' cells' slots' n lv rest) : tz_V p l e R s m args below meth c Q A D nL f sz cells slots pc lv st0 :=
  tz_callIA C hI hy1 hin hl hM hn hst hrm hw hd he (fun rv f' hp => by obtain ⟨rfl, hF⟩ := hp; exact kk f' hF)
theorem tz_cIN (C : tz_Cx p s m args c A D cs own cc nL) (hI : tz_MI y b maxL none np) (hy1 : y.name = "<init>") (hin : Cond.instanceMethod y ∈ tz_TT) {host : String} (hl : Cond.methodLinkNest own idx y host ∈ lw_tbl) (hM : tz_CN l y b maxL none rm mc ms A D cs sz (.ref a :: As) f none F) (hn : As.length = np) (hst : st0 = As.reverse ++ .ref a :: rest) (hrm : tz_rmok rm R maxL cells slots mc ms) (hw : (rest.map fun v => v.category).sum ≤ 8) (hd : tz_dk cc pc (.invokespecial idx) 3 n) {sz' cells' slots' : Nat} (he : sz + mc = sz' ∧ cells + mc = cells' ∧ slots + ms = slots')
    (kk : ∀ f' : tz_PH, F f' → tz_V p l e R s m args below meth c Q A D nL f' sz' cells' slots' n lv rest) : tz_V p l e R s m args below meth c Q A D nL f sz cells slots pc lv st0 :=
  tz_callINA C hI hy1 hin hl hM hn hst hrm hw hd he (fun rv f' hp => by obtain ⟨rfl, hF⟩ := hp; exact kk f' hF)
theorem tz_rV (C : tz_Cx p s m args c A D cs own cc nL) (hI : tz_MI y b maxL ret np) (hin : Cond.instanceMethod y ∈ tz_TT) (hse : Cond.selects y.cls y y ∈ tz_TT) (hl : Cond.methodLink own idx y ∈ tz_TT) {ci : Nat} {T : u_T} {N : Nat} {fs : List Value} (hf : f a = some (.inr (ci, fs))) (hc : classes[ci]? = some (y.cls, T, N)) (hM : tz_CW l y b maxL ret rm A D cs sz (.ref a :: As) f r (fun f' => f' = f)) (hn : As.length = np) (hst : st0 = As.reverse ++ .ref a :: rest) (hrm : tz_rmok rm R maxL cells slots 0 0) (hw : (rest.map fun v => v.category).sum ≤ 8) (hd : tz_dk cc pc (.invokevirtual idx) 3 n) (h1 : r.toList ++ rest = st1)
    (kk : tz_V p l e R s m args below meth c Q A D nL f sz cells slots n lv st1) : tz_V p l e R s m args below meth c Q A D nL f sz cells slots pc lv st0 :=
  tz_cV C hI hin hse hl hf hc hM hn hst hrm hw hd h1 (fun _ hF => hF ▸ kk)
theorem tz_rS (C : tz_Cx p s m args c A D cs own cc nL) (hI : tz_MI y b maxL ret np) (hin : Cond.static y ∈ tz_TT) (hl : Cond.methodLink own idx y ∈ tz_TT) (hM : tz_CW l y b maxL ret rm A D cs sz As f r (fun f' => f' = f)) (hn : As.length = np) (hst : st0 = As.reverse ++ rest) (hrm : tz_rmok rm R maxL cells slots 0 0) (hw : (rest.map fun v => v.category).sum ≤ 8) (hd : tz_dk cc pc (.invokestatic idx) 3 n) (h1 : r.toList ++ rest = st1)
    (kk : tz_V p l e R s m args below meth c Q A D nL f sz cells slots n lv st1) : tz_V p l e R s m args below meth c Q A D nL f sz cells slots pc lv st0 :=
  tz_cS C hI hin hl hM hn hst hrm hw hd h1 (fun _ hF => hF ▸ kk)
theorem tz_rSN (C : tz_Cx p s m args c A D cs own cc nL) (hI : tz_MI y b maxL ret np) (hin : Cond.static y ∈ tz_TT) {host : String} (hl : Cond.methodLinkNest own idx y host ∈ lw_tbl) (hM : tz_CW l y b maxL ret rm A D cs sz As f r (fun f' => f' = f)) (hn : As.length = np) (hst : st0 = As.reverse ++ rest) (hrm : tz_rmok rm R maxL cells slots 0 0) (hw : (rest.map fun v => v.category).sum ≤ 8) (hd : tz_dk cc pc (.invokestatic idx) 3 n) (h1 : r.toList ++ rest = st1)
    (kk : tz_V p l e R s m args below meth c Q A D nL f sz cells slots n lv st1) : tz_V p l e R s m args below meth c Q A D nL f sz cells slots pc lv st0 :=
  tz_cSN C hI hin hl hM hn hst hrm hw hd h1 (fun _ hF => hF ▸ kk)
/-! writes: the new heap by what it holds -/
variable {Cn : String} {T : u_T} {N ci : Nat} {ty : Nat → FieldType} {fs : List Value} {v : Value} {nA : Nat} {g : Nat → Int32} {o : Nat → Option Nat} {i x : Int32}
theorem tz_wput (C : tz_Cx p s m args c A D cs own cc nL) (hI : tz_CI ci Cn T N ty) (k : Nat) (hk : k < N) (hl : Cond.fieldLink own idx (T k).1 (T k).2.1 (T k).2.2.1 ∈ tz_TT) (hfin : (T k).2.2.2 = false) (hf : f a = some (.inr (ci, fs))) (hlen : k < fs.length) (hnf : narrow (ty k) v = v ∧ fits (ty k) v = true) {fs' : List Value} (hfs : fs.set k v = fs') (hd : tz_dk cc pc (.putfield idx) 3 n) (kk : ∀ f' : tz_PH, f' a = some (.inr (ci, fs')) → (∀ q, q ≠ a → f' q = f q) → tz_V p l e R s m args below meth c Q A D nL f' sz cells slots n lv rest) : tz_V p l e R s m args below meth c Q A D nL f sz cells slots pc lv (v :: .ref a :: rest) :=
  tz_put C hI k hk hl hfin hf hlen hnf hfs hd (kk _ (tz_set_s _ _ _) (fun q hq => tz_set_n hq))
theorem tz_wputF (C : tz_Cx p s m args c A D cs own cc nL) (hin2 : meth.name = "<init>") (hI : tz_CI ci Cn T N ty) (k : Nat) (hk : k < N) (hl : Cond.fieldLink own idx (T k).1 (T k).2.1 (T k).2.2.1 ∈ tz_TT) (hfin : (T k).2.2.2 = true ∧ (T k).1 = own) (hf : f a = some (.inr (ci, fs))) (hlen : k < fs.length) (hnf : narrow (ty k) v = v ∧ fits (ty k) v = true) {fs' : List Value} (hfs : fs.set k v = fs') (hd : tz_dk cc pc (.putfield idx) 3 n) (kk : ∀ f' : tz_PH, f' a = some (.inr (ci, fs')) → (∀ q, q ≠ a → f' q = f q) → tz_V p l e R s m args below meth c Q A D nL f' sz cells slots n lv rest) : tz_V p l e R s m args below meth c Q A D nL f sz cells slots pc lv (v :: .ref a :: rest) :=
  tz_putF C hin2 hI k hk hl hfin hf hlen hnf hfs hd (kk _ (tz_set_s _ _ _) (fun q hq => tz_set_n hq))
theorem tz_wiast (C : tz_Cx p s m args c A D cs own cc nL) (hf : f a = some (tz_ints cs nA g)) (hin : vp_in i nA) {g' : Nat → Int32} (hg : upd g i.toNatClampNeg x = g') (hd : tz_dk cc pc .iastore 1 n) (kk : ∀ f' : tz_PH, f' a = some (tz_ints cs nA g') → (∀ q, q ≠ a → f' q = f q) → tz_V p l e R s m args below meth c Q A D nL f' sz cells slots n lv rest) : tz_V p l e R s m args below meth c Q A D nL f sz cells slots pc lv (.int x :: .int i :: .ref a :: rest) := by
  subst hg
  exact tz_iast C hf hin hd (kk _ (tz_set_s _ _ _) (fun q hq => tz_set_n hq))
theorem tz_waast (C : tz_Cx p s m args c A D cs own cc nL) {t : Nat} {cn : String} (ht : (tz_tys cs)[t]? = some (cs t, .object cn)) (hf : f a = some (tz_refs cs t nA o)) {b : Nat} (hfb : f b = some (.inr (ci, fs))) (hc : classes[ci]? = some (cn, T, N)) (hin : vp_in i nA) (hd : tz_dk cc pc .aastore 1 n) (kk : ∀ f' : tz_PH, f' a = some (tz_refs cs t nA (va_up o i.toNatClampNeg (some b))) → (∀ q, q ≠ a → f' q = f q) → tz_V p l e R s m args below meth c Q A D nL f' sz cells slots n lv rest) : tz_V p l e R s m args below meth c Q A D nL f sz cells slots pc lv (.ref b :: .int i :: .ref a :: rest) :=
  tz_aast C ht hf hfb hc hin hd (kk _ (tz_set_s _ _ _) (fun q hq => tz_set_n hq))
theorem tz_waastQ (C : tz_Cx p s m args c A D cs own cc nL) {t : Nat} {cn : String} (ht : (tz_tys cs)[t]? = some (cs t, .object cn)) (hf : f a = some (tz_refs cs t nA o)) {rb : Option Nat} (hfb : ∀ b, rb = some b → ∃ fs, f b = some (.inr (ci, fs))) (hc : classes[ci]? = some (cn, T, N)) (hin : vp_in i nA) (hd : tz_dk cc pc .aastore 1 n) (kk : ∀ f' : tz_PH, f' a = some (tz_refs cs t nA (va_up o i.toNatClampNeg rb)) → (∀ q, q ≠ a → f' q = f q) → tz_V p l e R s m args below meth c Q A D nL f' sz cells slots n lv rest) : tz_V p l e R s m args below meth c Q A D nL f sz cells slots pc lv (va_rf rb :: .int i :: .ref a :: rest) := by
  cases rb with
  | none => exact tz_aastN C ht hf hin hd (kk _ (tz_set_s _ _ _) (fun q hq => tz_set_n hq))
  | some b0 =>
    obtain ⟨fs0, h0⟩ := hfb b0 rfl
    exact tz_aast C ht hf h0 hc hin hd (kk _ (tz_set_s _ _ _) (fun q hq => tz_set_n hq))
theorem tz_wacopy (C : tz_Cx p s m args c A D cs own cc nL) (hl : Cond.methodLink own idx arraycopyName ∈ tz_TT) (hnat : Cond.native arraycopyName ∈ tz_TT) (hstat : Cond.static arraycopyName ∈ tz_TT) (hini : Cond.initialized "java/lang/System" ∈ tz_TT) {a0 n0 n1 : Nat} {g0 g1 : Nat → Int32} (hf0 : f a0 = some (tz_ints cs n0 g0)) (hf1 : f a = some (tz_ints cs n1 g1)) {sp dp k : Int32} (h1 : ¬ sp < 0) (h2 : ¬ dp < 0) (h3 : ¬ k < 0) (h4 : sp.toNatClampNeg + k.toNatClampNeg ≤ n0) (h5 : dp.toNatClampNeg + k.toNatClampNeg ≤ n1) (hR : 1 ≤ R.frames ∧ (rest.map fun v => v.category).sum + (nativeFrameWords "java/lang/System" "arraycopy" 5 + 11) ≤ R.locals) (hd : tz_dk cc pc (.invokestatic idx) 3 n)
    (kk : ∀ f' : tz_PH, f' a = some (tz_ints cs n1 (va_cpy g0 g1 sp.toNatClampNeg dp.toNatClampNeg k.toNatClampNeg)) → (∀ q, q ≠ a → f' q = f q) → tz_V p l e R s m args below meth c Q A D nL f' sz cells slots n lv rest) : tz_V p l e R s m args below meth c Q A D nL f sz cells slots pc lv (.int k :: .int dp :: .ref a :: .int sp :: .ref a0 :: rest) :=
  tz_acopy C hl hnat hstat hini hf0 hf1 h1 h2 h3 h4 h5 hR hd (kk _ (tz_set_s _ _ _) (fun q hq => tz_set_n hq))
theorem tz_wnew (C : tz_Cx p s m args c A D cs own cc nL) (hI : tz_CI ci Cn T N ty) (hcl : Cond.classLink own idx Cn ∈ tz_TT) (hins : Cond.instantiable Cn N ∈ tz_TT) (hini : Cond.initialized Cn ∈ tz_TT) (hA : A sz) (hfs : ∀ j, j < N → defaultValue (ty j) = vp_V fs j) (hR : cells + 1 ≤ R.cells ∧ slots + N ≤ R.slots) (hd : tz_dk cc pc (.new idx) 3 n) {sz' cells' slots' : Nat} (he : sz + 1 = sz' ∧ cells + 1 = cells' ∧ slots + N = slots') (kk : ∀ f' : tz_PH, f' sz = some (.inr (ci, fs)) → (∀ q, q ≠ sz → f' q = f q) → tz_V p l e R s m args below meth c Q A D nL f' sz' cells' slots' n lv (.ref sz :: rest)) : tz_V p l e R s m args below meth c Q A D nL f sz cells slots pc lv rest :=
  tz_new C hI hcl hins hini hA hfs hR hd he (kk _ (tz_set_s _ _ _) (fun q hq => tz_set_n hq))
theorem tz_wnewI (C : tz_Cx p s m args c A D cs own cc nL) (harr : Cond.arrayClass .int ∈ tz_TT) (hA : A sz) {k : Int32} (hk : ¬ k < 0 ∧ k.toNatClampNeg = nA ∧ nA * 4 ≤ 536870912) (hR : cells + 1 ≤ R.cells ∧ slots + nA ≤ R.slots) (hd : tz_dk cc pc (.newarray .int) 2 n) {sz' cells' slots' : Nat} (he : sz + 1 = sz' ∧ cells + 1 = cells' ∧ slots + nA = slots') (kk : ∀ f' : tz_PH, f' sz = some (tz_ints cs nA (fun _ => 0)) → (∀ q, q ≠ sz → f' q = f q) → tz_V p l e R s m args below meth c Q A D nL f' sz' cells' slots' n lv (.ref sz :: rest)) : tz_V p l e R s m args below meth c Q A D nL f sz cells slots pc lv (.int k :: rest) :=
  tz_newI C harr hA hk hR hd he (kk _ (tz_set_s _ _ _) (fun q hq => tz_set_n hq))
theorem tz_wnewR (C : tz_Cx p s m args c A D cs own cc nL) {t : Nat} {cn : String} (ht : (tz_tys cs)[t]? = some (cs t, .object cn)) (hcl : Cond.classLink own idx cn ∈ tz_TT) (hov : Cond.arrayOver (.object cn) ∈ lw_tbl) (hA : A sz) {k : Int32} (hk : ¬ k < 0 ∧ k.toNatClampNeg = nA ∧ nA * 4 ≤ 536870912) (hR : cells + 1 ≤ R.cells ∧ slots + nA ≤ R.slots) (hd : tz_dk cc pc (.anewarray idx) 3 n) {sz' cells' slots' : Nat} (he : sz + 1 = sz' ∧ cells + 1 = cells' ∧ slots + nA = slots') (kk : ∀ f' : tz_PH, f' sz = some (tz_refs cs t nA (fun _ => none)) → (∀ q, q ≠ sz → f' q = f q) → tz_V p l e R s m args below meth c Q A D nL f' sz' cells' slots' n lv (.ref sz :: rest)) : tz_V p l e R s m args below meth c Q A D nL f sz cells slots pc lv (.int k :: rest) :=
  tz_newR C ht hcl hov hA hk hR hd he (kk _ (tz_set_s _ _ _) (fun q hq => tz_set_n hq))
/-! returns, with the end named -/
variable {P : Option Value → tz_PH → Prop} {sz0 : Nat}
theorem tz_riret (C : tz_Cx p s m args c A D cs own cc nL) (hr : meth.sig.returnType = some .int) (hk : meth.locks = false) (hQ : Q = MQ below (tz_Q D A sz0 mc P) args s mc ms A) (hz : sz = sz0 + mc) (hd : tz_dk cc pc .ireturn 1 n) (hp : P (some (.int x)) f) : tz_V p l e R s m args below meth c Q A D nL f sz mc ms pc lv [.int x] := by subst hQ; exact tz_iret C hr hk hz hd hp
theorem tz_rzret (C : tz_Cx p s m args c A D cs own cc nL) (hr : meth.sig.returnType = some .boolean) (hk : meth.locks = false) (hQ : Q = MQ below (tz_Q D A sz0 mc P) args s mc ms A) (hx : x = 0 ∨ x = 1) (hz : sz = sz0 + mc) (hd : tz_dk cc pc .ireturn 1 n) (hp : P (some (.int x)) f) : tz_V p l e R s m args below meth c Q A D nL f sz mc ms pc lv [.int x] := by subst hQ; exact tz_zret C hr hk hx hz hd hp
theorem tz_rlret {x : Int64} (C : tz_Cx p s m args c A D cs own cc nL) (hr : meth.sig.returnType = some .long) (hk : meth.locks = false) (hQ : Q = MQ below (tz_Q D A sz0 mc P) args s mc ms A) (hz : sz = sz0 + mc) (hd : tz_dk cc pc .lreturn 1 n) (hp : P (some (.long x)) f) : tz_V p l e R s m args below meth c Q A D nL f sz mc ms pc lv [.long x] := by subst hQ; exact tz_lret C hr hk hz hd hp
theorem tz_rvret (C : tz_Cx p s m args c A D cs own cc nL) (hr : meth.sig.returnType = none) (hk : meth.locks = false) (hQ : Q = MQ below (tz_Q D A sz0 mc P) args s mc ms A) (hz : sz = sz0 + mc) (hd : tz_dk cc pc .return_ 1 n) (hp : P none f) : tz_V p l e R s m args below meth c Q A D nL f sz mc ms pc lv [] := by subst hQ; exact tz_vret C hr hk hz hd hp
theorem tz_raret {r : Option Nat} {cn : String} (C : tz_Cx p s m args c A D cs own cc nL) (hr : meth.sig.returnType = some (.object cn)) (hk : meth.locks = false) (hQ : Q = MQ below (tz_Q D A sz0 mc P) args s mc ms A) (hz : sz = sz0 + mc) (hd : tz_dk cc pc .areturn 1 n) (hp : P (some (va_rf r)) f) : tz_V p l e R s m args below meth c Q A D nL f sz mc ms pc lv [va_rf r] := by subst hQ; exact tz_aret C hr hk hz hd hp
end TZC
theorem tz_ri {x y : Int32} (h : x = y) : some (Value.int x) = some (Value.int y) := by rw [h]
theorem tz_rl {x y : Int64} (h : x = y) : some (Value.long x) = some (Value.long y) := by rw [h]
theorem tz_rq {x y : Option Nat} (h : x = y) : some (va_rf x) = some (va_rf y) := by rw [h]
section TZN
variable {p : Program} {l : Launch} {e : Env} {R : Room} {s : State} {m : MethodId} {args : Array Value} {below : List Frame} {meth : Method} {c : Code} {Q : State → Prop} {A : Nat → Prop} {D : va_G} {cs : Nat → ClassId} {own : String} {cc : ByteArray} {nL : Nat} {f : tz_PH} {sz cells slots pc n : Nat} {lv : List (Nat × Value)} {rest : List Value} {a k : Nat} {nA : Nat} {g : Nat → Int32} {o : Nat → Option Nat} {i x : Int32}
theorem tz_ialdN (C : tz_Cx p s m args c A D cs own cc nL) (hf : f a = some (tz_ints cs nA g)) (hk : k < nA) (hn : nA < 2 ^ 31) (hd : tz_dk cc pc .iaload 1 n) (kk : tz_V p l e R s m args below meth c Q A D nL f sz cells slots n lv (.int (g k) :: rest)) : tz_V p l e R s m args below meth c Q A D nL f sz cells slots pc lv (.int (nI k) :: .ref a :: rest) :=
  tz_iald C hf (vp_in_nI hk hn) hd (by rw [nI_clamp (by omega)]; exact kk)
theorem tz_wiastN (C : tz_Cx p s m args c A D cs own cc nL) (hf : f a = some (tz_ints cs nA g)) (hk : k < nA) (hn : nA < 2 ^ 31) {g' : Nat → Int32} (hg : upd g k x = g') (hd : tz_dk cc pc .iastore 1 n) (kk : ∀ f' : tz_PH, f' a = some (tz_ints cs nA g') → (∀ q, q ≠ a → f' q = f q) → tz_V p l e R s m args below meth c Q A D nL f' sz cells slots n lv rest) : tz_V p l e R s m args below meth c Q A D nL f sz cells slots pc lv (.int x :: .int (nI k) :: .ref a :: rest) :=
  tz_wiast C hf (vp_in_nI hk hn) (by rw [nI_clamp (by omega)]; exact hg) hd kk
theorem tz_aaldN (C : tz_Cx p s m args c A D cs own cc nL) {t : Nat} {cn : String} (ht : (tz_tys cs)[t]? = some (cs t, .object cn)) (hf : f a = some (tz_refs cs t nA o)) (hk : k < nA) (hn : nA < 2 ^ 31) (hd : tz_dk cc pc .aaload 1 n) (kk : tz_V p l e R s m args below meth c Q A D nL f sz cells slots n lv (va_rf (o k) :: rest)) : tz_V p l e R s m args below meth c Q A D nL f sz cells slots pc lv (.int (nI k) :: .ref a :: rest) :=
  tz_aald C ht hf (vp_in_nI hk hn) hd (by rw [nI_clamp (by omega)]; exact kk)
theorem tz_waastN (C : tz_Cx p s m args c A D cs own cc nL) {t : Nat} {cn : String} (ht : (tz_tys cs)[t]? = some (cs t, .object cn)) (hf : f a = some (tz_refs cs t nA o)) {b ci N : Nat} {fs : List Value} {T : u_T} (hfb : f b = some (.inr (ci, fs))) (hc : classes[ci]? = some (cn, T, N)) (hk : k < nA) (hn : nA < 2 ^ 31) (hd : tz_dk cc pc .aastore 1 n) (kk : ∀ f' : tz_PH, f' a = some (tz_refs cs t nA (va_up o k (some b))) → (∀ q, q ≠ a → f' q = f q) → tz_V p l e R s m args below meth c Q A D nL f' sz cells slots n lv rest) : tz_V p l e R s m args below meth c Q A D nL f sz cells slots pc lv (.ref b :: .int (nI k) :: .ref a :: rest) :=
  tz_waast C ht hf hfb hc (vp_in_nI hk hn) hd (fun f' h1 h2 => kk f' (by rw [h1, nI_clamp (by omega)]) h2)
theorem tz_waastQN (C : tz_Cx p s m args c A D cs own cc nL) {t : Nat} {cn : String} (ht : (tz_tys cs)[t]? = some (cs t, .object cn)) (hf : f a = some (tz_refs cs t nA o)) {rb : Option Nat} {ci N : Nat} {T : u_T} (hfb : ∀ b, rb = some b → ∃ fs, f b = some (.inr (ci, fs))) (hc : classes[ci]? = some (cn, T, N)) (hk : k < nA) (hn : nA < 2 ^ 31) (hd : tz_dk cc pc .aastore 1 n) (kk : ∀ f' : tz_PH, f' a = some (tz_refs cs t nA (va_up o k rb)) → (∀ q, q ≠ a → f' q = f q) → tz_V p l e R s m args below meth c Q A D nL f' sz cells slots n lv rest) : tz_V p l e R s m args below meth c Q A D nL f sz cells slots pc lv (va_rf rb :: .int (nI k) :: .ref a :: rest) :=
  tz_waastQ C ht hf hfb hc (vp_in_nI hk hn) hd (fun f' h1 h2 => kk f' (by rw [h1, nI_clamp (by omega)]) h2)
/-- another name of a cell's contents -/
theorem tz_same {e1 e2 : va_E} {st : List Value} (hf : f a = some e1) (he : ∀ H : Heap, va_at D classes (a, e1) H → va_at D classes (a, e2) H) (kk : ∀ f' : tz_PH, f' a = some e2 → (∀ q, q ≠ a → f' q = f q) → tz_V p l e R s m args below meth c Q A D nL f' sz cells slots pc lv st) : tz_V p l e R s m args below meth c Q A D nL f sz cells slots pc lv st := fun H locs ls hz hP hS hl => kk (tz_set f a e2) (tz_set_s _ _ _) (fun q hq => tz_set_n hq) H locs ls hz (fun q x hq => by
    by_cases h : q = a
    · subst h
      rw [tz_set_s] at hq
      cases hq
      exact ⟨he H (hP q e1 hf).1, (hP q e1 hf).2⟩
    · rw [tz_set_n h] at hq
      exact hP q x hq) hS hl
end TZN
theorem tz_dec {n : Nat} (h : 0 < n) : nI n + Int32.ofInt (-1) = nI (n - 1) := by
  obtain ⟨m, rfl⟩ : ∃ m, n = m + 1 := ⟨n - 1, by omega⟩
  exact pk_m1 m
theorem tz_arr_ext {D : va_G} {a n : Nat} {cA : ClassId} {g g' : Nat → Int32} (h : ∀ k, k < n → g k = g' k) (H : Heap) (h1 : va_at D classes (a, .inl (cA, n, .inl g)) H) : va_at D classes (a, .inl (cA, n, .inl g')) H := by
  have e : vp_cell cA (n, .inl g) = vp_cell cA (n, .inl g') := by
    rw [vp_cell_i, vp_cell_i]
    simp only [arrV]
    congr 1
    apply Array.ext_getElem?
    intro i
    simp only [Array.getElem?_ofFn]
    split
    · rename_i hi
      rw [h i hi]
    · rfl
  show H[a]? = some (vp_cell cA (n, .inl g'))
  rw [← e]; exact h1
theorem tz_ref_ext {D : va_G} {a n : Nat} {cA : ClassId} {g g' : Nat → Option Nat} (h : ∀ k, k < n → g k = g' k) (H : Heap) (h1 : va_at D classes (a, .inl (cA, n, .inr (.inr (.inr (.inr g))))) H) : va_at D classes (a, .inl (cA, n, .inr (.inr (.inr (.inr g'))))) H := by
  have e : vp_cell cA (n, .inr (.inr (.inr (.inr g)))) = vp_cell cA (n, .inr (.inr (.inr (.inr g')))) := by
    rw [vp_cell_q, vp_cell_q]
    simp only [arrV]
    congr 1
    apply Array.ext_getElem?
    intro i
    simp only [Array.getElem?_ofFn]
    split
    · rename_i hi
      rw [h i hi]
    · rfl
  show H[a]? = some (vp_cell cA (n, .inr (.inr (.inr (.inr g')))))
  rw [← e]; exact h1
theorem tz_inI {i : Int32} {n : Nat} (h0 : ¬ i < 0) (h1 : i < nI n) (hn : n < 2 ^ 31) : vp_in i n := by
  rw [vp_in_iff]
  have a1 := Int32.lt_iff_toInt_lt.mp h1
  rw [nI_toInt hn] at a1
  have a0 := Int32.le_iff_toInt_le.mp (Int32.not_lt.mp h0)
  have z : (0 : Int32).toInt = 0 := rfl
  rw [z] at a0
  exact ⟨a0, a1⟩

def tz_resR (F : Nat → tz_PH → Prop) : Option Value → tz_PH → Prop := fun rv f' => ∃ q : Nat, rv = some (.ref q) ∧ F q f'
section TZQ
variable {p : Program} {l : Launch} {e : Env} {R : Room} {s : State} {m : MethodId} {args : Array Value} {below : List Frame} {meth : Method} {c : Code} {Q : State → Prop} {A : Nat → Prop} {D : va_G} {cs : Nat → ClassId} {own : String} {cc : ByteArray} {nL : Nat} {f : tz_PH} {sz cells slots pc n : Nat} {lv : List (Nat × Value)} {rest st0 As : List Value} {y : MethodName} {b : ByteArray} {maxL np idx : Nat} {ret : Option FieldType} {rm : Room} {a : Nat} {F : Nat → tz_PH → Prop}
theorem tz_cVQ (C : tz_Cx p s m args c A D cs own cc nL) (hI : tz_MI y b maxL ret np) (hin : Cond.instanceMethod y ∈ tz_TT) (hse : Cond.selects y.cls y y ∈ tz_TT) (hl : Cond.methodLink own idx y ∈ tz_TT) {ci : Nat} {T : u_T} {N : Nat} {fs : List Value} (hf : f a = some (.inr (ci, fs))) (hc : classes[ci]? = some (y.cls, T, N)) (hM : tz_C l y b maxL ret rm 0 0 A D cs sz (.ref a :: As) f (tz_resR F)) (hn : As.length = np) (hst : st0 = As.reverse ++ .ref a :: rest) (hrm : tz_rmok rm R maxL cells slots 0 0) (hw : (rest.map fun v => v.category).sum ≤ 8) (hd : tz_dk cc pc (.invokevirtual idx) 3 n)
    (kk : ∀ (q : Nat) (f' : tz_PH), F q f' → tz_V p l e R s m args below meth c Q A D nL f' sz cells slots n lv (.ref q :: rest)) : tz_V p l e R s m args below meth c Q A D nL f sz cells slots pc lv st0 :=
  tz_callVA C hI hin hse hl hf hc hM hn hst hrm hw hd ⟨rfl, rfl, rfl⟩ (fun rv f' hp => by obtain ⟨q, rfl, hF⟩ := hp; exact kk q f' hF)
end TZQ
