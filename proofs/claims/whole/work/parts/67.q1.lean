
theorem tz_sld {p : Program} {l : Launch} {e : Env} {R : Room} {s : State} {m : MethodId} {args : Array Value} {below : List Frame} {meth : Method} {c : Code} {Q : State → Prop} {A : Nat → Prop} {D : va_G} {cs : Nat → ClassId} {own : String} {cc : ByteArray} {nL : Nat} {f : tz_PH} {sz cells slots pc n : Nat} {lv : List (Nat × Value)} {rest : List Value} (C : tz_Cx p s m args c A D cs own cc nL) {b L k : Nat} {xs : Nat → Int32} (hX : va_X b L xs s s.heap) (hbl : b < s.heap.size) (hbA : ¬ A b) (hk : k < L) (hL : L < 2 ^ 31) (hd : tz_dk cc pc .iaload 1 n) (kk : tz_V p l e R s m args below meth c Q A D nL f sz cells slots n lv (.int (xs k) :: rest)) : tz_V p l e R s m args below meth c Q A D nL f sz cells slots pc lv (.int (nI k) :: .ref b :: rest) := by
  intro H locs ls hz hP hS hl9
  obtain ⟨hx, hb, hml, hown, hts, hE⟩ := id C
  obtain ⟨hd, rfl⟩ := hd
  have e1 : (nI k).toNatClampNeg = k := nI_clamp (by omega)
  refine va_sld hx hb hX hbl hbA hS (tz_inI (nI_pos (by omega)) (nI_lt hk (by omega)) (by omega)) hd ?_
  rw [e1]
  exact kk H locs ls hz hP hS hl9
theorem tz_slen {p : Program} {l : Launch} {e : Env} {R : Room} {s : State} {m : MethodId} {args : Array Value} {below : List Frame} {meth : Method} {c : Code} {Q : State → Prop} {A : Nat → Prop} {D : va_G} {cs : Nat → ClassId} {own : String} {cc : ByteArray} {nL : Nat} {f : tz_PH} {sz cells slots pc n : Nat} {lv : List (Nat × Value)} {rest : List Value} (C : tz_Cx p s m args c A D cs own cc nL) {b L : Nat} {xs : Nat → Int32} (hX : va_X b L xs s s.heap) (hbl : b < s.heap.size) (hbA : ¬ A b) (hd : tz_dk cc pc .arraylength 1 n) (kk : tz_V p l e R s m args below meth c Q A D nL f sz cells slots n lv (.int (nI L) :: rest)) : tz_V p l e R s m args below meth c Q A D nL f sz cells slots pc lv (.ref b :: rest) := by
  intro H locs ls hz hP hS hl9
  obtain ⟨hx, hb, hml, hown, hts, hE⟩ := id C
  obtain ⟨hd, rfl⟩ := hd
  exact va_slen hx hb hX hbl hbA hS hd (kk H locs ls hz hP hS hl9)
theorem tz_cVa {p : Program} {l : Launch} {e : Env} {R : Room} {s : State} {m : MethodId} {args : Array Value} {below : List Frame} {meth : Method} {c : Code} {Q : State → Prop} {A : Nat → Prop} {D : va_G} {cs : Nat → ClassId} {own : String} {cc : ByteArray} {nL : Nat} {f : tz_PH} {sz cells slots pc n a np idx maxL mc ms : Nat} {lv : List (Nat × Value)} {rest As st0 st1 : List Value} {y : MethodName} {b : ByteArray} {ret : Option FieldType} {rm : Room} {r : Option Value} {F : tz_PH → Prop} (C : tz_Cx p s m args c A D cs own cc nL) (hI : tz_MI y b maxL ret np) (hin : Cond.instanceMethod y ∈ tz_TT) (hse : Cond.selects y.cls y y ∈ tz_TT) (hl : Cond.methodLink own idx y ∈ tz_TT) {ci : Nat} {T : u_T} {N : Nat} {fs : List Value} (hf : f a = some (.inr (ci, fs))) (hc : classes[ci]? = some (y.cls, T, N)) (hM : tz_CN l y b maxL ret rm mc ms A D cs sz (.ref a :: As) f r F) (hn : As.length = np) (hst : st0 = As.reverse ++ .ref a :: rest) (hrm : tz_rmok rm R maxL cells slots mc ms) (hw : (rest.map fun v => v.category).sum ≤ 8) (hd : tz_dk cc pc (.invokevirtual idx) 3 n) (h1 : r.toList ++ rest = st1)
    (kk : ∀ f' : tz_PH, F f' → tz_V p l e R s m args below meth c Q A D nL f' (sz + mc) (cells + mc) (slots + ms) n lv st1) : tz_V p l e R s m args below meth c Q A D nL f sz cells slots pc lv st0 :=
  tz_callVA C hI hin hse hl hf hc hM hn hst hrm hw hd ⟨rfl, rfl, rfl⟩ (fun rv f' hp => by obtain ⟨rfl, hF⟩ := hp; rw [h1]; exact kk f' hF)
theorem tz_AX.obj {cs : Nat → ClassId} {L0 B : Nat} {f : tz_PH} {σ : tz_SG} (h : tz_AX cs L0 f B σ) : ∃ fs, f B = some (.inr (10, fs)) := by
  obtain ⟨R, o, mp, ml, nx, St, Sb, h1, -⟩ := h
  exact ⟨_, h1.1⟩
theorem tz_AM.obj {cs : Nat → ClassId} {M : Nat} {f : tz_PH} {σ : tz_SG} (h : tz_AM cs f M σ) : ∃ fs, f M = some (.inr (11, fs)) := by
  obtain ⟨ms, ns, tg, nw, pa, bi, nu, sh, ro, ma, ca, h1, -⟩ := h
  exact ⟨_, h1.1⟩
theorem tz_AM.fr {cs : Nat → ClassId} {M : Nat} {f f' : tz_PH} {σ : tz_SG} (h : tz_AM cs f M σ) (hq : ∀ q, M ≤ q ∧ q < M + 9 → f' q = f q) : tz_AM cs f' M σ := by
  obtain ⟨ms, ns, tg, nw, pa, bi, nu, sh, ro, ma, ca, ⟨a0, a1, a2, a3, a4, a5, a6, a7, a8⟩, h2⟩ := h
  exact ⟨ms, ns, tg, nw, pa, bi, nu, sh, ro, ma, ca, ⟨(hq _ (by omega)).trans a0, (hq _ (by omega)).trans a1, (hq _ (by omega)).trans a2, (hq _ (by omega)).trans a3, (hq _ (by omega)).trans a4, (hq _ (by omega)).trans a5, (hq _ (by omega)).trans a6, (hq _ (by omega)).trans a7, (hq _ (by omega)).trans a8⟩, h2⟩
theorem tz_AX.fr {cs : Nat → ClassId} {L0 B : Nat} {f f' : tz_PH} {σ : tz_SG} (h : tz_AX cs L0 f B σ) (hq : ∀ q, (B ≤ q ∧ q < B + 179) ∨ L0 ≤ q → f' q = f q) : tz_AX cs L0 f' B σ := by
  obtain ⟨R, o, mp, ml, nx, St, Sb, ⟨a0, a1, a2, a3, a4, a5, a6, a7⟩, h1, h2, h3, h4⟩ := h
  exact ⟨R, o, mp, ml, nx, St, Sb, ⟨(hq _ (by omega)).trans a0, a1.fr (fun q x y => hq q (by omega)), a2.fr (fun q x y => hq q (by omega)), a3.fr (fun q x y => hq q (by omega)), a4.fr (fun q x y => hq q (by omega)), a5.fr (fun q x y => hq q (by omega)), a6.fr (fun q x y => hq q (by omega)), a7.fr (fun q x y => hq q (by omega))⟩, h1.fr (fun q x => hq q (Or.inr x)), h2, h3.fr (fun q x => hq q (Or.inr x)), h4⟩
def lw_I (cs : Nat → ClassId) (f : tz_PH) (B : Nat) (σ : tz_SG) : Prop := tz_AX cs (B + 188) f B σ ∧ tz_AM cs f (B + 179) σ ∧ tz_WF σ

set_option maxHeartbeats 4000000 in
set_option maxRecDepth 100000 in
theorem lw_c_pass {p : Program} {l : Launch} {e : Env} {s : State} {m : MethodId} {args : Array Value} {below : List Frame} {meth : Method} {c : Code} {Q : State → Prop} {A : Nat → Prop} {D : va_G} {cs : Nat → ClassId} (C_ : tz_Cx p s m args c A D cs "TapeBenchLaw" code 4) {b L i B sz cells slots : Nat} {xs : Nat → Int32} {f : tz_PH} {σ : tz_SG} (hXs : va_X b L xs s s.heap) (hbl : b < s.heap.size) (hbA : ¬ A b) (hA : ∀ q, B ≤ q → A q) (hi : i + 6 ≤ L) (hL : L ≤ 3072) (hI : lw_I cs f B σ) (hsz : B + 188 ≤ sz) (hcl : cells + 1 ≤ 600000) (hsl : slots + 4 ≤ 7302249)
    (kk : ∀ (f' : tz_PH) (σ' : tz_SG) (sz' : Nat), lw_I cs f' B σ' → B + 188 ≤ sz' → tz_V p l e room_1 s m args below meth c Q A D 4 f' sz' (cells + 1) (slots + 4) 1244 [(0, .ref b), (1, .ref B), (2, .ref (B + 179)), (3, .int (nI i))] []) : tz_V p l e room_1 s m args below meth c Q A D 4 f sz cells slots 164 [(0, .ref b), (1, .ref B), (2, .ref (B + 179)), (3, .int (nI i))] [] := by
  obtain ⟨hX, hM, hW⟩ := id hI
  obtain ⟨fsB, hB9⟩ := hX.obj
  refine tz_aload_n C_ 1 rfl rfl td_W_law_164 ?_
  refine tz_aload_n C_ 0 rfl rfl td_W_law_165 ?_
  refine tz_iload_n C_ 3 rfl rfl td_W_law_166 ?_
  refine tz_iconst C_ (v := 1) (by decide) td_W_law_167 ?_
  refine tz_iadd C_ td_W_law_168 ?_
  rw [show (nI i + 1 : Int32) = nI (i + 1) from nI_add i 1]
  refine tz_sld C_ hXs hbl hbA (k := i + 1) (by omega) (by omega) td_W_law_169 ?_
  refine tz_aload_n C_ 0 rfl rfl td_W_law_170 ?_
  refine tz_iload_n C_ 3 rfl rfl td_W_law_171 ?_
  refine tz_iconst C_ (v := 2) (by decide) td_W_law_172 ?_
  refine tz_iadd C_ td_W_law_173 ?_
  rw [show (nI i + 2 : Int32) = nI (i + 2) from nI_add i 2]
  refine tz_sld C_ hXs hbl hbA (k := i + 2) (by omega) (by omega) td_W_law_174 ?_
  refine tz_cV C_ tmi_X_pass tw_266 tw_267 tw_265 hB9 rfl (As := [.int (xs (i + 1)), .int (xs (i + 2))]) (by exact (ct_X_pass hX hW (by omega))) rfl (rest := []) rfl ⟨rfl, rfl, by show cells + 0 ≤ 600000; omega, by show slots + 0 ≤ 7302249; omega, by decide, by decide⟩ (Nat.le_of_ble_eq_true rfl) td_W_law_175 (st1 := (.int (sp_pass σ (xs (i + 1)) (xs (i + 2))).1) :: []) rfl (fun f1 hF1 => ?_)
  obtain ⟨hX1, hq1⟩ := hF1
  have hM1 := hM.fr (fun q a1 => hq1 q (by omega))
  obtain ⟨fsM, hM9⟩ := hM1.obj
  refine tz_aload_n C_ 2 rfl rfl td_W_law_178 ?_
  refine tz_aload_n C_ 0 rfl rfl td_W_law_179 ?_
  refine tz_iload_n C_ 3 rfl rfl td_W_law_180 ?_
  refine tz_iconst C_ (v := 1) (by decide) td_W_law_181 ?_
  refine tz_iadd C_ td_W_law_182 ?_
  rw [show (nI i + 1 : Int32) = nI (i + 1) from nI_add i 1]
  refine tz_sld C_ hXs hbl hbA (k := i + 1) (by omega) (by omega) td_W_law_183 ?_
  refine tz_aload_n C_ 0 rfl rfl td_W_law_184 ?_
  refine tz_iload_n C_ 3 rfl rfl td_W_law_185 ?_
  refine tz_iconst C_ (v := 2) (by decide) td_W_law_186 ?_
  refine tz_iadd C_ td_W_law_187 ?_
  rw [show (nI i + 2 : Int32) = nI (i + 2) from nI_add i 2]
  refine tz_sld C_ hXs hbl hbA (k := i + 2) (by omega) (by omega) td_W_law_188 ?_
  refine tz_cV C_ tmi_M_pass tw_803 tw_804 tw_802 hM9 rfl (As := [.int (xs (i + 1)), .int (xs (i + 2))]) (by exact (ct_M_pass hM1 hW)) rfl (rest := [(.int (sp_pass σ (xs (i + 1)) (xs (i + 2))).1)]) rfl ⟨rfl, rfl, by show cells + 0 ≤ 600000; omega, by show slots + 0 ≤ 7302249; omega, by decide, by decide⟩ (Nat.le_of_ble_eq_true rfl) td_W_law_189 (st1 := (.int (sp_pass σ (xs (i + 1)) (xs (i + 2))).1) :: [(.int (sp_pass σ (xs (i + 1)) (xs (i + 2))).1)]) rfl (fun f2 hF2 => ?_)
  obtain ⟨hM2, hq2⟩ := hF2
  have hX2 := hX1.fr (fun q a1 => hq2 q (by omega))
  refine tz_icmp_eq C_ td_W_law_192 (fun _ => ?_) (fun h => absurd rfl h)
  exact tz_widen (by omega) (by omega) (kk f2 _ _ ⟨hX2, hM2, wf_pass hW⟩ hsz)

set_option maxHeartbeats 4000000 in
set_option maxRecDepth 100000 in
theorem lw_c_put {p : Program} {l : Launch} {e : Env} {s : State} {m : MethodId} {args : Array Value} {below : List Frame} {meth : Method} {c : Code} {Q : State → Prop} {A : Nat → Prop} {D : va_G} {cs : Nat → ClassId} (C_ : tz_Cx p s m args c A D cs "TapeBenchLaw" code 4) {b L i B sz cells slots : Nat} {xs : Nat → Int32} {f : tz_PH} {σ : tz_SG} (hXs : va_X b L xs s s.heap) (hbl : b < s.heap.size) (hbA : ¬ A b) (hA : ∀ q, B ≤ q → A q) (hi : i + 6 ≤ L) (hL : L ≤ 3072) (hI : lw_I cs f B σ) (hsz : B + 188 ≤ sz) (hcl : cells + 1 ≤ 600000) (hsl : slots + 4 ≤ 7302249)
    (kk : ∀ (f' : tz_PH) (σ' : tz_SG) (sz' : Nat), lw_I cs f' B σ' → B + 188 ≤ sz' → tz_V p l e room_1 s m args below meth c Q A D 4 f' sz' (cells + 1) (slots + 4) 1244 [(0, .ref b), (1, .ref B), (2, .ref (B + 179)), (3, .int (nI i))] []) : tz_V p l e room_1 s m args below meth c Q A D 4 f sz cells slots 197 [(0, .ref b), (1, .ref B), (2, .ref (B + 179)), (3, .int (nI i))] [] := by
  obtain ⟨hX, hM, hW⟩ := id hI
  obtain ⟨fsB, hB9⟩ := hX.obj
  refine tz_aload_n C_ 1 rfl rfl td_W_law_197 ?_
  refine tz_aload_n C_ 0 rfl rfl td_W_law_198 ?_
  refine tz_iload_n C_ 3 rfl rfl td_W_law_199 ?_
  refine tz_iconst C_ (v := 1) (by decide) td_W_law_200 ?_
  refine tz_iadd C_ td_W_law_201 ?_
  rw [show (nI i + 1 : Int32) = nI (i + 1) from nI_add i 1]
  refine tz_sld C_ hXs hbl hbA (k := i + 1) (by omega) (by omega) td_W_law_202 ?_
  refine tz_aload_n C_ 0 rfl rfl td_W_law_203 ?_
  refine tz_iload_n C_ 3 rfl rfl td_W_law_204 ?_
  refine tz_iconst C_ (v := 2) (by decide) td_W_law_205 ?_
  refine tz_iadd C_ td_W_law_206 ?_
  rw [show (nI i + 2 : Int32) = nI (i + 2) from nI_add i 2]
  refine tz_sld C_ hXs hbl hbA (k := i + 2) (by omega) (by omega) td_W_law_207 ?_
  refine tz_aload_n C_ 0 rfl rfl td_W_law_208 ?_
  refine tz_iload_n C_ 3 rfl rfl td_W_law_209 ?_
  refine tz_iconst C_ (v := 3) (by decide) td_W_law_210 ?_
  refine tz_iadd C_ td_W_law_211 ?_
  rw [show (nI i + 3 : Int32) = nI (i + 3) from nI_add i 3]
  refine tz_sld C_ hXs hbl hbA (k := i + 3) (by omega) (by omega) td_W_law_212 ?_
  refine tz_cV C_ tmi_X_put tw_321 tw_322 tw_320 hB9 rfl (As := [.int (xs (i + 1)), .int (xs (i + 2)), .int (xs (i + 3))]) (by exact (ct_X_put hX hW (by omega))) rfl (rest := []) rfl ⟨rfl, rfl, by show cells + 0 ≤ 600000; omega, by show slots + 0 ≤ 7302249; omega, by decide, by decide⟩ (Nat.le_of_ble_eq_true rfl) td_W_law_213 (st1 := (.int (sp_put σ (xs (i + 1)) (xs (i + 2)) (xs (i + 3))).1) :: []) rfl (fun f1 hF1 => ?_)
  obtain ⟨hX1, hq1⟩ := hF1
  have hM1 := hM.fr (fun q a1 => hq1 q (by omega))
  obtain ⟨fsM, hM9⟩ := hM1.obj
  refine tz_aload_n C_ 2 rfl rfl td_W_law_216 ?_
  refine tz_aload_n C_ 0 rfl rfl td_W_law_217 ?_
  refine tz_iload_n C_ 3 rfl rfl td_W_law_218 ?_
  refine tz_iconst C_ (v := 1) (by decide) td_W_law_219 ?_
  refine tz_iadd C_ td_W_law_220 ?_
  rw [show (nI i + 1 : Int32) = nI (i + 1) from nI_add i 1]
  refine tz_sld C_ hXs hbl hbA (k := i + 1) (by omega) (by omega) td_W_law_221 ?_
  refine tz_aload_n C_ 0 rfl rfl td_W_law_222 ?_
  refine tz_iload_n C_ 3 rfl rfl td_W_law_223 ?_
  refine tz_iconst C_ (v := 2) (by decide) td_W_law_224 ?_
  refine tz_iadd C_ td_W_law_225 ?_
  rw [show (nI i + 2 : Int32) = nI (i + 2) from nI_add i 2]
  refine tz_sld C_ hXs hbl hbA (k := i + 2) (by omega) (by omega) td_W_law_226 ?_
  refine tz_aload_n C_ 0 rfl rfl td_W_law_227 ?_
  refine tz_iload_n C_ 3 rfl rfl td_W_law_228 ?_
  refine tz_iconst C_ (v := 3) (by decide) td_W_law_229 ?_
  refine tz_iadd C_ td_W_law_230 ?_
  rw [show (nI i + 3 : Int32) = nI (i + 3) from nI_add i 3]
  refine tz_sld C_ hXs hbl hbA (k := i + 3) (by omega) (by omega) td_W_law_231 ?_
  refine tz_cV C_ tmi_M_put tw_818 tw_819 tw_817 hM9 rfl (As := [.int (xs (i + 1)), .int (xs (i + 2)), .int (xs (i + 3))]) (by exact (ct_M_put hM1 hW)) rfl (rest := [(.int (sp_put σ (xs (i + 1)) (xs (i + 2)) (xs (i + 3))).1)]) rfl ⟨rfl, rfl, by show cells + 0 ≤ 600000; omega, by show slots + 0 ≤ 7302249; omega, by decide, by decide⟩ (Nat.le_of_ble_eq_true rfl) td_W_law_232 (st1 := (.int (sp_put σ (xs (i + 1)) (xs (i + 2)) (xs (i + 3))).1) :: [(.int (sp_put σ (xs (i + 1)) (xs (i + 2)) (xs (i + 3))).1)]) rfl (fun f2 hF2 => ?_)
  obtain ⟨hM2, hq2⟩ := hF2
  have hX2 := hX1.fr (fun q a1 => hq2 q (by omega))
  refine tz_icmp_eq C_ td_W_law_235 (fun _ => ?_) (fun h => absurd rfl h)
  exact tz_widen (by omega) (by omega) (kk f2 _ _ ⟨hX2, hM2, wf_put hW⟩ hsz)

set_option maxHeartbeats 4000000 in
set_option maxRecDepth 100000 in
theorem lw_c_lose {p : Program} {l : Launch} {e : Env} {s : State} {m : MethodId} {args : Array Value} {below : List Frame} {meth : Method} {c : Code} {Q : State → Prop} {A : Nat → Prop} {D : va_G} {cs : Nat → ClassId} (C_ : tz_Cx p s m args c A D cs "TapeBenchLaw" code 4) {b L i B sz cells slots : Nat} {xs : Nat → Int32} {f : tz_PH} {σ : tz_SG} (hXs : va_X b L xs s s.heap) (hbl : b < s.heap.size) (hbA : ¬ A b) (hA : ∀ q, B ≤ q → A q) (hi : i + 6 ≤ L) (hL : L ≤ 3072) (hI : lw_I cs f B σ) (hsz : B + 188 ≤ sz) (hcl : cells + 1 ≤ 600000) (hsl : slots + 4 ≤ 7302249)
    (kk : ∀ (f' : tz_PH) (σ' : tz_SG) (sz' : Nat), lw_I cs f' B σ' → B + 188 ≤ sz' → tz_V p l e room_1 s m args below meth c Q A D 4 f' sz' (cells + 1) (slots + 4) 1244 [(0, .ref b), (1, .ref B), (2, .ref (B + 179)), (3, .int (nI i))] []) : tz_V p l e room_1 s m args below meth c Q A D 4 f sz cells slots 240 [(0, .ref b), (1, .ref B), (2, .ref (B + 179)), (3, .int (nI i))] [] := by
  obtain ⟨hX, hM, hW⟩ := id hI
  obtain ⟨fsB, hB9⟩ := hX.obj
  refine tz_aload_n C_ 1 rfl rfl td_W_law_240 ?_
  refine tz_aload_n C_ 0 rfl rfl td_W_law_241 ?_
  refine tz_iload_n C_ 3 rfl rfl td_W_law_242 ?_
  refine tz_iconst C_ (v := 1) (by decide) td_W_law_243 ?_
  refine tz_iadd C_ td_W_law_244 ?_
  rw [show (nI i + 1 : Int32) = nI (i + 1) from nI_add i 1]
  refine tz_sld C_ hXs hbl hbA (k := i + 1) (by omega) (by omega) td_W_law_245 ?_
  refine tz_aload_n C_ 0 rfl rfl td_W_law_246 ?_
  refine tz_iload_n C_ 3 rfl rfl td_W_law_247 ?_
  refine tz_iconst C_ (v := 2) (by decide) td_W_law_248 ?_
  refine tz_iadd C_ td_W_law_249 ?_
  rw [show (nI i + 2 : Int32) = nI (i + 2) from nI_add i 2]
  refine tz_sld C_ hXs hbl hbA (k := i + 2) (by omega) (by omega) td_W_law_250 ?_
  refine tz_aload_n C_ 0 rfl rfl td_W_law_251 ?_
  refine tz_iload_n C_ 3 rfl rfl td_W_law_252 ?_
  refine tz_iconst C_ (v := 3) (by decide) td_W_law_253 ?_
  refine tz_iadd C_ td_W_law_254 ?_
  rw [show (nI i + 3 : Int32) = nI (i + 3) from nI_add i 3]
  refine tz_sld C_ hXs hbl hbA (k := i + 3) (by omega) (by omega) td_W_law_255 ?_
  refine tz_cV C_ tmi_X_lose tw_343 tw_344 tw_342 hB9 rfl (As := [.int (xs (i + 1)), .int (xs (i + 2)), .int (xs (i + 3))]) (by exact (ct_X_lose hX hW (by omega))) rfl (rest := []) rfl ⟨rfl, rfl, by show cells + 0 ≤ 600000; omega, by show slots + 0 ≤ 7302249; omega, by decide, by decide⟩ (Nat.le_of_ble_eq_true rfl) td_W_law_256 (st1 := (.int (sp_lose σ (xs (i + 1)) (xs (i + 2)) (xs (i + 3))).1) :: []) rfl (fun f1 hF1 => ?_)
  obtain ⟨hX1, hq1⟩ := hF1
  have hM1 := hM.fr (fun q a1 => hq1 q (by omega))
  obtain ⟨fsM, hM9⟩ := hM1.obj
  refine tz_aload_n C_ 2 rfl rfl td_W_law_259 ?_
  refine tz_aload_n C_ 0 rfl rfl td_W_law_260 ?_
  refine tz_iload_n C_ 3 rfl rfl td_W_law_261 ?_
  refine tz_iconst C_ (v := 1) (by decide) td_W_law_262 ?_
  refine tz_iadd C_ td_W_law_263 ?_
  rw [show (nI i + 1 : Int32) = nI (i + 1) from nI_add i 1]
  refine tz_sld C_ hXs hbl hbA (k := i + 1) (by omega) (by omega) td_W_law_264 ?_
  refine tz_aload_n C_ 0 rfl rfl td_W_law_265 ?_
  refine tz_iload_n C_ 3 rfl rfl td_W_law_266 ?_
  refine tz_iconst C_ (v := 2) (by decide) td_W_law_267 ?_
  refine tz_iadd C_ td_W_law_268 ?_
  rw [show (nI i + 2 : Int32) = nI (i + 2) from nI_add i 2]
  refine tz_sld C_ hXs hbl hbA (k := i + 2) (by omega) (by omega) td_W_law_269 ?_
  refine tz_aload_n C_ 0 rfl rfl td_W_law_270 ?_
  refine tz_iload_n C_ 3 rfl rfl td_W_law_271 ?_
  refine tz_iconst C_ (v := 3) (by decide) td_W_law_272 ?_
  refine tz_iadd C_ td_W_law_273 ?_
  rw [show (nI i + 3 : Int32) = nI (i + 3) from nI_add i 3]
  refine tz_sld C_ hXs hbl hbA (k := i + 3) (by omega) (by omega) td_W_law_274 ?_
  refine tz_cV C_ tmi_M_lose tw_831 tw_832 tw_830 hM9 rfl (As := [.int (xs (i + 1)), .int (xs (i + 2)), .int (xs (i + 3))]) (by exact (ct_M_lose hM1 hW)) rfl (rest := [(.int (sp_lose σ (xs (i + 1)) (xs (i + 2)) (xs (i + 3))).1)]) rfl ⟨rfl, rfl, by show cells + 0 ≤ 600000; omega, by show slots + 0 ≤ 7302249; omega, by decide, by decide⟩ (Nat.le_of_ble_eq_true rfl) td_W_law_275 (st1 := (.int (sp_lose σ (xs (i + 1)) (xs (i + 2)) (xs (i + 3))).1) :: [(.int (sp_lose σ (xs (i + 1)) (xs (i + 2)) (xs (i + 3))).1)]) rfl (fun f2 hF2 => ?_)
  obtain ⟨hM2, hq2⟩ := hF2
  have hX2 := hX1.fr (fun q a1 => hq2 q (by omega))
  refine tz_icmp_eq C_ td_W_law_278 (fun _ => ?_) (fun h => absurd rfl h)
  exact tz_widen (by omega) (by omega) (kk f2 _ _ ⟨hX2, hM2, wf_lose hW⟩ hsz)

set_option maxHeartbeats 4000000 in
set_option maxRecDepth 100000 in
theorem lw_c_sample {p : Program} {l : Launch} {e : Env} {s : State} {m : MethodId} {args : Array Value} {below : List Frame} {meth : Method} {c : Code} {Q : State → Prop} {A : Nat → Prop} {D : va_G} {cs : Nat → ClassId} (C_ : tz_Cx p s m args c A D cs "TapeBenchLaw" code 4) {b L i B sz cells slots : Nat} {xs : Nat → Int32} {f : tz_PH} {σ : tz_SG} (hXs : va_X b L xs s s.heap) (hbl : b < s.heap.size) (hbA : ¬ A b) (hA : ∀ q, B ≤ q → A q) (hi : i + 6 ≤ L) (hL : L ≤ 3072) (hI : lw_I cs f B σ) (hsz : B + 188 ≤ sz) (hcl : cells + 1 ≤ 600000) (hsl : slots + 4 ≤ 7302249)
    (kk : ∀ (f' : tz_PH) (σ' : tz_SG) (sz' : Nat), lw_I cs f' B σ' → B + 188 ≤ sz' → tz_V p l e room_1 s m args below meth c Q A D 4 f' sz' (cells + 1) (slots + 4) 1244 [(0, .ref b), (1, .ref B), (2, .ref (B + 179)), (3, .int (nI i))] []) : tz_V p l e room_1 s m args below meth c Q A D 4 f sz cells slots 283 [(0, .ref b), (1, .ref B), (2, .ref (B + 179)), (3, .int (nI i))] [] := by
  obtain ⟨hX, hM, hW⟩ := id hI
  obtain ⟨fsB, hB9⟩ := hX.obj
  refine tz_aload_n C_ 1 rfl rfl td_W_law_283 ?_
  refine tz_aload_n C_ 0 rfl rfl td_W_law_284 ?_
  refine tz_iload_n C_ 3 rfl rfl td_W_law_285 ?_
  refine tz_iconst C_ (v := 1) (by decide) td_W_law_286 ?_
  refine tz_iadd C_ td_W_law_287 ?_
  rw [show (nI i + 1 : Int32) = nI (i + 1) from nI_add i 1]
  refine tz_sld C_ hXs hbl hbA (k := i + 1) (by omega) (by omega) td_W_law_288 ?_
  refine tz_aload_n C_ 0 rfl rfl td_W_law_289 ?_
  refine tz_iload_n C_ 3 rfl rfl td_W_law_290 ?_
  refine tz_iconst C_ (v := 2) (by decide) td_W_law_291 ?_
  refine tz_iadd C_ td_W_law_292 ?_
  rw [show (nI i + 2 : Int32) = nI (i + 2) from nI_add i 2]
  refine tz_sld C_ hXs hbl hbA (k := i + 2) (by omega) (by omega) td_W_law_293 ?_
  refine tz_cV C_ tmi_X_sample tw_355 tw_356 tw_354 hB9 rfl (As := [.int (xs (i + 1)), .int (xs (i + 2))]) (by exact (ct_X_sample hX hW (by omega))) rfl (rest := []) rfl ⟨rfl, rfl, by show cells + 0 ≤ 600000; omega, by show slots + 0 ≤ 7302249; omega, by decide, by decide⟩ (Nat.le_of_ble_eq_true rfl) td_W_law_294 (st1 := (.int (sp_sample σ (xs (i + 1)) (xs (i + 2))).1) :: []) rfl (fun f1 hF1 => ?_)
  obtain ⟨hX1, hq1⟩ := hF1
  have hM1 := hM.fr (fun q a1 => hq1 q (by omega))
  obtain ⟨fsM, hM9⟩ := hM1.obj
  refine tz_aload_n C_ 2 rfl rfl td_W_law_297 ?_
  refine tz_aload_n C_ 0 rfl rfl td_W_law_298 ?_
  refine tz_iload_n C_ 3 rfl rfl td_W_law_299 ?_
  refine tz_iconst C_ (v := 1) (by decide) td_W_law_300 ?_
  refine tz_iadd C_ td_W_law_301 ?_
  rw [show (nI i + 1 : Int32) = nI (i + 1) from nI_add i 1]
  refine tz_sld C_ hXs hbl hbA (k := i + 1) (by omega) (by omega) td_W_law_302 ?_
  refine tz_aload_n C_ 0 rfl rfl td_W_law_303 ?_
  refine tz_iload_n C_ 3 rfl rfl td_W_law_304 ?_
  refine tz_iconst C_ (v := 2) (by decide) td_W_law_305 ?_
  refine tz_iadd C_ td_W_law_306 ?_
  rw [show (nI i + 2 : Int32) = nI (i + 2) from nI_add i 2]
  refine tz_sld C_ hXs hbl hbA (k := i + 2) (by omega) (by omega) td_W_law_307 ?_
  refine tz_cV C_ tmi_M_sample tw_835 tw_836 tw_834 hM9 rfl (As := [.int (xs (i + 1)), .int (xs (i + 2))]) (by exact (ct_M_sample hM1 hW)) rfl (rest := [(.int (sp_sample σ (xs (i + 1)) (xs (i + 2))).1)]) rfl ⟨rfl, rfl, by show cells + 0 ≤ 600000; omega, by show slots + 0 ≤ 7302249; omega, by decide, by decide⟩ (Nat.le_of_ble_eq_true rfl) td_W_law_308 (st1 := (.int (sp_sample σ (xs (i + 1)) (xs (i + 2))).1) :: [(.int (sp_sample σ (xs (i + 1)) (xs (i + 2))).1)]) rfl (fun f2 hF2 => ?_)
  obtain ⟨hM2, hq2⟩ := hF2
  have hX2 := hX1.fr (fun q a1 => hq2 q (by omega))
  refine tz_icmp_eq C_ td_W_law_311 (fun _ => ?_) (fun h => absurd rfl h)
  exact tz_widen (by omega) (by omega) (kk f2 _ _ ⟨hX2, hM2, wf_sample hW⟩ hsz)

set_option maxHeartbeats 4000000 in
set_option maxRecDepth 100000 in
theorem lw_c_about {p : Program} {l : Launch} {e : Env} {s : State} {m : MethodId} {args : Array Value} {below : List Frame} {meth : Method} {c : Code} {Q : State → Prop} {A : Nat → Prop} {D : va_G} {cs : Nat → ClassId} (C_ : tz_Cx p s m args c A D cs "TapeBenchLaw" code 4) {b L i B sz cells slots : Nat} {xs : Nat → Int32} {f : tz_PH} {σ : tz_SG} (hXs : va_X b L xs s s.heap) (hbl : b < s.heap.size) (hbA : ¬ A b) (hA : ∀ q, B ≤ q → A q) (hi : i + 6 ≤ L) (hL : L ≤ 3072) (hI : lw_I cs f B σ) (hsz : B + 188 ≤ sz) (hcl : cells + 1 ≤ 600000) (hsl : slots + 4 ≤ 7302249)
    (kk : ∀ (f' : tz_PH) (σ' : tz_SG) (sz' : Nat), lw_I cs f' B σ' → B + 188 ≤ sz' → tz_V p l e room_1 s m args below meth c Q A D 4 f' sz' (cells + 1) (slots + 4) 1244 [(0, .ref b), (1, .ref B), (2, .ref (B + 179)), (3, .int (nI i))] []) : tz_V p l e room_1 s m args below meth c Q A D 4 f sz cells slots 316 [(0, .ref b), (1, .ref B), (2, .ref (B + 179)), (3, .int (nI i))] [] := by
  obtain ⟨hX, hM, hW⟩ := id hI
  obtain ⟨fsB, hB9⟩ := hX.obj
  refine tz_aload_n C_ 1 rfl rfl td_W_law_316 ?_
  refine tz_aload_n C_ 0 rfl rfl td_W_law_317 ?_
  refine tz_iload_n C_ 3 rfl rfl td_W_law_318 ?_
  refine tz_iconst C_ (v := 1) (by decide) td_W_law_319 ?_
  refine tz_iadd C_ td_W_law_320 ?_
  rw [show (nI i + 1 : Int32) = nI (i + 1) from nI_add i 1]
  refine tz_sld C_ hXs hbl hbA (k := i + 1) (by omega) (by omega) td_W_law_321 ?_
  refine tz_aload_n C_ 0 rfl rfl td_W_law_322 ?_
  refine tz_iload_n C_ 3 rfl rfl td_W_law_323 ?_
  refine tz_iconst C_ (v := 2) (by decide) td_W_law_324 ?_
  refine tz_iadd C_ td_W_law_325 ?_
  rw [show (nI i + 2 : Int32) = nI (i + 2) from nI_add i 2]
  refine tz_sld C_ hXs hbl hbA (k := i + 2) (by omega) (by omega) td_W_law_326 ?_
  refine tz_cV C_ tmi_X_about tw_359 tw_360 tw_358 hB9 rfl (As := [.int (xs (i + 1)), .int (xs (i + 2))]) (by exact (ct_X_about hX hW (by omega))) rfl (rest := []) rfl ⟨rfl, rfl, by show cells + 0 ≤ 600000; omega, by show slots + 0 ≤ 7302249; omega, by decide, by decide⟩ (Nat.le_of_ble_eq_true rfl) td_W_law_327 (st1 := (.int (sp_about σ (xs (i + 1)) (xs (i + 2))).1) :: []) rfl (fun f1 hF1 => ?_)
  obtain ⟨hX1, hq1⟩ := hF1
  have hM1 := hM.fr (fun q a1 => hq1 q (by omega))
  obtain ⟨fsM, hM9⟩ := hM1.obj
  refine tz_aload_n C_ 2 rfl rfl td_W_law_330 ?_
  refine tz_aload_n C_ 0 rfl rfl td_W_law_331 ?_
  refine tz_iload_n C_ 3 rfl rfl td_W_law_332 ?_
  refine tz_iconst C_ (v := 1) (by decide) td_W_law_333 ?_
  refine tz_iadd C_ td_W_law_334 ?_
  rw [show (nI i + 1 : Int32) = nI (i + 1) from nI_add i 1]
  refine tz_sld C_ hXs hbl hbA (k := i + 1) (by omega) (by omega) td_W_law_335 ?_
  refine tz_aload_n C_ 0 rfl rfl td_W_law_336 ?_
  refine tz_iload_n C_ 3 rfl rfl td_W_law_337 ?_
  refine tz_iconst C_ (v := 2) (by decide) td_W_law_338 ?_
  refine tz_iadd C_ td_W_law_339 ?_
  rw [show (nI i + 2 : Int32) = nI (i + 2) from nI_add i 2]
  refine tz_sld C_ hXs hbl hbA (k := i + 2) (by omega) (by omega) td_W_law_340 ?_
  refine tz_cV C_ tmi_M_about tw_840 tw_841 tw_839 hM9 rfl (As := [.int (xs (i + 1)), .int (xs (i + 2))]) (by exact (ct_M_about hM1 hW)) rfl (rest := [(.int (sp_about σ (xs (i + 1)) (xs (i + 2))).1)]) rfl ⟨rfl, rfl, by show cells + 0 ≤ 600000; omega, by show slots + 0 ≤ 7302249; omega, by decide, by decide⟩ (Nat.le_of_ble_eq_true rfl) td_W_law_341 (st1 := (.int (sp_about σ (xs (i + 1)) (xs (i + 2))).1) :: [(.int (sp_about σ (xs (i + 1)) (xs (i + 2))).1)]) rfl (fun f2 hF2 => ?_)
  obtain ⟨hM2, hq2⟩ := hF2
  have hX2 := hX1.fr (fun q a1 => hq2 q (by omega))
  refine tz_icmp_eq C_ td_W_law_344 (fun _ => ?_) (fun h => absurd rfl h)
  exact tz_widen (by omega) (by omega) (kk f2 _ _ ⟨hX2, hM2, wf_about hW⟩ hsz)

set_option maxHeartbeats 4000000 in
set_option maxRecDepth 100000 in
theorem lw_c_turn {p : Program} {l : Launch} {e : Env} {s : State} {m : MethodId} {args : Array Value} {below : List Frame} {meth : Method} {c : Code} {Q : State → Prop} {A : Nat → Prop} {D : va_G} {cs : Nat → ClassId} (C_ : tz_Cx p s m args c A D cs "TapeBenchLaw" code 4) {b L i B sz cells slots : Nat} {xs : Nat → Int32} {f : tz_PH} {σ : tz_SG} (hXs : va_X b L xs s s.heap) (hbl : b < s.heap.size) (hbA : ¬ A b) (hA : ∀ q, B ≤ q → A q) (hi : i + 6 ≤ L) (hL : L ≤ 3072) (hI : lw_I cs f B σ) (hsz : B + 188 ≤ sz) (hcl : cells + 1 ≤ 600000) (hsl : slots + 4 ≤ 7302249)
    (kk : ∀ (f' : tz_PH) (σ' : tz_SG) (sz' : Nat), lw_I cs f' B σ' → B + 188 ≤ sz' → tz_V p l e room_1 s m args below meth c Q A D 4 f' sz' (cells + 1) (slots + 4) 1244 [(0, .ref b), (1, .ref B), (2, .ref (B + 179)), (3, .int (nI i))] []) : tz_V p l e room_1 s m args below meth c Q A D 4 f sz cells slots 349 [(0, .ref b), (1, .ref B), (2, .ref (B + 179)), (3, .int (nI i))] [] := by
  obtain ⟨hX, hM, hW⟩ := id hI
  obtain ⟨fsB, hB9⟩ := hX.obj
  refine tz_aload_n C_ 1 rfl rfl td_W_law_349 ?_
  refine tz_aload_n C_ 0 rfl rfl td_W_law_350 ?_
  refine tz_iload_n C_ 3 rfl rfl td_W_law_351 ?_
  refine tz_iconst C_ (v := 1) (by decide) td_W_law_352 ?_
  refine tz_iadd C_ td_W_law_353 ?_
  rw [show (nI i + 1 : Int32) = nI (i + 1) from nI_add i 1]
  refine tz_sld C_ hXs hbl hbA (k := i + 1) (by omega) (by omega) td_W_law_354 ?_
  refine tz_aload_n C_ 0 rfl rfl td_W_law_355 ?_
  refine tz_iload_n C_ 3 rfl rfl td_W_law_356 ?_
  refine tz_iconst C_ (v := 2) (by decide) td_W_law_357 ?_
  refine tz_iadd C_ td_W_law_358 ?_
  rw [show (nI i + 2 : Int32) = nI (i + 2) from nI_add i 2]
  refine tz_sld C_ hXs hbl hbA (k := i + 2) (by omega) (by omega) td_W_law_359 ?_
  refine tz_cV C_ tmi_X_turn tw_384 tw_385 tw_383 hB9 rfl (As := [.int (xs (i + 1)), .int (xs (i + 2))]) (by exact (ct_X_turn hX hW (by omega))) rfl (rest := []) rfl ⟨rfl, rfl, by show cells + 0 ≤ 600000; omega, by show slots + 0 ≤ 7302249; omega, by decide, by decide⟩ (Nat.le_of_ble_eq_true rfl) td_W_law_360 (st1 := (.int (sp_turn σ (xs (i + 1)) (xs (i + 2))).1) :: []) rfl (fun f1 hF1 => ?_)
  obtain ⟨hX1, hq1⟩ := hF1
  have hM1 := hM.fr (fun q a1 => hq1 q (by omega))
  obtain ⟨fsM, hM9⟩ := hM1.obj
  refine tz_aload_n C_ 2 rfl rfl td_W_law_363 ?_
  refine tz_aload_n C_ 0 rfl rfl td_W_law_364 ?_
  refine tz_iload_n C_ 3 rfl rfl td_W_law_365 ?_
  refine tz_iconst C_ (v := 1) (by decide) td_W_law_366 ?_
  refine tz_iadd C_ td_W_law_367 ?_
  rw [show (nI i + 1 : Int32) = nI (i + 1) from nI_add i 1]
  refine tz_sld C_ hXs hbl hbA (k := i + 1) (by omega) (by omega) td_W_law_368 ?_
  refine tz_aload_n C_ 0 rfl rfl td_W_law_369 ?_
  refine tz_iload_n C_ 3 rfl rfl td_W_law_370 ?_
  refine tz_iconst C_ (v := 2) (by decide) td_W_law_371 ?_
  refine tz_iadd C_ td_W_law_372 ?_
  rw [show (nI i + 2 : Int32) = nI (i + 2) from nI_add i 2]
  refine tz_sld C_ hXs hbl hbA (k := i + 2) (by omega) (by omega) td_W_law_373 ?_
  refine tz_cV C_ tmi_M_turn tw_864 tw_865 tw_863 hM9 rfl (As := [.int (xs (i + 1)), .int (xs (i + 2))]) (by exact (ct_M_turn hM1 hW)) rfl (rest := [(.int (sp_turn σ (xs (i + 1)) (xs (i + 2))).1)]) rfl ⟨rfl, rfl, by show cells + 0 ≤ 600000; omega, by show slots + 0 ≤ 7302249; omega, by decide, by decide⟩ (Nat.le_of_ble_eq_true rfl) td_W_law_374 (st1 := (.int (sp_turn σ (xs (i + 1)) (xs (i + 2))).1) :: [(.int (sp_turn σ (xs (i + 1)) (xs (i + 2))).1)]) rfl (fun f2 hF2 => ?_)
  obtain ⟨hM2, hq2⟩ := hF2
  have hX2 := hX1.fr (fun q a1 => hq2 q (by omega))
  refine tz_icmp_eq C_ td_W_law_377 (fun _ => ?_) (fun h => absurd rfl h)
  exact tz_widen (by omega) (by omega) (kk f2 _ _ ⟨hX2, hM2, wf_turn hW⟩ hsz)

set_option maxHeartbeats 4000000 in
set_option maxRecDepth 100000 in
theorem lw_c_sheet {p : Program} {l : Launch} {e : Env} {s : State} {m : MethodId} {args : Array Value} {below : List Frame} {meth : Method} {c : Code} {Q : State → Prop} {A : Nat → Prop} {D : va_G} {cs : Nat → ClassId} (C_ : tz_Cx p s m args c A D cs "TapeBenchLaw" code 4) {b L i B sz cells slots : Nat} {xs : Nat → Int32} {f : tz_PH} {σ : tz_SG} (hXs : va_X b L xs s s.heap) (hbl : b < s.heap.size) (hbA : ¬ A b) (hA : ∀ q, B ≤ q → A q) (hi : i + 6 ≤ L) (hL : L ≤ 3072) (hI : lw_I cs f B σ) (hsz : B + 188 ≤ sz) (hcl : cells + 1 ≤ 600000) (hsl : slots + 4 ≤ 7302249)
    (kk : ∀ (f' : tz_PH) (σ' : tz_SG) (sz' : Nat), lw_I cs f' B σ' → B + 188 ≤ sz' → tz_V p l e room_1 s m args below meth c Q A D 4 f' sz' (cells + 1) (slots + 4) 1244 [(0, .ref b), (1, .ref B), (2, .ref (B + 179)), (3, .int (nI i))] []) : tz_V p l e room_1 s m args below meth c Q A D 4 f sz cells slots 382 [(0, .ref b), (1, .ref B), (2, .ref (B + 179)), (3, .int (nI i))] [] := by
  obtain ⟨hX, hM, hW⟩ := id hI
  obtain ⟨fsB, hB9⟩ := hX.obj
  refine tz_aload_n C_ 1 rfl rfl td_W_law_382 ?_
  refine tz_aload_n C_ 0 rfl rfl td_W_law_383 ?_
  refine tz_iload_n C_ 3 rfl rfl td_W_law_384 ?_
  refine tz_iconst C_ (v := 1) (by decide) td_W_law_385 ?_
  refine tz_iadd C_ td_W_law_386 ?_
  rw [show (nI i + 1 : Int32) = nI (i + 1) from nI_add i 1]
  refine tz_sld C_ hXs hbl hbA (k := i + 1) (by omega) (by omega) td_W_law_387 ?_
  refine tz_aload_n C_ 0 rfl rfl td_W_law_388 ?_
  refine tz_iload_n C_ 3 rfl rfl td_W_law_389 ?_
  refine tz_iconst C_ (v := 2) (by decide) td_W_law_390 ?_
  refine tz_iadd C_ td_W_law_391 ?_
  rw [show (nI i + 2 : Int32) = nI (i + 2) from nI_add i 2]
  refine tz_sld C_ hXs hbl hbA (k := i + 2) (by omega) (by omega) td_W_law_392 ?_
  refine tz_aload_n C_ 0 rfl rfl td_W_law_393 ?_
  refine tz_iload_n C_ 3 rfl rfl td_W_law_394 ?_
  refine tz_iconst C_ (v := 3) (by decide) td_W_law_395 ?_
  refine tz_iadd C_ td_W_law_396 ?_
  rw [show (nI i + 3 : Int32) = nI (i + 3) from nI_add i 3]
  refine tz_sld C_ hXs hbl hbA (k := i + 3) (by omega) (by omega) td_W_law_397 ?_
  refine tz_cV C_ tmi_X_sheet tw_393 tw_394 tw_392 hB9 rfl (As := [.int (xs (i + 1)), .int (xs (i + 2)), .int (xs (i + 3))]) (by exact (ct_X_sheet hX hW (by omega))) rfl (rest := []) rfl ⟨rfl, rfl, by show cells + 0 ≤ 600000; omega, by show slots + 0 ≤ 7302249; omega, by decide, by decide⟩ (Nat.le_of_ble_eq_true rfl) td_W_law_398 (st1 := (.int (sp_sheet σ (xs (i + 1)) (xs (i + 2)) (xs (i + 3))).1) :: []) rfl (fun f1 hF1 => ?_)
  obtain ⟨hX1, hq1⟩ := hF1
  have hM1 := hM.fr (fun q a1 => hq1 q (by omega))
  obtain ⟨fsM, hM9⟩ := hM1.obj
  refine tz_aload_n C_ 2 rfl rfl td_W_law_401 ?_
  refine tz_aload_n C_ 0 rfl rfl td_W_law_402 ?_
  refine tz_iload_n C_ 3 rfl rfl td_W_law_403 ?_
  refine tz_iconst C_ (v := 1) (by decide) td_W_law_404 ?_
  refine tz_iadd C_ td_W_law_405 ?_
  rw [show (nI i + 1 : Int32) = nI (i + 1) from nI_add i 1]
  refine tz_sld C_ hXs hbl hbA (k := i + 1) (by omega) (by omega) td_W_law_406 ?_
  refine tz_aload_n C_ 0 rfl rfl td_W_law_407 ?_
  refine tz_iload_n C_ 3 rfl rfl td_W_law_408 ?_
  refine tz_iconst C_ (v := 2) (by decide) td_W_law_409 ?_
  refine tz_iadd C_ td_W_law_410 ?_
  rw [show (nI i + 2 : Int32) = nI (i + 2) from nI_add i 2]
  refine tz_sld C_ hXs hbl hbA (k := i + 2) (by omega) (by omega) td_W_law_411 ?_
  refine tz_aload_n C_ 0 rfl rfl td_W_law_412 ?_
  refine tz_iload_n C_ 3 rfl rfl td_W_law_413 ?_
  refine tz_iconst C_ (v := 3) (by decide) td_W_law_414 ?_
  refine tz_iadd C_ td_W_law_415 ?_
  rw [show (nI i + 3 : Int32) = nI (i + 3) from nI_add i 3]
  refine tz_sld C_ hXs hbl hbA (k := i + 3) (by omega) (by omega) td_W_law_416 ?_
  refine tz_cV C_ tmi_M_sheet tw_872 tw_873 tw_871 hM9 rfl (As := [.int (xs (i + 1)), .int (xs (i + 2)), .int (xs (i + 3))]) (by exact (ct_M_sheet hM1 hW)) rfl (rest := [(.int (sp_sheet σ (xs (i + 1)) (xs (i + 2)) (xs (i + 3))).1)]) rfl ⟨rfl, rfl, by show cells + 0 ≤ 600000; omega, by show slots + 0 ≤ 7302249; omega, by decide, by decide⟩ (Nat.le_of_ble_eq_true rfl) td_W_law_417 (st1 := (.int (sp_sheet σ (xs (i + 1)) (xs (i + 2)) (xs (i + 3))).1) :: [(.int (sp_sheet σ (xs (i + 1)) (xs (i + 2)) (xs (i + 3))).1)]) rfl (fun f2 hF2 => ?_)
  obtain ⟨hM2, hq2⟩ := hF2
  have hX2 := hX1.fr (fun q a1 => hq2 q (by omega))
  refine tz_icmp_eq C_ td_W_law_420 (fun _ => ?_) (fun h => absurd rfl h)
  exact tz_widen (by omega) (by omega) (kk f2 _ _ ⟨hX2, hM2, wf_sheet hW⟩ hsz)

set_option maxHeartbeats 4000000 in
set_option maxRecDepth 100000 in
theorem lw_c_write {p : Program} {l : Launch} {e : Env} {s : State} {m : MethodId} {args : Array Value} {below : List Frame} {meth : Method} {c : Code} {Q : State → Prop} {A : Nat → Prop} {D : va_G} {cs : Nat → ClassId} (C_ : tz_Cx p s m args c A D cs "TapeBenchLaw" code 4) {b L i B sz cells slots : Nat} {xs : Nat → Int32} {f : tz_PH} {σ : tz_SG} (hXs : va_X b L xs s s.heap) (hbl : b < s.heap.size) (hbA : ¬ A b) (hA : ∀ q, B ≤ q → A q) (hi : i + 6 ≤ L) (hL : L ≤ 3072) (hI : lw_I cs f B σ) (hsz : B + 188 ≤ sz) (hcl : cells + 1 ≤ 600000) (hsl : slots + 4 ≤ 7302249)
    (kk : ∀ (f' : tz_PH) (σ' : tz_SG) (sz' : Nat), lw_I cs f' B σ' → B + 188 ≤ sz' → tz_V p l e room_1 s m args below meth c Q A D 4 f' sz' (cells + 1) (slots + 4) 1244 [(0, .ref b), (1, .ref B), (2, .ref (B + 179)), (3, .int (nI i))] []) : tz_V p l e room_1 s m args below meth c Q A D 4 f sz cells slots 425 [(0, .ref b), (1, .ref B), (2, .ref (B + 179)), (3, .int (nI i))] [] := by
  obtain ⟨hX, hM, hW⟩ := id hI
  obtain ⟨fsB, hB9⟩ := hX.obj
  refine tz_aload_n C_ 1 rfl rfl td_W_law_425 ?_
  refine tz_aload_n C_ 0 rfl rfl td_W_law_426 ?_
  refine tz_iload_n C_ 3 rfl rfl td_W_law_427 ?_
  refine tz_iconst C_ (v := 1) (by decide) td_W_law_428 ?_
  refine tz_iadd C_ td_W_law_429 ?_
  rw [show (nI i + 1 : Int32) = nI (i + 1) from nI_add i 1]
  refine tz_sld C_ hXs hbl hbA (k := i + 1) (by omega) (by omega) td_W_law_430 ?_
  refine tz_aload_n C_ 0 rfl rfl td_W_law_431 ?_
  refine tz_iload_n C_ 3 rfl rfl td_W_law_432 ?_
  refine tz_iconst C_ (v := 2) (by decide) td_W_law_433 ?_
  refine tz_iadd C_ td_W_law_434 ?_
  rw [show (nI i + 2 : Int32) = nI (i + 2) from nI_add i 2]
  refine tz_sld C_ hXs hbl hbA (k := i + 2) (by omega) (by omega) td_W_law_435 ?_
  refine tz_aload_n C_ 0 rfl rfl td_W_law_436 ?_
  refine tz_iload_n C_ 3 rfl rfl td_W_law_437 ?_
  refine tz_iconst C_ (v := 3) (by decide) td_W_law_438 ?_
  refine tz_iadd C_ td_W_law_439 ?_
  rw [show (nI i + 3 : Int32) = nI (i + 3) from nI_add i 3]
  refine tz_sld C_ hXs hbl hbA (k := i + 3) (by omega) (by omega) td_W_law_440 ?_
  refine tz_cV C_ tmi_X_write tw_416 tw_417 tw_415 hB9 rfl (As := [.int (xs (i + 1)), .int (xs (i + 2)), .int (xs (i + 3))]) (by exact (ct_X_write hX hW (by omega))) rfl (rest := []) rfl ⟨rfl, rfl, by show cells + 0 ≤ 600000; omega, by show slots + 0 ≤ 7302249; omega, by decide, by decide⟩ (Nat.le_of_ble_eq_true rfl) td_W_law_441 (st1 := (.int (sp_write σ (xs (i + 1)) (xs (i + 2)) (xs (i + 3))).1) :: []) rfl (fun f1 hF1 => ?_)
  obtain ⟨hX1, hq1⟩ := hF1
  have hM1 := hM.fr (fun q a1 => hq1 q (by omega))
  obtain ⟨fsM, hM9⟩ := hM1.obj
  refine tz_aload_n C_ 2 rfl rfl td_W_law_444 ?_
  refine tz_aload_n C_ 0 rfl rfl td_W_law_445 ?_
  refine tz_iload_n C_ 3 rfl rfl td_W_law_446 ?_
  refine tz_iconst C_ (v := 1) (by decide) td_W_law_447 ?_
  refine tz_iadd C_ td_W_law_448 ?_
  rw [show (nI i + 1 : Int32) = nI (i + 1) from nI_add i 1]
  refine tz_sld C_ hXs hbl hbA (k := i + 1) (by omega) (by omega) td_W_law_449 ?_
  refine tz_aload_n C_ 0 rfl rfl td_W_law_450 ?_
  refine tz_iload_n C_ 3 rfl rfl td_W_law_451 ?_
  refine tz_iconst C_ (v := 2) (by decide) td_W_law_452 ?_
  refine tz_iadd C_ td_W_law_453 ?_
  rw [show (nI i + 2 : Int32) = nI (i + 2) from nI_add i 2]
  refine tz_sld C_ hXs hbl hbA (k := i + 2) (by omega) (by omega) td_W_law_454 ?_
  refine tz_aload_n C_ 0 rfl rfl td_W_law_455 ?_
  refine tz_iload_n C_ 3 rfl rfl td_W_law_456 ?_
  refine tz_iconst C_ (v := 3) (by decide) td_W_law_457 ?_
  refine tz_iadd C_ td_W_law_458 ?_
  rw [show (nI i + 3 : Int32) = nI (i + 3) from nI_add i 3]
  refine tz_sld C_ hXs hbl hbA (k := i + 3) (by omega) (by omega) td_W_law_459 ?_
  refine tz_cV C_ tmi_M_write tw_880 tw_881 tw_879 hM9 rfl (As := [.int (xs (i + 1)), .int (xs (i + 2)), .int (xs (i + 3))]) (by exact (ct_M_write hM1 hW)) rfl (rest := [(.int (sp_write σ (xs (i + 1)) (xs (i + 2)) (xs (i + 3))).1)]) rfl ⟨rfl, rfl, by show cells + 0 ≤ 600000; omega, by show slots + 0 ≤ 7302249; omega, by decide, by decide⟩ (Nat.le_of_ble_eq_true rfl) td_W_law_460 (st1 := (.int (sp_write σ (xs (i + 1)) (xs (i + 2)) (xs (i + 3))).1) :: [(.int (sp_write σ (xs (i + 1)) (xs (i + 2)) (xs (i + 3))).1)]) rfl (fun f2 hF2 => ?_)
  obtain ⟨hM2, hq2⟩ := hF2
  have hX2 := hX1.fr (fun q a1 => hq2 q (by omega))
  refine tz_icmp_eq C_ td_W_law_463 (fun _ => ?_) (fun h => absurd rfl h)
  exact tz_widen (by omega) (by omega) (kk f2 _ _ ⟨hX2, hM2, wf_write hW⟩ hsz)

set_option maxHeartbeats 4000000 in
set_option maxRecDepth 100000 in
theorem lw_c_copy {p : Program} {l : Launch} {e : Env} {s : State} {m : MethodId} {args : Array Value} {below : List Frame} {meth : Method} {c : Code} {Q : State → Prop} {A : Nat → Prop} {D : va_G} {cs : Nat → ClassId} (C_ : tz_Cx p s m args c A D cs "TapeBenchLaw" code 4) {b L i B sz cells slots : Nat} {xs : Nat → Int32} {f : tz_PH} {σ : tz_SG} (hXs : va_X b L xs s s.heap) (hbl : b < s.heap.size) (hbA : ¬ A b) (hA : ∀ q, B ≤ q → A q) (hi : i + 6 ≤ L) (hL : L ≤ 3072) (hI : lw_I cs f B σ) (hsz : B + 188 ≤ sz) (hcl : cells + 1 ≤ 600000) (hsl : slots + 4 ≤ 7302249)
    (kk : ∀ (f' : tz_PH) (σ' : tz_SG) (sz' : Nat), lw_I cs f' B σ' → B + 188 ≤ sz' → tz_V p l e room_1 s m args below meth c Q A D 4 f' sz' (cells + 1) (slots + 4) 1244 [(0, .ref b), (1, .ref B), (2, .ref (B + 179)), (3, .int (nI i))] []) : tz_V p l e room_1 s m args below meth c Q A D 4 f sz cells slots 468 [(0, .ref b), (1, .ref B), (2, .ref (B + 179)), (3, .int (nI i))] [] := by
  obtain ⟨hX, hM, hW⟩ := id hI
  obtain ⟨fsB, hB9⟩ := hX.obj
  refine tz_aload_n C_ 1 rfl rfl td_W_law_468 ?_
  refine tz_aload_n C_ 0 rfl rfl td_W_law_469 ?_
  refine tz_iload_n C_ 3 rfl rfl td_W_law_470 ?_
  refine tz_iconst C_ (v := 1) (by decide) td_W_law_471 ?_
  refine tz_iadd C_ td_W_law_472 ?_
  rw [show (nI i + 1 : Int32) = nI (i + 1) from nI_add i 1]
  refine tz_sld C_ hXs hbl hbA (k := i + 1) (by omega) (by omega) td_W_law_473 ?_
  refine tz_aload_n C_ 0 rfl rfl td_W_law_474 ?_
  refine tz_iload_n C_ 3 rfl rfl td_W_law_475 ?_
  refine tz_iconst C_ (v := 2) (by decide) td_W_law_476 ?_
  refine tz_iadd C_ td_W_law_477 ?_
  rw [show (nI i + 2 : Int32) = nI (i + 2) from nI_add i 2]
  refine tz_sld C_ hXs hbl hbA (k := i + 2) (by omega) (by omega) td_W_law_478 ?_
  refine tz_aload_n C_ 0 rfl rfl td_W_law_479 ?_
  refine tz_iload_n C_ 3 rfl rfl td_W_law_480 ?_
  refine tz_iconst C_ (v := 3) (by decide) td_W_law_481 ?_
  refine tz_iadd C_ td_W_law_482 ?_
  rw [show (nI i + 3 : Int32) = nI (i + 3) from nI_add i 3]
  refine tz_sld C_ hXs hbl hbA (k := i + 3) (by omega) (by omega) td_W_law_483 ?_
  refine tz_aload_n C_ 0 rfl rfl td_W_law_484 ?_
  refine tz_iload_n C_ 3 rfl rfl td_W_law_485 ?_
  refine tz_iconst C_ (v := 4) (by decide) td_W_law_486 ?_
  refine tz_iadd C_ td_W_law_487 ?_
  rw [show (nI i + 4 : Int32) = nI (i + 4) from nI_add i 4]
  refine tz_sld C_ hXs hbl hbA (k := i + 4) (by omega) (by omega) td_W_law_488 ?_
  refine tz_aload_n C_ 0 rfl rfl td_W_law_489 ?_
  refine tz_iload_n C_ 3 rfl rfl td_W_law_490 ?_
  refine tz_iconst C_ (v := 5) (by decide) td_W_law_491 ?_
  refine tz_iadd C_ td_W_law_492 ?_
  rw [show (nI i + 5 : Int32) = nI (i + 5) from nI_add i 5]
  refine tz_sld C_ hXs hbl hbA (k := i + 5) (by omega) (by omega) td_W_law_493 ?_
  refine tz_cV C_ tmi_X_copy tw_434 tw_435 tw_433 hB9 rfl (As := [.int (xs (i + 1)), .int (xs (i + 2)), .int (xs (i + 3)), .int (xs (i + 4)), .int (xs (i + 5))]) (by exact (ct_X_copy hX hW (by omega))) rfl (rest := []) rfl ⟨rfl, rfl, by show cells + 0 ≤ 600000; omega, by show slots + 0 ≤ 7302249; omega, by decide, by decide⟩ (Nat.le_of_ble_eq_true rfl) td_W_law_494 (st1 := (.int (sp_copy σ (xs (i + 1)) (xs (i + 2)) (xs (i + 3)) (xs (i + 4)) (xs (i + 5))).1) :: []) rfl (fun f1 hF1 => ?_)
  obtain ⟨hX1, hq1⟩ := hF1
  have hM1 := hM.fr (fun q a1 => hq1 q (by omega))
  obtain ⟨fsM, hM9⟩ := hM1.obj
  refine tz_aload_n C_ 2 rfl rfl td_W_law_497 ?_
  refine tz_aload_n C_ 0 rfl rfl td_W_law_498 ?_
  refine tz_iload_n C_ 3 rfl rfl td_W_law_499 ?_
  refine tz_iconst C_ (v := 1) (by decide) td_W_law_500 ?_
  refine tz_iadd C_ td_W_law_501 ?_
  rw [show (nI i + 1 : Int32) = nI (i + 1) from nI_add i 1]
  refine tz_sld C_ hXs hbl hbA (k := i + 1) (by omega) (by omega) td_W_law_502 ?_
  refine tz_aload_n C_ 0 rfl rfl td_W_law_503 ?_
  refine tz_iload_n C_ 3 rfl rfl td_W_law_504 ?_
  refine tz_iconst C_ (v := 2) (by decide) td_W_law_505 ?_
  refine tz_iadd C_ td_W_law_506 ?_
  rw [show (nI i + 2 : Int32) = nI (i + 2) from nI_add i 2]
  refine tz_sld C_ hXs hbl hbA (k := i + 2) (by omega) (by omega) td_W_law_507 ?_
  refine tz_aload_n C_ 0 rfl rfl td_W_law_508 ?_
  refine tz_iload_n C_ 3 rfl rfl td_W_law_509 ?_
  refine tz_iconst C_ (v := 3) (by decide) td_W_law_510 ?_
  refine tz_iadd C_ td_W_law_511 ?_
  rw [show (nI i + 3 : Int32) = nI (i + 3) from nI_add i 3]
  refine tz_sld C_ hXs hbl hbA (k := i + 3) (by omega) (by omega) td_W_law_512 ?_
  refine tz_aload_n C_ 0 rfl rfl td_W_law_513 ?_
  refine tz_iload_n C_ 3 rfl rfl td_W_law_514 ?_
  refine tz_iconst C_ (v := 4) (by decide) td_W_law_515 ?_
  refine tz_iadd C_ td_W_law_516 ?_
  rw [show (nI i + 4 : Int32) = nI (i + 4) from nI_add i 4]
  refine tz_sld C_ hXs hbl hbA (k := i + 4) (by omega) (by omega) td_W_law_517 ?_
  refine tz_aload_n C_ 0 rfl rfl td_W_law_518 ?_
  refine tz_iload_n C_ 3 rfl rfl td_W_law_519 ?_
  refine tz_iconst C_ (v := 5) (by decide) td_W_law_520 ?_
  refine tz_iadd C_ td_W_law_521 ?_
  rw [show (nI i + 5 : Int32) = nI (i + 5) from nI_add i 5]
  refine tz_sld C_ hXs hbl hbA (k := i + 5) (by omega) (by omega) td_W_law_522 ?_
  refine tz_cV C_ tmi_M_copy tw_888 tw_889 tw_887 hM9 rfl (As := [.int (xs (i + 1)), .int (xs (i + 2)), .int (xs (i + 3)), .int (xs (i + 4)), .int (xs (i + 5))]) (by exact (ct_M_copy hM1 hW)) rfl (rest := [(.int (sp_copy σ (xs (i + 1)) (xs (i + 2)) (xs (i + 3)) (xs (i + 4)) (xs (i + 5))).1)]) rfl ⟨rfl, rfl, by show cells + 0 ≤ 600000; omega, by show slots + 0 ≤ 7302249; omega, by decide, by decide⟩ (Nat.le_of_ble_eq_true rfl) td_W_law_523 (st1 := (.int (sp_copy σ (xs (i + 1)) (xs (i + 2)) (xs (i + 3)) (xs (i + 4)) (xs (i + 5))).1) :: [(.int (sp_copy σ (xs (i + 1)) (xs (i + 2)) (xs (i + 3)) (xs (i + 4)) (xs (i + 5))).1)]) rfl (fun f2 hF2 => ?_)
  obtain ⟨hM2, hq2⟩ := hF2
  have hX2 := hX1.fr (fun q a1 => hq2 q (by omega))
  refine tz_icmp_eq C_ td_W_law_526 (fun _ => ?_) (fun h => absurd rfl h)
  exact tz_widen (by omega) (by omega) (kk f2 _ _ ⟨hX2, hM2, wf_copy hW⟩ hsz)

set_option maxHeartbeats 4000000 in
set_option maxRecDepth 100000 in
theorem lw_c_lay {p : Program} {l : Launch} {e : Env} {s : State} {m : MethodId} {args : Array Value} {below : List Frame} {meth : Method} {c : Code} {Q : State → Prop} {A : Nat → Prop} {D : va_G} {cs : Nat → ClassId} (C_ : tz_Cx p s m args c A D cs "TapeBenchLaw" code 4) {b L i B sz cells slots : Nat} {xs : Nat → Int32} {f : tz_PH} {σ : tz_SG} (hXs : va_X b L xs s s.heap) (hbl : b < s.heap.size) (hbA : ¬ A b) (hA : ∀ q, B ≤ q → A q) (hi : i + 6 ≤ L) (hL : L ≤ 3072) (hI : lw_I cs f B σ) (hsz : B + 188 ≤ sz) (hcl : cells + 1 ≤ 600000) (hsl : slots + 4 ≤ 7302249)
    (kk : ∀ (f' : tz_PH) (σ' : tz_SG) (sz' : Nat), lw_I cs f' B σ' → B + 188 ≤ sz' → tz_V p l e room_1 s m args below meth c Q A D 4 f' sz' (cells + 1) (slots + 4) 1244 [(0, .ref b), (1, .ref B), (2, .ref (B + 179)), (3, .int (nI i))] []) : tz_V p l e room_1 s m args below meth c Q A D 4 f sz cells slots 531 [(0, .ref b), (1, .ref B), (2, .ref (B + 179)), (3, .int (nI i))] [] := by
  obtain ⟨hX, hM, hW⟩ := id hI
  obtain ⟨fsB, hB9⟩ := hX.obj
  refine tz_aload_n C_ 1 rfl rfl td_W_law_531 ?_
  refine tz_aload_n C_ 0 rfl rfl td_W_law_532 ?_
  refine tz_iload_n C_ 3 rfl rfl td_W_law_533 ?_
  refine tz_iconst C_ (v := 1) (by decide) td_W_law_534 ?_
  refine tz_iadd C_ td_W_law_535 ?_
  rw [show (nI i + 1 : Int32) = nI (i + 1) from nI_add i 1]
  refine tz_sld C_ hXs hbl hbA (k := i + 1) (by omega) (by omega) td_W_law_536 ?_
  refine tz_aload_n C_ 0 rfl rfl td_W_law_537 ?_
  refine tz_iload_n C_ 3 rfl rfl td_W_law_538 ?_
  refine tz_iconst C_ (v := 2) (by decide) td_W_law_539 ?_
  refine tz_iadd C_ td_W_law_540 ?_
  rw [show (nI i + 2 : Int32) = nI (i + 2) from nI_add i 2]
  refine tz_sld C_ hXs hbl hbA (k := i + 2) (by omega) (by omega) td_W_law_541 ?_
  refine tz_cV C_ tmi_X_lay tw_449 tw_450 tw_448 hB9 rfl (As := [.int (xs (i + 1)), .int (xs (i + 2))]) (by exact (ct_X_lay hX hW (by omega))) rfl (rest := []) rfl ⟨rfl, rfl, by show cells + 0 ≤ 600000; omega, by show slots + 0 ≤ 7302249; omega, by decide, by decide⟩ (Nat.le_of_ble_eq_true rfl) td_W_law_542 (st1 := (.int (sp_lay σ (xs (i + 1)) (xs (i + 2))).1) :: []) rfl (fun f1 hF1 => ?_)
  obtain ⟨hX1, hq1⟩ := hF1
  have hM1 := hM.fr (fun q a1 => hq1 q (by omega))
  obtain ⟨fsM, hM9⟩ := hM1.obj
  refine tz_aload_n C_ 2 rfl rfl td_W_law_545 ?_
  refine tz_aload_n C_ 0 rfl rfl td_W_law_546 ?_
  refine tz_iload_n C_ 3 rfl rfl td_W_law_547 ?_
  refine tz_iconst C_ (v := 1) (by decide) td_W_law_548 ?_
  refine tz_iadd C_ td_W_law_549 ?_
  rw [show (nI i + 1 : Int32) = nI (i + 1) from nI_add i 1]
  refine tz_sld C_ hXs hbl hbA (k := i + 1) (by omega) (by omega) td_W_law_550 ?_
  refine tz_aload_n C_ 0 rfl rfl td_W_law_551 ?_
  refine tz_iload_n C_ 3 rfl rfl td_W_law_552 ?_
  refine tz_iconst C_ (v := 2) (by decide) td_W_law_553 ?_
  refine tz_iadd C_ td_W_law_554 ?_
  rw [show (nI i + 2 : Int32) = nI (i + 2) from nI_add i 2]
  refine tz_sld C_ hXs hbl hbA (k := i + 2) (by omega) (by omega) td_W_law_555 ?_
  refine tz_cV C_ tmi_M_lay tw_893 tw_894 tw_892 hM9 rfl (As := [.int (xs (i + 1)), .int (xs (i + 2))]) (by exact (ct_M_lay hM1 hW)) rfl (rest := [(.int (sp_lay σ (xs (i + 1)) (xs (i + 2))).1)]) rfl ⟨rfl, rfl, by show cells + 0 ≤ 600000; omega, by show slots + 0 ≤ 7302249; omega, by decide, by decide⟩ (Nat.le_of_ble_eq_true rfl) td_W_law_556 (st1 := (.int (sp_lay σ (xs (i + 1)) (xs (i + 2))).1) :: [(.int (sp_lay σ (xs (i + 1)) (xs (i + 2))).1)]) rfl (fun f2 hF2 => ?_)
  obtain ⟨hM2, hq2⟩ := hF2
  have hX2 := hX1.fr (fun q a1 => hq2 q (by omega))
  refine tz_icmp_eq C_ td_W_law_559 (fun _ => ?_) (fun h => absurd rfl h)
  exact tz_widen (by omega) (by omega) (kk f2 _ _ ⟨hX2, hM2, wf_lay hW⟩ hsz)

set_option maxHeartbeats 4000000 in
set_option maxRecDepth 100000 in
theorem lw_c_layer {p : Program} {l : Launch} {e : Env} {s : State} {m : MethodId} {args : Array Value} {below : List Frame} {meth : Method} {c : Code} {Q : State → Prop} {A : Nat → Prop} {D : va_G} {cs : Nat → ClassId} (C_ : tz_Cx p s m args c A D cs "TapeBenchLaw" code 4) {b L i B sz cells slots : Nat} {xs : Nat → Int32} {f : tz_PH} {σ : tz_SG} (hXs : va_X b L xs s s.heap) (hbl : b < s.heap.size) (hbA : ¬ A b) (hA : ∀ q, B ≤ q → A q) (hi : i + 6 ≤ L) (hL : L ≤ 3072) (hI : lw_I cs f B σ) (hsz : B + 188 ≤ sz) (hcl : cells + 1 ≤ 600000) (hsl : slots + 4 ≤ 7302249)
    (kk : ∀ (f' : tz_PH) (σ' : tz_SG) (sz' : Nat), lw_I cs f' B σ' → B + 188 ≤ sz' → tz_V p l e room_1 s m args below meth c Q A D 4 f' sz' (cells + 1) (slots + 4) 1244 [(0, .ref b), (1, .ref B), (2, .ref (B + 179)), (3, .int (nI i))] []) : tz_V p l e room_1 s m args below meth c Q A D 4 f sz cells slots 564 [(0, .ref b), (1, .ref B), (2, .ref (B + 179)), (3, .int (nI i))] [] := by
  obtain ⟨hX, hM, hW⟩ := id hI
  obtain ⟨fsB, hB9⟩ := hX.obj
  by_cases hc : tz_can (xs (i + 1)) (xs (i + 2)) (xs (i + 3)) ∧ tz_nlr σ < 8
  · skip
    refine tz_aload_n C_ 1 rfl rfl td_W_law_564 ?_
    refine tz_aload_n C_ 0 rfl rfl td_W_law_565 ?_
    refine tz_iload_n C_ 3 rfl rfl td_W_law_566 ?_
    refine tz_iconst C_ (v := 1) (by decide) td_W_law_567 ?_
    refine tz_iadd C_ td_W_law_568 ?_
    rw [show (nI i + 1 : Int32) = nI (i + 1) from nI_add i 1]
    refine tz_sld C_ hXs hbl hbA (k := i + 1) (by omega) (by omega) td_W_law_569 ?_
    refine tz_aload_n C_ 0 rfl rfl td_W_law_570 ?_
    refine tz_iload_n C_ 3 rfl rfl td_W_law_571 ?_
    refine tz_iconst C_ (v := 2) (by decide) td_W_law_572 ?_
    refine tz_iadd C_ td_W_law_573 ?_
    rw [show (nI i + 2 : Int32) = nI (i + 2) from nI_add i 2]
    refine tz_sld C_ hXs hbl hbA (k := i + 2) (by omega) (by omega) td_W_law_574 ?_
    refine tz_aload_n C_ 0 rfl rfl td_W_law_575 ?_
    refine tz_iload_n C_ 3 rfl rfl td_W_law_576 ?_
    refine tz_iconst C_ (v := 3) (by decide) td_W_law_577 ?_
    refine tz_iadd C_ td_W_law_578 ?_
    rw [show (nI i + 3 : Int32) = nI (i + 3) from nI_add i 3]
    refine tz_sld C_ hXs hbl hbA (k := i + 3) (by omega) (by omega) td_W_law_579 ?_
    refine tz_cVa C_ tmi_X_layer tw_467 tw_468 tw_466 hB9 rfl (As := [.int (xs (i + 1)), .int (xs (i + 2)), .int (xs (i + 3))]) (by exact (ct_X_layer1 hX hW (by omega) hc.1 hc.2 (fun q hq => hA q (by omega)) hsz)) rfl (rest := []) rfl ⟨rfl, rfl, by show cells + 1 ≤ 600000; omega, by show slots + 4 ≤ 7302249; omega, by decide, by decide⟩ (Nat.le_of_ble_eq_true rfl) td_W_law_580 (st1 := (.int (sp_layer σ (xs (i + 1)) (xs (i + 2)) (xs (i + 3))).1) :: []) rfl (fun f1 hF1 => ?_)
    obtain ⟨hX1, hq1⟩ := hF1
    have hM1 := hM.fr (fun q a1 => hq1 q (by omega))
    obtain ⟨fsM, hM9⟩ := hM1.obj
    refine tz_aload_n C_ 2 rfl rfl td_W_law_583 ?_
    refine tz_aload_n C_ 0 rfl rfl td_W_law_584 ?_
    refine tz_iload_n C_ 3 rfl rfl td_W_law_585 ?_
    refine tz_iconst C_ (v := 1) (by decide) td_W_law_586 ?_
    refine tz_iadd C_ td_W_law_587 ?_
    rw [show (nI i + 1 : Int32) = nI (i + 1) from nI_add i 1]
    refine tz_sld C_ hXs hbl hbA (k := i + 1) (by omega) (by omega) td_W_law_588 ?_
    refine tz_aload_n C_ 0 rfl rfl td_W_law_589 ?_
    refine tz_iload_n C_ 3 rfl rfl td_W_law_590 ?_
    refine tz_iconst C_ (v := 2) (by decide) td_W_law_591 ?_
    refine tz_iadd C_ td_W_law_592 ?_
    rw [show (nI i + 2 : Int32) = nI (i + 2) from nI_add i 2]
    refine tz_sld C_ hXs hbl hbA (k := i + 2) (by omega) (by omega) td_W_law_593 ?_
    refine tz_aload_n C_ 0 rfl rfl td_W_law_594 ?_
    refine tz_iload_n C_ 3 rfl rfl td_W_law_595 ?_
    refine tz_iconst C_ (v := 3) (by decide) td_W_law_596 ?_
    refine tz_iadd C_ td_W_law_597 ?_
    rw [show (nI i + 3 : Int32) = nI (i + 3) from nI_add i 3]
    refine tz_sld C_ hXs hbl hbA (k := i + 3) (by omega) (by omega) td_W_law_598 ?_
    refine tz_cV C_ tmi_M_layer tw_901 tw_902 tw_900 hM9 rfl (As := [.int (xs (i + 1)), .int (xs (i + 2)), .int (xs (i + 3))]) (by exact (ct_M_layer hM1 hW)) rfl (rest := [(.int (sp_layer σ (xs (i + 1)) (xs (i + 2)) (xs (i + 3))).1)]) rfl ⟨rfl, rfl, by show (cells + 1) + 0 ≤ 600000; omega, by show (slots + 4) + 0 ≤ 7302249; omega, by decide, by decide⟩ (Nat.le_of_ble_eq_true rfl) td_W_law_599 (st1 := (.int (sp_layer σ (xs (i + 1)) (xs (i + 2)) (xs (i + 3))).1) :: [(.int (sp_layer σ (xs (i + 1)) (xs (i + 2)) (xs (i + 3))).1)]) rfl (fun f2 hF2 => ?_)
    obtain ⟨hM2, hq2⟩ := hF2
    have hX2 := hX1.fr (fun q a1 => hq2 q (by omega))
    refine tz_icmp_eq C_ td_W_law_602 (fun _ => ?_) (fun h => absurd rfl h)
    exact kk f2 _ _ ⟨hX2, hM2, wf_layer hW⟩ (by omega)
  · skip
    refine tz_aload_n C_ 1 rfl rfl td_W_law_564 ?_
    refine tz_aload_n C_ 0 rfl rfl td_W_law_565 ?_
    refine tz_iload_n C_ 3 rfl rfl td_W_law_566 ?_
    refine tz_iconst C_ (v := 1) (by decide) td_W_law_567 ?_
    refine tz_iadd C_ td_W_law_568 ?_
    rw [show (nI i + 1 : Int32) = nI (i + 1) from nI_add i 1]
    refine tz_sld C_ hXs hbl hbA (k := i + 1) (by omega) (by omega) td_W_law_569 ?_
    refine tz_aload_n C_ 0 rfl rfl td_W_law_570 ?_
    refine tz_iload_n C_ 3 rfl rfl td_W_law_571 ?_
    refine tz_iconst C_ (v := 2) (by decide) td_W_law_572 ?_
    refine tz_iadd C_ td_W_law_573 ?_
    rw [show (nI i + 2 : Int32) = nI (i + 2) from nI_add i 2]
    refine tz_sld C_ hXs hbl hbA (k := i + 2) (by omega) (by omega) td_W_law_574 ?_
    refine tz_aload_n C_ 0 rfl rfl td_W_law_575 ?_
    refine tz_iload_n C_ 3 rfl rfl td_W_law_576 ?_
    refine tz_iconst C_ (v := 3) (by decide) td_W_law_577 ?_
    refine tz_iadd C_ td_W_law_578 ?_
    rw [show (nI i + 3 : Int32) = nI (i + 3) from nI_add i 3]
    refine tz_sld C_ hXs hbl hbA (k := i + 3) (by omega) (by omega) td_W_law_579 ?_
    refine tz_cV C_ tmi_X_layer tw_467 tw_468 tw_466 hB9 rfl (As := [.int (xs (i + 1)), .int (xs (i + 2)), .int (xs (i + 3))]) (by exact (ct_X_layer hX hW (by omega) hc)) rfl (rest := []) rfl ⟨rfl, rfl, by show cells + 0 ≤ 600000; omega, by show slots + 0 ≤ 7302249; omega, by decide, by decide⟩ (Nat.le_of_ble_eq_true rfl) td_W_law_580 (st1 := (.int (sp_layer σ (xs (i + 1)) (xs (i + 2)) (xs (i + 3))).1) :: []) rfl (fun f1 hF1 => ?_)
    obtain ⟨hX1, hq1⟩ := hF1
    have hM1 := hM.fr (fun q a1 => hq1 q (by omega))
    obtain ⟨fsM, hM9⟩ := hM1.obj
    refine tz_aload_n C_ 2 rfl rfl td_W_law_583 ?_
    refine tz_aload_n C_ 0 rfl rfl td_W_law_584 ?_
    refine tz_iload_n C_ 3 rfl rfl td_W_law_585 ?_
    refine tz_iconst C_ (v := 1) (by decide) td_W_law_586 ?_
    refine tz_iadd C_ td_W_law_587 ?_
    rw [show (nI i + 1 : Int32) = nI (i + 1) from nI_add i 1]
    refine tz_sld C_ hXs hbl hbA (k := i + 1) (by omega) (by omega) td_W_law_588 ?_
    refine tz_aload_n C_ 0 rfl rfl td_W_law_589 ?_
    refine tz_iload_n C_ 3 rfl rfl td_W_law_590 ?_
    refine tz_iconst C_ (v := 2) (by decide) td_W_law_591 ?_
    refine tz_iadd C_ td_W_law_592 ?_
    rw [show (nI i + 2 : Int32) = nI (i + 2) from nI_add i 2]
    refine tz_sld C_ hXs hbl hbA (k := i + 2) (by omega) (by omega) td_W_law_593 ?_
    refine tz_aload_n C_ 0 rfl rfl td_W_law_594 ?_
    refine tz_iload_n C_ 3 rfl rfl td_W_law_595 ?_
    refine tz_iconst C_ (v := 3) (by decide) td_W_law_596 ?_
    refine tz_iadd C_ td_W_law_597 ?_
    rw [show (nI i + 3 : Int32) = nI (i + 3) from nI_add i 3]
    refine tz_sld C_ hXs hbl hbA (k := i + 3) (by omega) (by omega) td_W_law_598 ?_
    refine tz_cV C_ tmi_M_layer tw_901 tw_902 tw_900 hM9 rfl (As := [.int (xs (i + 1)), .int (xs (i + 2)), .int (xs (i + 3))]) (by exact (ct_M_layer hM1 hW)) rfl (rest := [(.int (sp_layer σ (xs (i + 1)) (xs (i + 2)) (xs (i + 3))).1)]) rfl ⟨rfl, rfl, by show cells + 0 ≤ 600000; omega, by show slots + 0 ≤ 7302249; omega, by decide, by decide⟩ (Nat.le_of_ble_eq_true rfl) td_W_law_599 (st1 := (.int (sp_layer σ (xs (i + 1)) (xs (i + 2)) (xs (i + 3))).1) :: [(.int (sp_layer σ (xs (i + 1)) (xs (i + 2)) (xs (i + 3))).1)]) rfl (fun f2 hF2 => ?_)
    obtain ⟨hM2, hq2⟩ := hF2
    have hX2 := hX1.fr (fun q a1 => hq2 q (by omega))
    refine tz_icmp_eq C_ td_W_law_602 (fun _ => ?_) (fun h => absurd rfl h)
    exact tz_widen (by omega) (by omega) (kk f2 _ _ ⟨hX2, hM2, wf_layer hW⟩ hsz)

set_option maxHeartbeats 4000000 in
set_option maxRecDepth 100000 in
theorem lw_c_turnOn {p : Program} {l : Launch} {e : Env} {s : State} {m : MethodId} {args : Array Value} {below : List Frame} {meth : Method} {c : Code} {Q : State → Prop} {A : Nat → Prop} {D : va_G} {cs : Nat → ClassId} (C_ : tz_Cx p s m args c A D cs "TapeBenchLaw" code 4) {b L i B sz cells slots : Nat} {xs : Nat → Int32} {f : tz_PH} {σ : tz_SG} (hXs : va_X b L xs s s.heap) (hbl : b < s.heap.size) (hbA : ¬ A b) (hA : ∀ q, B ≤ q → A q) (hi : i + 6 ≤ L) (hL : L ≤ 3072) (hI : lw_I cs f B σ) (hsz : B + 188 ≤ sz) (hcl : cells + 1 ≤ 600000) (hsl : slots + 4 ≤ 7302249)
    (kk : ∀ (f' : tz_PH) (σ' : tz_SG) (sz' : Nat), lw_I cs f' B σ' → B + 188 ≤ sz' → tz_V p l e room_1 s m args below meth c Q A D 4 f' sz' (cells + 1) (slots + 4) 1244 [(0, .ref b), (1, .ref B), (2, .ref (B + 179)), (3, .int (nI i))] []) : tz_V p l e room_1 s m args below meth c Q A D 4 f sz cells slots 607 [(0, .ref b), (1, .ref B), (2, .ref (B + 179)), (3, .int (nI i))] [] := by
  obtain ⟨hX, hM, hW⟩ := id hI
  obtain ⟨fsB, hB9⟩ := hX.obj
  by_cases hz : xs (i + 2) = 0
  · skip
    by_cases hc : ∃ k, tz_lk σ (xs (i + 1)) = some k ∧ ¬ (tz_lyr σ k).2.2.2 = 0
    · obtain ⟨k9, hk9, hne9⟩ := hc
      refine tz_aload_n C_ 1 rfl rfl td_W_law_607 ?_
      refine tz_aload_n C_ 0 rfl rfl td_W_law_608 ?_
      refine tz_iload_n C_ 3 rfl rfl td_W_law_609 ?_
      refine tz_iconst C_ (v := 1) (by decide) td_W_law_610 ?_
      refine tz_iadd C_ td_W_law_611 ?_
      rw [show (nI i + 1 : Int32) = nI (i + 1) from nI_add i 1]
      refine tz_sld C_ hXs hbl hbA (k := i + 1) (by omega) (by omega) td_W_law_612 ?_
      refine tz_aload_n C_ 0 rfl rfl td_W_law_613 ?_
      refine tz_iload_n C_ 3 rfl rfl td_W_law_614 ?_
      refine tz_iconst C_ (v := 2) (by decide) td_W_law_615 ?_
      refine tz_iadd C_ td_W_law_616 ?_
      rw [show (nI i + 2 : Int32) = nI (i + 2) from nI_add i 2]
      refine tz_sld C_ hXs hbl hbA (k := i + 2) (by omega) (by omega) td_W_law_617 ?_
      refine tz_if_eq C_ td_W_law_618 (fun _ => ?_) (fun h => absurd hz h)
      refine tz_iconst C_ (v := 0) (by decide) td_W_law_625 ?_
      refine tz_cVa C_ tmi_X_turnOn tw_518 tw_519 tw_517 hB9 rfl (As := [.int (xs (i + 1)), .int (0)]) (by exact (ct_X_turnOn1 hX hW (by omega) hk9 hne9 (Or.inl rfl) (fun q hq => hA q (by omega)) hsz)) rfl (rest := []) rfl ⟨rfl, rfl, by show cells + 1 ≤ 600000; omega, by show slots + 4 ≤ 7302249; omega, by decide, by decide⟩ (Nat.le_of_ble_eq_true rfl) td_W_law_626 (st1 := (.int (sp_turnOn σ (xs (i + 1)) (0)).1) :: []) rfl (fun f1 hF1 => ?_)
      obtain ⟨hX1, hq1⟩ := hF1
      have hM1 := hM.fr (fun q a1 => hq1 q (by omega))
      obtain ⟨fsM, hM9⟩ := hM1.obj
      refine tz_aload_n C_ 2 rfl rfl td_W_law_629 ?_
      refine tz_aload_n C_ 0 rfl rfl td_W_law_630 ?_
      refine tz_iload_n C_ 3 rfl rfl td_W_law_631 ?_
      refine tz_iconst C_ (v := 1) (by decide) td_W_law_632 ?_
      refine tz_iadd C_ td_W_law_633 ?_
      rw [show (nI i + 1 : Int32) = nI (i + 1) from nI_add i 1]
      refine tz_sld C_ hXs hbl hbA (k := i + 1) (by omega) (by omega) td_W_law_634 ?_
      refine tz_aload_n C_ 0 rfl rfl td_W_law_635 ?_
      refine tz_iload_n C_ 3 rfl rfl td_W_law_636 ?_
      refine tz_iconst C_ (v := 2) (by decide) td_W_law_637 ?_
      refine tz_iadd C_ td_W_law_638 ?_
      rw [show (nI i + 2 : Int32) = nI (i + 2) from nI_add i 2]
      refine tz_sld C_ hXs hbl hbA (k := i + 2) (by omega) (by omega) td_W_law_639 ?_
      refine tz_if_eq C_ td_W_law_640 (fun _ => ?_) (fun h => absurd hz h)
      refine tz_iconst C_ (v := 0) (by decide) td_W_law_647 ?_
      refine tz_cV C_ tmi_M_turnOn tw_917 tw_918 tw_916 hM9 rfl (As := [.int (xs (i + 1)), .int (0)]) (by exact (ct_M_turnOn hM1 hW (Or.inl rfl))) rfl (rest := [(.int (sp_turnOn σ (xs (i + 1)) (0)).1)]) rfl ⟨rfl, rfl, by show (cells + 1) + 0 ≤ 600000; omega, by show (slots + 4) + 0 ≤ 7302249; omega, by decide, by decide⟩ (Nat.le_of_ble_eq_true rfl) td_W_law_648 (st1 := (.int (sp_turnOn σ (xs (i + 1)) (0)).1) :: [(.int (sp_turnOn σ (xs (i + 1)) (0)).1)]) rfl (fun f2 hF2 => ?_)
      obtain ⟨hM2, hq2⟩ := hF2
      have hX2 := hX1.fr (fun q a1 => hq2 q (by omega))
      refine tz_icmp_eq C_ td_W_law_651 (fun _ => ?_) (fun h => absurd rfl h)
      exact kk f2 _ _ ⟨hX2, hM2, wf_turnOn (Or.inl rfl) hW⟩ (by omega)
    · have hc9 : ∀ k, tz_lk σ (xs (i + 1)) = some k → (tz_lyr σ k).2.2.2 = 0 := fun k hk => Classical.not_not.mp (fun z => hc ⟨k, hk, z⟩)
      refine tz_aload_n C_ 1 rfl rfl td_W_law_607 ?_
      refine tz_aload_n C_ 0 rfl rfl td_W_law_608 ?_
      refine tz_iload_n C_ 3 rfl rfl td_W_law_609 ?_
      refine tz_iconst C_ (v := 1) (by decide) td_W_law_610 ?_
      refine tz_iadd C_ td_W_law_611 ?_
      rw [show (nI i + 1 : Int32) = nI (i + 1) from nI_add i 1]
      refine tz_sld C_ hXs hbl hbA (k := i + 1) (by omega) (by omega) td_W_law_612 ?_
      refine tz_aload_n C_ 0 rfl rfl td_W_law_613 ?_
      refine tz_iload_n C_ 3 rfl rfl td_W_law_614 ?_
      refine tz_iconst C_ (v := 2) (by decide) td_W_law_615 ?_
      refine tz_iadd C_ td_W_law_616 ?_
      rw [show (nI i + 2 : Int32) = nI (i + 2) from nI_add i 2]
      refine tz_sld C_ hXs hbl hbA (k := i + 2) (by omega) (by omega) td_W_law_617 ?_
      refine tz_if_eq C_ td_W_law_618 (fun _ => ?_) (fun h => absurd hz h)
      refine tz_iconst C_ (v := 0) (by decide) td_W_law_625 ?_
      refine tz_cV C_ tmi_X_turnOn tw_518 tw_519 tw_517 hB9 rfl (As := [.int (xs (i + 1)), .int (0)]) (by exact (ct_X_turnOn hX hW (by omega) hc9)) rfl (rest := []) rfl ⟨rfl, rfl, by show cells + 0 ≤ 600000; omega, by show slots + 0 ≤ 7302249; omega, by decide, by decide⟩ (Nat.le_of_ble_eq_true rfl) td_W_law_626 (st1 := (.int (sp_turnOn σ (xs (i + 1)) (0)).1) :: []) rfl (fun f1 hF1 => ?_)
      obtain ⟨hX1, hq1⟩ := hF1
      have hM1 := hM.fr (fun q a1 => hq1 q (by omega))
      obtain ⟨fsM, hM9⟩ := hM1.obj
      refine tz_aload_n C_ 2 rfl rfl td_W_law_629 ?_
      refine tz_aload_n C_ 0 rfl rfl td_W_law_630 ?_
      refine tz_iload_n C_ 3 rfl rfl td_W_law_631 ?_
      refine tz_iconst C_ (v := 1) (by decide) td_W_law_632 ?_
      refine tz_iadd C_ td_W_law_633 ?_
      rw [show (nI i + 1 : Int32) = nI (i + 1) from nI_add i 1]
      refine tz_sld C_ hXs hbl hbA (k := i + 1) (by omega) (by omega) td_W_law_634 ?_
      refine tz_aload_n C_ 0 rfl rfl td_W_law_635 ?_
      refine tz_iload_n C_ 3 rfl rfl td_W_law_636 ?_
      refine tz_iconst C_ (v := 2) (by decide) td_W_law_637 ?_
      refine tz_iadd C_ td_W_law_638 ?_
      rw [show (nI i + 2 : Int32) = nI (i + 2) from nI_add i 2]
      refine tz_sld C_ hXs hbl hbA (k := i + 2) (by omega) (by omega) td_W_law_639 ?_
      refine tz_if_eq C_ td_W_law_640 (fun _ => ?_) (fun h => absurd hz h)
      refine tz_iconst C_ (v := 0) (by decide) td_W_law_647 ?_
      refine tz_cV C_ tmi_M_turnOn tw_917 tw_918 tw_916 hM9 rfl (As := [.int (xs (i + 1)), .int (0)]) (by exact (ct_M_turnOn hM1 hW (Or.inl rfl))) rfl (rest := [(.int (sp_turnOn σ (xs (i + 1)) (0)).1)]) rfl ⟨rfl, rfl, by show cells + 0 ≤ 600000; omega, by show slots + 0 ≤ 7302249; omega, by decide, by decide⟩ (Nat.le_of_ble_eq_true rfl) td_W_law_648 (st1 := (.int (sp_turnOn σ (xs (i + 1)) (0)).1) :: [(.int (sp_turnOn σ (xs (i + 1)) (0)).1)]) rfl (fun f2 hF2 => ?_)
      obtain ⟨hM2, hq2⟩ := hF2
      have hX2 := hX1.fr (fun q a1 => hq2 q (by omega))
      refine tz_icmp_eq C_ td_W_law_651 (fun _ => ?_) (fun h => absurd rfl h)
      exact tz_widen (by omega) (by omega) (kk f2 _ _ ⟨hX2, hM2, wf_turnOn (Or.inl rfl) hW⟩ hsz)
  · skip
    by_cases hc : ∃ k, tz_lk σ (xs (i + 1)) = some k ∧ ¬ (tz_lyr σ k).2.2.2 = 1
    · obtain ⟨k9, hk9, hne9⟩ := hc
      refine tz_aload_n C_ 1 rfl rfl td_W_law_607 ?_
      refine tz_aload_n C_ 0 rfl rfl td_W_law_608 ?_
      refine tz_iload_n C_ 3 rfl rfl td_W_law_609 ?_
      refine tz_iconst C_ (v := 1) (by decide) td_W_law_610 ?_
      refine tz_iadd C_ td_W_law_611 ?_
      rw [show (nI i + 1 : Int32) = nI (i + 1) from nI_add i 1]
      refine tz_sld C_ hXs hbl hbA (k := i + 1) (by omega) (by omega) td_W_law_612 ?_
      refine tz_aload_n C_ 0 rfl rfl td_W_law_613 ?_
      refine tz_iload_n C_ 3 rfl rfl td_W_law_614 ?_
      refine tz_iconst C_ (v := 2) (by decide) td_W_law_615 ?_
      refine tz_iadd C_ td_W_law_616 ?_
      rw [show (nI i + 2 : Int32) = nI (i + 2) from nI_add i 2]
      refine tz_sld C_ hXs hbl hbA (k := i + 2) (by omega) (by omega) td_W_law_617 ?_
      refine tz_if_eq C_ td_W_law_618 (fun h => absurd h hz) (fun _ => ?_)
      refine tz_iconst C_ (v := 1) (by decide) td_W_law_621 ?_
      refine tz_goto C_ td_W_law_622 ?_
      refine tz_cVa C_ tmi_X_turnOn tw_518 tw_519 tw_517 hB9 rfl (As := [.int (xs (i + 1)), .int (1)]) (by exact (ct_X_turnOn1 hX hW (by omega) hk9 hne9 (Or.inr rfl) (fun q hq => hA q (by omega)) hsz)) rfl (rest := []) rfl ⟨rfl, rfl, by show cells + 1 ≤ 600000; omega, by show slots + 4 ≤ 7302249; omega, by decide, by decide⟩ (Nat.le_of_ble_eq_true rfl) td_W_law_626 (st1 := (.int (sp_turnOn σ (xs (i + 1)) (1)).1) :: []) rfl (fun f1 hF1 => ?_)
      obtain ⟨hX1, hq1⟩ := hF1
      have hM1 := hM.fr (fun q a1 => hq1 q (by omega))
      obtain ⟨fsM, hM9⟩ := hM1.obj
      refine tz_aload_n C_ 2 rfl rfl td_W_law_629 ?_
      refine tz_aload_n C_ 0 rfl rfl td_W_law_630 ?_
      refine tz_iload_n C_ 3 rfl rfl td_W_law_631 ?_
      refine tz_iconst C_ (v := 1) (by decide) td_W_law_632 ?_
      refine tz_iadd C_ td_W_law_633 ?_
      rw [show (nI i + 1 : Int32) = nI (i + 1) from nI_add i 1]
      refine tz_sld C_ hXs hbl hbA (k := i + 1) (by omega) (by omega) td_W_law_634 ?_
      refine tz_aload_n C_ 0 rfl rfl td_W_law_635 ?_
      refine tz_iload_n C_ 3 rfl rfl td_W_law_636 ?_
      refine tz_iconst C_ (v := 2) (by decide) td_W_law_637 ?_
      refine tz_iadd C_ td_W_law_638 ?_
      rw [show (nI i + 2 : Int32) = nI (i + 2) from nI_add i 2]
      refine tz_sld C_ hXs hbl hbA (k := i + 2) (by omega) (by omega) td_W_law_639 ?_
      refine tz_if_eq C_ td_W_law_640 (fun h => absurd h hz) (fun _ => ?_)
      refine tz_iconst C_ (v := 1) (by decide) td_W_law_643 ?_
      refine tz_goto C_ td_W_law_644 ?_
      refine tz_cV C_ tmi_M_turnOn tw_917 tw_918 tw_916 hM9 rfl (As := [.int (xs (i + 1)), .int (1)]) (by exact (ct_M_turnOn hM1 hW (Or.inr rfl))) rfl (rest := [(.int (sp_turnOn σ (xs (i + 1)) (1)).1)]) rfl ⟨rfl, rfl, by show (cells + 1) + 0 ≤ 600000; omega, by show (slots + 4) + 0 ≤ 7302249; omega, by decide, by decide⟩ (Nat.le_of_ble_eq_true rfl) td_W_law_648 (st1 := (.int (sp_turnOn σ (xs (i + 1)) (1)).1) :: [(.int (sp_turnOn σ (xs (i + 1)) (1)).1)]) rfl (fun f2 hF2 => ?_)
      obtain ⟨hM2, hq2⟩ := hF2
      have hX2 := hX1.fr (fun q a1 => hq2 q (by omega))
      refine tz_icmp_eq C_ td_W_law_651 (fun _ => ?_) (fun h => absurd rfl h)
      exact kk f2 _ _ ⟨hX2, hM2, wf_turnOn (Or.inr rfl) hW⟩ (by omega)
    · have hc9 : ∀ k, tz_lk σ (xs (i + 1)) = some k → (tz_lyr σ k).2.2.2 = 1 := fun k hk => Classical.not_not.mp (fun z => hc ⟨k, hk, z⟩)
      refine tz_aload_n C_ 1 rfl rfl td_W_law_607 ?_
      refine tz_aload_n C_ 0 rfl rfl td_W_law_608 ?_
      refine tz_iload_n C_ 3 rfl rfl td_W_law_609 ?_
      refine tz_iconst C_ (v := 1) (by decide) td_W_law_610 ?_
      refine tz_iadd C_ td_W_law_611 ?_
      rw [show (nI i + 1 : Int32) = nI (i + 1) from nI_add i 1]
      refine tz_sld C_ hXs hbl hbA (k := i + 1) (by omega) (by omega) td_W_law_612 ?_
      refine tz_aload_n C_ 0 rfl rfl td_W_law_613 ?_
      refine tz_iload_n C_ 3 rfl rfl td_W_law_614 ?_
      refine tz_iconst C_ (v := 2) (by decide) td_W_law_615 ?_
      refine tz_iadd C_ td_W_law_616 ?_
      rw [show (nI i + 2 : Int32) = nI (i + 2) from nI_add i 2]
      refine tz_sld C_ hXs hbl hbA (k := i + 2) (by omega) (by omega) td_W_law_617 ?_
      refine tz_if_eq C_ td_W_law_618 (fun h => absurd h hz) (fun _ => ?_)
      refine tz_iconst C_ (v := 1) (by decide) td_W_law_621 ?_
      refine tz_goto C_ td_W_law_622 ?_
      refine tz_cV C_ tmi_X_turnOn tw_518 tw_519 tw_517 hB9 rfl (As := [.int (xs (i + 1)), .int (1)]) (by exact (ct_X_turnOn hX hW (by omega) hc9)) rfl (rest := []) rfl ⟨rfl, rfl, by show cells + 0 ≤ 600000; omega, by show slots + 0 ≤ 7302249; omega, by decide, by decide⟩ (Nat.le_of_ble_eq_true rfl) td_W_law_626 (st1 := (.int (sp_turnOn σ (xs (i + 1)) (1)).1) :: []) rfl (fun f1 hF1 => ?_)
      obtain ⟨hX1, hq1⟩ := hF1
      have hM1 := hM.fr (fun q a1 => hq1 q (by omega))
      obtain ⟨fsM, hM9⟩ := hM1.obj
      refine tz_aload_n C_ 2 rfl rfl td_W_law_629 ?_
      refine tz_aload_n C_ 0 rfl rfl td_W_law_630 ?_
      refine tz_iload_n C_ 3 rfl rfl td_W_law_631 ?_
      refine tz_iconst C_ (v := 1) (by decide) td_W_law_632 ?_
      refine tz_iadd C_ td_W_law_633 ?_
      rw [show (nI i + 1 : Int32) = nI (i + 1) from nI_add i 1]
      refine tz_sld C_ hXs hbl hbA (k := i + 1) (by omega) (by omega) td_W_law_634 ?_
      refine tz_aload_n C_ 0 rfl rfl td_W_law_635 ?_
      refine tz_iload_n C_ 3 rfl rfl td_W_law_636 ?_
      refine tz_iconst C_ (v := 2) (by decide) td_W_law_637 ?_
      refine tz_iadd C_ td_W_law_638 ?_
      rw [show (nI i + 2 : Int32) = nI (i + 2) from nI_add i 2]
      refine tz_sld C_ hXs hbl hbA (k := i + 2) (by omega) (by omega) td_W_law_639 ?_
      refine tz_if_eq C_ td_W_law_640 (fun h => absurd h hz) (fun _ => ?_)
      refine tz_iconst C_ (v := 1) (by decide) td_W_law_643 ?_
      refine tz_goto C_ td_W_law_644 ?_
      refine tz_cV C_ tmi_M_turnOn tw_917 tw_918 tw_916 hM9 rfl (As := [.int (xs (i + 1)), .int (1)]) (by exact (ct_M_turnOn hM1 hW (Or.inr rfl))) rfl (rest := [(.int (sp_turnOn σ (xs (i + 1)) (1)).1)]) rfl ⟨rfl, rfl, by show cells + 0 ≤ 600000; omega, by show slots + 0 ≤ 7302249; omega, by decide, by decide⟩ (Nat.le_of_ble_eq_true rfl) td_W_law_648 (st1 := (.int (sp_turnOn σ (xs (i + 1)) (1)).1) :: [(.int (sp_turnOn σ (xs (i + 1)) (1)).1)]) rfl (fun f2 hF2 => ?_)
      obtain ⟨hM2, hq2⟩ := hF2
      have hX2 := hX1.fr (fun q a1 => hq2 q (by omega))
      refine tz_icmp_eq C_ td_W_law_651 (fun _ => ?_) (fun h => absurd rfl h)
      exact tz_widen (by omega) (by omega) (kk f2 _ _ ⟨hX2, hM2, wf_turnOn (Or.inr rfl) hW⟩ hsz)

set_option maxHeartbeats 4000000 in
set_option maxRecDepth 100000 in
theorem lw_c_move {p : Program} {l : Launch} {e : Env} {s : State} {m : MethodId} {args : Array Value} {below : List Frame} {meth : Method} {c : Code} {Q : State → Prop} {A : Nat → Prop} {D : va_G} {cs : Nat → ClassId} (C_ : tz_Cx p s m args c A D cs "TapeBenchLaw" code 4) {b L i B sz cells slots : Nat} {xs : Nat → Int32} {f : tz_PH} {σ : tz_SG} (hXs : va_X b L xs s s.heap) (hbl : b < s.heap.size) (hbA : ¬ A b) (hA : ∀ q, B ≤ q → A q) (hi : i + 6 ≤ L) (hL : L ≤ 3072) (hI : lw_I cs f B σ) (hsz : B + 188 ≤ sz) (hcl : cells + 1 ≤ 600000) (hsl : slots + 4 ≤ 7302249)
    (kk : ∀ (f' : tz_PH) (σ' : tz_SG) (sz' : Nat), lw_I cs f' B σ' → B + 188 ≤ sz' → tz_V p l e room_1 s m args below meth c Q A D 4 f' sz' (cells + 1) (slots + 4) 1244 [(0, .ref b), (1, .ref B), (2, .ref (B + 179)), (3, .int (nI i))] []) : tz_V p l e room_1 s m args below meth c Q A D 4 f sz cells slots 656 [(0, .ref b), (1, .ref B), (2, .ref (B + 179)), (3, .int (nI i))] [] := by
  obtain ⟨hX, hM, hW⟩ := id hI
  obtain ⟨fsB, hB9⟩ := hX.obj
  refine tz_aload_n C_ 1 rfl rfl td_W_law_656 ?_
  refine tz_aload_n C_ 0 rfl rfl td_W_law_657 ?_
  refine tz_iload_n C_ 3 rfl rfl td_W_law_658 ?_
  refine tz_iconst C_ (v := 1) (by decide) td_W_law_659 ?_
  refine tz_iadd C_ td_W_law_660 ?_
  rw [show (nI i + 1 : Int32) = nI (i + 1) from nI_add i 1]
  refine tz_sld C_ hXs hbl hbA (k := i + 1) (by omega) (by omega) td_W_law_661 ?_
  refine tz_aload_n C_ 0 rfl rfl td_W_law_662 ?_
  refine tz_iload_n C_ 3 rfl rfl td_W_law_663 ?_
  refine tz_iconst C_ (v := 2) (by decide) td_W_law_664 ?_
  refine tz_iadd C_ td_W_law_665 ?_
  rw [show (nI i + 2 : Int32) = nI (i + 2) from nI_add i 2]
  refine tz_sld C_ hXs hbl hbA (k := i + 2) (by omega) (by omega) td_W_law_666 ?_
  refine tz_cV C_ tmi_X_move tw_531 tw_532 tw_530 hB9 rfl (As := [.int (xs (i + 1)), .int (xs (i + 2))]) (by exact (ct_X_move hX hW (by omega))) rfl (rest := []) rfl ⟨rfl, rfl, by show cells + 0 ≤ 600000; omega, by show slots + 0 ≤ 7302249; omega, by decide, by decide⟩ (Nat.le_of_ble_eq_true rfl) td_W_law_667 (st1 := (.int (sp_move σ (xs (i + 1)) (xs (i + 2))).1) :: []) rfl (fun f1 hF1 => ?_)
  obtain ⟨hX1, hq1⟩ := hF1
  have hM1 := hM.fr (fun q a1 => hq1 q (by omega))
  obtain ⟨fsM, hM9⟩ := hM1.obj
  refine tz_aload_n C_ 2 rfl rfl td_W_law_670 ?_
  refine tz_aload_n C_ 0 rfl rfl td_W_law_671 ?_
  refine tz_iload_n C_ 3 rfl rfl td_W_law_672 ?_
  refine tz_iconst C_ (v := 1) (by decide) td_W_law_673 ?_
  refine tz_iadd C_ td_W_law_674 ?_
  rw [show (nI i + 1 : Int32) = nI (i + 1) from nI_add i 1]
  refine tz_sld C_ hXs hbl hbA (k := i + 1) (by omega) (by omega) td_W_law_675 ?_
  refine tz_aload_n C_ 0 rfl rfl td_W_law_676 ?_
  refine tz_iload_n C_ 3 rfl rfl td_W_law_677 ?_
  refine tz_iconst C_ (v := 2) (by decide) td_W_law_678 ?_
  refine tz_iadd C_ td_W_law_679 ?_
  rw [show (nI i + 2 : Int32) = nI (i + 2) from nI_add i 2]
  refine tz_sld C_ hXs hbl hbA (k := i + 2) (by omega) (by omega) td_W_law_680 ?_
  refine tz_cV C_ tmi_M_move tw_925 tw_926 tw_924 hM9 rfl (As := [.int (xs (i + 1)), .int (xs (i + 2))]) (by exact (ct_M_move hM1 hW)) rfl (rest := [(.int (sp_move σ (xs (i + 1)) (xs (i + 2))).1)]) rfl ⟨rfl, rfl, by show cells + 0 ≤ 600000; omega, by show slots + 0 ≤ 7302249; omega, by decide, by decide⟩ (Nat.le_of_ble_eq_true rfl) td_W_law_681 (st1 := (.int (sp_move σ (xs (i + 1)) (xs (i + 2))).1) :: [(.int (sp_move σ (xs (i + 1)) (xs (i + 2))).1)]) rfl (fun f2 hF2 => ?_)
  obtain ⟨hM2, hq2⟩ := hF2
  have hX2 := hX1.fr (fun q a1 => hq2 q (by omega))
  refine tz_icmp_eq C_ td_W_law_684 (fun _ => ?_) (fun h => absurd rfl h)
  exact tz_widen (by omega) (by omega) (kk f2 _ _ ⟨hX2, hM2, wf_move hW⟩ hsz)

set_option maxHeartbeats 4000000 in
set_option maxRecDepth 100000 in
theorem lw_c_drop {p : Program} {l : Launch} {e : Env} {s : State} {m : MethodId} {args : Array Value} {below : List Frame} {meth : Method} {c : Code} {Q : State → Prop} {A : Nat → Prop} {D : va_G} {cs : Nat → ClassId} (C_ : tz_Cx p s m args c A D cs "TapeBenchLaw" code 4) {b L i B sz cells slots : Nat} {xs : Nat → Int32} {f : tz_PH} {σ : tz_SG} (hXs : va_X b L xs s s.heap) (hbl : b < s.heap.size) (hbA : ¬ A b) (hA : ∀ q, B ≤ q → A q) (hi : i + 6 ≤ L) (hL : L ≤ 3072) (hI : lw_I cs f B σ) (hsz : B + 188 ≤ sz) (hcl : cells + 1 ≤ 600000) (hsl : slots + 4 ≤ 7302249)
    (kk : ∀ (f' : tz_PH) (σ' : tz_SG) (sz' : Nat), lw_I cs f' B σ' → B + 188 ≤ sz' → tz_V p l e room_1 s m args below meth c Q A D 4 f' sz' (cells + 1) (slots + 4) 1244 [(0, .ref b), (1, .ref B), (2, .ref (B + 179)), (3, .int (nI i))] []) : tz_V p l e room_1 s m args below meth c Q A D 4 f sz cells slots 689 [(0, .ref b), (1, .ref B), (2, .ref (B + 179)), (3, .int (nI i))] [] := by
  obtain ⟨hX, hM, hW⟩ := id hI
  obtain ⟨fsB, hB9⟩ := hX.obj
  refine tz_aload_n C_ 1 rfl rfl td_W_law_689 ?_
  refine tz_aload_n C_ 0 rfl rfl td_W_law_690 ?_
  refine tz_iload_n C_ 3 rfl rfl td_W_law_691 ?_
  refine tz_iconst C_ (v := 1) (by decide) td_W_law_692 ?_
  refine tz_iadd C_ td_W_law_693 ?_
  rw [show (nI i + 1 : Int32) = nI (i + 1) from nI_add i 1]
  refine tz_sld C_ hXs hbl hbA (k := i + 1) (by omega) (by omega) td_W_law_694 ?_
  refine tz_cV C_ tmi_X_drop tw_539 tw_540 tw_538 hB9 rfl (As := [.int (xs (i + 1))]) (by exact (ct_X_drop hX hW (by omega))) rfl (rest := []) rfl ⟨rfl, rfl, by show cells + 0 ≤ 600000; omega, by show slots + 0 ≤ 7302249; omega, by decide, by decide⟩ (Nat.le_of_ble_eq_true rfl) td_W_law_695 (st1 := (.int (sp_drop σ (xs (i + 1))).1) :: []) rfl (fun f1 hF1 => ?_)
  obtain ⟨hX1, hq1⟩ := hF1
  have hM1 := hM.fr (fun q a1 => hq1 q (by omega))
  obtain ⟨fsM, hM9⟩ := hM1.obj
  refine tz_aload_n C_ 2 rfl rfl td_W_law_698 ?_
  refine tz_aload_n C_ 0 rfl rfl td_W_law_699 ?_
  refine tz_iload_n C_ 3 rfl rfl td_W_law_700 ?_
  refine tz_iconst C_ (v := 1) (by decide) td_W_law_701 ?_
  refine tz_iadd C_ td_W_law_702 ?_
  rw [show (nI i + 1 : Int32) = nI (i + 1) from nI_add i 1]
  refine tz_sld C_ hXs hbl hbA (k := i + 1) (by omega) (by omega) td_W_law_703 ?_
  refine tz_cV C_ tmi_M_drop tw_933 tw_934 tw_932 hM9 rfl (As := [.int (xs (i + 1))]) (by exact (ct_M_drop hM1 hW)) rfl (rest := [(.int (sp_drop σ (xs (i + 1))).1)]) rfl ⟨rfl, rfl, by show cells + 0 ≤ 600000; omega, by show slots + 0 ≤ 7302249; omega, by decide, by decide⟩ (Nat.le_of_ble_eq_true rfl) td_W_law_704 (st1 := (.int (sp_drop σ (xs (i + 1))).1) :: [(.int (sp_drop σ (xs (i + 1))).1)]) rfl (fun f2 hF2 => ?_)
  obtain ⟨hM2, hq2⟩ := hF2
  have hX2 := hX1.fr (fun q a1 => hq2 q (by omega))
  refine tz_icmp_eq C_ td_W_law_707 (fun _ => ?_) (fun h => absurd rfl h)
  exact tz_widen (by omega) (by omega) (kk f2 _ _ ⟨hX2, hM2, wf_drop hW⟩ hsz)

set_option maxHeartbeats 4000000 in
set_option maxRecDepth 100000 in
theorem lw_c_told {p : Program} {l : Launch} {e : Env} {s : State} {m : MethodId} {args : Array Value} {below : List Frame} {meth : Method} {c : Code} {Q : State → Prop} {A : Nat → Prop} {D : va_G} {cs : Nat → ClassId} (C_ : tz_Cx p s m args c A D cs "TapeBenchLaw" code 4) {b L i B sz cells slots : Nat} {xs : Nat → Int32} {f : tz_PH} {σ : tz_SG} (hXs : va_X b L xs s s.heap) (hbl : b < s.heap.size) (hbA : ¬ A b) (hA : ∀ q, B ≤ q → A q) (hi : i + 6 ≤ L) (hL : L ≤ 3072) (hI : lw_I cs f B σ) (hsz : B + 188 ≤ sz) (hcl : cells + 1 ≤ 600000) (hsl : slots + 4 ≤ 7302249)
    (kk : ∀ (f' : tz_PH) (σ' : tz_SG) (sz' : Nat), lw_I cs f' B σ' → B + 188 ≤ sz' → tz_V p l e room_1 s m args below meth c Q A D 4 f' sz' (cells + 1) (slots + 4) 1244 [(0, .ref b), (1, .ref B), (2, .ref (B + 179)), (3, .int (nI i))] []) : tz_V p l e room_1 s m args below meth c Q A D 4 f sz cells slots 712 [(0, .ref b), (1, .ref B), (2, .ref (B + 179)), (3, .int (nI i))] [] := by
  obtain ⟨hX, hM, hW⟩ := id hI
  obtain ⟨fsB, hB9⟩ := hX.obj
  refine tz_aload_n C_ 1 rfl rfl td_W_law_712 ?_
  refine tz_aload_n C_ 0 rfl rfl td_W_law_713 ?_
  refine tz_iload_n C_ 3 rfl rfl td_W_law_714 ?_
  refine tz_iconst C_ (v := 1) (by decide) td_W_law_715 ?_
  refine tz_iadd C_ td_W_law_716 ?_
  rw [show (nI i + 1 : Int32) = nI (i + 1) from nI_add i 1]
  refine tz_sld C_ hXs hbl hbA (k := i + 1) (by omega) (by omega) td_W_law_717 ?_
  refine tz_aload_n C_ 0 rfl rfl td_W_law_718 ?_
  refine tz_iload_n C_ 3 rfl rfl td_W_law_719 ?_
  refine tz_iconst C_ (v := 2) (by decide) td_W_law_720 ?_
  refine tz_iadd C_ td_W_law_721 ?_
  rw [show (nI i + 2 : Int32) = nI (i + 2) from nI_add i 2]
  refine tz_sld C_ hXs hbl hbA (k := i + 2) (by omega) (by omega) td_W_law_722 ?_
  refine tz_cV C_ tmi_X_told tw_543 tw_544 tw_542 hB9 rfl (As := [.int (xs (i + 1)), .int (xs (i + 2))]) (by exact (ct_X_told hX hW (by omega))) rfl (rest := []) rfl ⟨rfl, rfl, by show cells + 0 ≤ 600000; omega, by show slots + 0 ≤ 7302249; omega, by decide, by decide⟩ (Nat.le_of_ble_eq_true rfl) td_W_law_723 (st1 := (.int (sp_told σ (xs (i + 1)) (xs (i + 2))).1) :: []) rfl (fun f1 hF1 => ?_)
  obtain ⟨hX1, hq1⟩ := hF1
  have hM1 := hM.fr (fun q a1 => hq1 q (by omega))
  obtain ⟨fsM, hM9⟩ := hM1.obj
  refine tz_aload_n C_ 2 rfl rfl td_W_law_726 ?_
  refine tz_aload_n C_ 0 rfl rfl td_W_law_727 ?_
  refine tz_iload_n C_ 3 rfl rfl td_W_law_728 ?_
  refine tz_iconst C_ (v := 1) (by decide) td_W_law_729 ?_
  refine tz_iadd C_ td_W_law_730 ?_
  rw [show (nI i + 1 : Int32) = nI (i + 1) from nI_add i 1]
  refine tz_sld C_ hXs hbl hbA (k := i + 1) (by omega) (by omega) td_W_law_731 ?_
  refine tz_aload_n C_ 0 rfl rfl td_W_law_732 ?_
  refine tz_iload_n C_ 3 rfl rfl td_W_law_733 ?_
  refine tz_iconst C_ (v := 2) (by decide) td_W_law_734 ?_
  refine tz_iadd C_ td_W_law_735 ?_
  rw [show (nI i + 2 : Int32) = nI (i + 2) from nI_add i 2]
  refine tz_sld C_ hXs hbl hbA (k := i + 2) (by omega) (by omega) td_W_law_736 ?_
  refine tz_cV C_ tmi_M_told tw_937 tw_938 tw_936 hM9 rfl (As := [.int (xs (i + 1)), .int (xs (i + 2))]) (by exact (ct_M_told hM1 hW)) rfl (rest := [(.int (sp_told σ (xs (i + 1)) (xs (i + 2))).1)]) rfl ⟨rfl, rfl, by show cells + 0 ≤ 600000; omega, by show slots + 0 ≤ 7302249; omega, by decide, by decide⟩ (Nat.le_of_ble_eq_true rfl) td_W_law_737 (st1 := (.int (sp_told σ (xs (i + 1)) (xs (i + 2))).1) :: [(.int (sp_told σ (xs (i + 1)) (xs (i + 2))).1)]) rfl (fun f2 hF2 => ?_)
  obtain ⟨hM2, hq2⟩ := hF2
  have hX2 := hX1.fr (fun q a1 => hq2 q (by omega))
  refine tz_icmp_eq C_ td_W_law_740 (fun _ => ?_) (fun h => absurd rfl h)
  exact tz_widen (by omega) (by omega) (kk f2 _ _ ⟨hX2, hM2, wf_told hW⟩ hsz)

set_option maxHeartbeats 4000000 in
set_option maxRecDepth 100000 in
theorem lw_c_as {p : Program} {l : Launch} {e : Env} {s : State} {m : MethodId} {args : Array Value} {below : List Frame} {meth : Method} {c : Code} {Q : State → Prop} {A : Nat → Prop} {D : va_G} {cs : Nat → ClassId} (C_ : tz_Cx p s m args c A D cs "TapeBenchLaw" code 4) {b L i B sz cells slots : Nat} {xs : Nat → Int32} {f : tz_PH} {σ : tz_SG} (hXs : va_X b L xs s s.heap) (hbl : b < s.heap.size) (hbA : ¬ A b) (hA : ∀ q, B ≤ q → A q) (hi : i + 6 ≤ L) (hL : L ≤ 3072) (hI : lw_I cs f B σ) (hsz : B + 188 ≤ sz) (hcl : cells + 1 ≤ 600000) (hsl : slots + 4 ≤ 7302249)
    (kk : ∀ (f' : tz_PH) (σ' : tz_SG) (sz' : Nat), lw_I cs f' B σ' → B + 188 ≤ sz' → tz_V p l e room_1 s m args below meth c Q A D 4 f' sz' (cells + 1) (slots + 4) 1244 [(0, .ref b), (1, .ref B), (2, .ref (B + 179)), (3, .int (nI i))] []) : tz_V p l e room_1 s m args below meth c Q A D 4 f sz cells slots 745 [(0, .ref b), (1, .ref B), (2, .ref (B + 179)), (3, .int (nI i))] [] := by
  obtain ⟨hX, hM, hW⟩ := id hI
  obtain ⟨fsB, hB9⟩ := hX.obj
  refine tz_aload_n C_ 1 rfl rfl td_W_law_745 ?_
  refine tz_aload_n C_ 0 rfl rfl td_W_law_746 ?_
  refine tz_iload_n C_ 3 rfl rfl td_W_law_747 ?_
  refine tz_iconst C_ (v := 1) (by decide) td_W_law_748 ?_
  refine tz_iadd C_ td_W_law_749 ?_
  rw [show (nI i + 1 : Int32) = nI (i + 1) from nI_add i 1]
  refine tz_sld C_ hXs hbl hbA (k := i + 1) (by omega) (by omega) td_W_law_750 ?_
  refine tz_aload_n C_ 0 rfl rfl td_W_law_751 ?_
  refine tz_iload_n C_ 3 rfl rfl td_W_law_752 ?_
  refine tz_iconst C_ (v := 2) (by decide) td_W_law_753 ?_
  refine tz_iadd C_ td_W_law_754 ?_
  rw [show (nI i + 2 : Int32) = nI (i + 2) from nI_add i 2]
  refine tz_sld C_ hXs hbl hbA (k := i + 2) (by omega) (by omega) td_W_law_755 ?_
  refine tz_cV C_ tmi_X_as tw_547 tw_548 tw_546 hB9 rfl (As := [.int (xs (i + 1)), .int (xs (i + 2))]) (by exact (ct_X_as hX hW (by omega))) rfl (rest := []) rfl ⟨rfl, rfl, by show cells + 0 ≤ 600000; omega, by show slots + 0 ≤ 7302249; omega, by decide, by decide⟩ (Nat.le_of_ble_eq_true rfl) td_W_law_756 (st1 := (.int (sp_as σ (xs (i + 1)) (xs (i + 2))).1) :: []) rfl (fun f1 hF1 => ?_)
  obtain ⟨hX1, hq1⟩ := hF1
  have hM1 := hM.fr (fun q a1 => hq1 q (by omega))
  obtain ⟨fsM, hM9⟩ := hM1.obj
  refine tz_aload_n C_ 2 rfl rfl td_W_law_759 ?_
  refine tz_aload_n C_ 0 rfl rfl td_W_law_760 ?_
  refine tz_iload_n C_ 3 rfl rfl td_W_law_761 ?_
  refine tz_iconst C_ (v := 1) (by decide) td_W_law_762 ?_
  refine tz_iadd C_ td_W_law_763 ?_
  rw [show (nI i + 1 : Int32) = nI (i + 1) from nI_add i 1]
  refine tz_sld C_ hXs hbl hbA (k := i + 1) (by omega) (by omega) td_W_law_764 ?_
  refine tz_aload_n C_ 0 rfl rfl td_W_law_765 ?_
  refine tz_iload_n C_ 3 rfl rfl td_W_law_766 ?_
  refine tz_iconst C_ (v := 2) (by decide) td_W_law_767 ?_
  refine tz_iadd C_ td_W_law_768 ?_
  rw [show (nI i + 2 : Int32) = nI (i + 2) from nI_add i 2]
  refine tz_sld C_ hXs hbl hbA (k := i + 2) (by omega) (by omega) td_W_law_769 ?_
  refine tz_cV C_ tmi_M_as tw_941 tw_942 tw_940 hM9 rfl (As := [.int (xs (i + 1)), .int (xs (i + 2))]) (by exact (ct_M_as hM1 hW)) rfl (rest := [(.int (sp_as σ (xs (i + 1)) (xs (i + 2))).1)]) rfl ⟨rfl, rfl, by show cells + 0 ≤ 600000; omega, by show slots + 0 ≤ 7302249; omega, by decide, by decide⟩ (Nat.le_of_ble_eq_true rfl) td_W_law_770 (st1 := (.int (sp_as σ (xs (i + 1)) (xs (i + 2))).1) :: [(.int (sp_as σ (xs (i + 1)) (xs (i + 2))).1)]) rfl (fun f2 hF2 => ?_)
  obtain ⟨hM2, hq2⟩ := hF2
  have hX2 := hX1.fr (fun q a1 => hq2 q (by omega))
  refine tz_icmp_eq C_ td_W_law_773 (fun _ => ?_) (fun h => absurd rfl h)
  exact tz_widen (by omega) (by omega) (kk f2 _ _ ⟨hX2, hM2, wf_as hW⟩ hsz)

set_option maxHeartbeats 4000000 in
set_option maxRecDepth 100000 in
theorem lw_c_size {p : Program} {l : Launch} {e : Env} {s : State} {m : MethodId} {args : Array Value} {below : List Frame} {meth : Method} {c : Code} {Q : State → Prop} {A : Nat → Prop} {D : va_G} {cs : Nat → ClassId} (C_ : tz_Cx p s m args c A D cs "TapeBenchLaw" code 4) {b L i B sz cells slots : Nat} {xs : Nat → Int32} {f : tz_PH} {σ : tz_SG} (hXs : va_X b L xs s s.heap) (hbl : b < s.heap.size) (hbA : ¬ A b) (hA : ∀ q, B ≤ q → A q) (hi : i + 6 ≤ L) (hL : L ≤ 3072) (hI : lw_I cs f B σ) (hsz : B + 188 ≤ sz) (hcl : cells + 1 ≤ 600000) (hsl : slots + 4 ≤ 7302249)
    (kk : ∀ (f' : tz_PH) (σ' : tz_SG) (sz' : Nat), lw_I cs f' B σ' → B + 188 ≤ sz' → tz_V p l e room_1 s m args below meth c Q A D 4 f' sz' (cells + 1) (slots + 4) 1244 [(0, .ref b), (1, .ref B), (2, .ref (B + 179)), (3, .int (nI i))] []) : tz_V p l e room_1 s m args below meth c Q A D 4 f sz cells slots 778 [(0, .ref b), (1, .ref B), (2, .ref (B + 179)), (3, .int (nI i))] [] := by
  obtain ⟨hX, hM, hW⟩ := id hI
  obtain ⟨fsB, hB9⟩ := hX.obj
  refine tz_aload_n C_ 1 rfl rfl td_W_law_778 ?_
  refine tz_aload_n C_ 0 rfl rfl td_W_law_779 ?_
  refine tz_iload_n C_ 3 rfl rfl td_W_law_780 ?_
  refine tz_iconst C_ (v := 1) (by decide) td_W_law_781 ?_
  refine tz_iadd C_ td_W_law_782 ?_
  rw [show (nI i + 1 : Int32) = nI (i + 1) from nI_add i 1]
  refine tz_sld C_ hXs hbl hbA (k := i + 1) (by omega) (by omega) td_W_law_783 ?_
  refine tz_cV C_ tmi_X_size tw_557 tw_558 tw_556 hB9 rfl (As := [.int (xs (i + 1))]) (by exact (ct_X_size hX hW (by omega))) rfl (rest := []) rfl ⟨rfl, rfl, by show cells + 0 ≤ 600000; omega, by show slots + 0 ≤ 7302249; omega, by decide, by decide⟩ (Nat.le_of_ble_eq_true rfl) td_W_law_784 (st1 := (.int (sp_size σ (xs (i + 1))).1) :: []) rfl (fun f1 hF1 => ?_)
  obtain ⟨hX1, hq1⟩ := hF1
  have hM1 := hM.fr (fun q a1 => hq1 q (by omega))
  obtain ⟨fsM, hM9⟩ := hM1.obj
  refine tz_aload_n C_ 2 rfl rfl td_W_law_787 ?_
  refine tz_aload_n C_ 0 rfl rfl td_W_law_788 ?_
  refine tz_iload_n C_ 3 rfl rfl td_W_law_789 ?_
  refine tz_iconst C_ (v := 1) (by decide) td_W_law_790 ?_
  refine tz_iadd C_ td_W_law_791 ?_
  rw [show (nI i + 1 : Int32) = nI (i + 1) from nI_add i 1]
  refine tz_sld C_ hXs hbl hbA (k := i + 1) (by omega) (by omega) td_W_law_792 ?_
  refine tz_cV C_ tmi_M_size tw_945 tw_946 tw_944 hM9 rfl (As := [.int (xs (i + 1))]) (by exact (ct_M_size hM1 hW)) rfl (rest := [(.int (sp_size σ (xs (i + 1))).1)]) rfl ⟨rfl, rfl, by show cells + 0 ≤ 600000; omega, by show slots + 0 ≤ 7302249; omega, by decide, by decide⟩ (Nat.le_of_ble_eq_true rfl) td_W_law_793 (st1 := (.int (sp_size σ (xs (i + 1))).1) :: [(.int (sp_size σ (xs (i + 1))).1)]) rfl (fun f2 hF2 => ?_)
  obtain ⟨hM2, hq2⟩ := hF2
  have hX2 := hX1.fr (fun q a1 => hq2 q (by omega))
  refine tz_icmp_eq C_ td_W_law_796 (fun _ => ?_) (fun h => absurd rfl h)
  exact tz_widen (by omega) (by omega) (kk f2 _ _ ⟨hX2, hM2, wf_size hW⟩ hsz)

set_option maxHeartbeats 4000000 in
set_option maxRecDepth 100000 in
theorem lw_c_out {p : Program} {l : Launch} {e : Env} {s : State} {m : MethodId} {args : Array Value} {below : List Frame} {meth : Method} {c : Code} {Q : State → Prop} {A : Nat → Prop} {D : va_G} {cs : Nat → ClassId} (C_ : tz_Cx p s m args c A D cs "TapeBenchLaw" code 4) {b L i B sz cells slots : Nat} {xs : Nat → Int32} {f : tz_PH} {σ : tz_SG} (hXs : va_X b L xs s s.heap) (hbl : b < s.heap.size) (hbA : ¬ A b) (hA : ∀ q, B ≤ q → A q) (hi : i + 6 ≤ L) (hL : L ≤ 3072) (hI : lw_I cs f B σ) (hsz : B + 188 ≤ sz) (hcl : cells + 1 ≤ 600000) (hsl : slots + 4 ≤ 7302249)
    (kk : ∀ (f' : tz_PH) (σ' : tz_SG) (sz' : Nat), lw_I cs f' B σ' → B + 188 ≤ sz' → tz_V p l e room_1 s m args below meth c Q A D 4 f' sz' (cells + 1) (slots + 4) 1244 [(0, .ref b), (1, .ref B), (2, .ref (B + 179)), (3, .int (nI i))] []) : tz_V p l e room_1 s m args below meth c Q A D 4 f sz cells slots 801 [(0, .ref b), (1, .ref B), (2, .ref (B + 179)), (3, .int (nI i))] [] := by
  obtain ⟨hX, hM, hW⟩ := id hI
  obtain ⟨fsB, hB9⟩ := hX.obj
  refine tz_aload_n C_ 1 rfl rfl td_W_law_801 ?_
  refine tz_aload_n C_ 0 rfl rfl td_W_law_802 ?_
  refine tz_iload_n C_ 3 rfl rfl td_W_law_803 ?_
  refine tz_iconst C_ (v := 1) (by decide) td_W_law_804 ?_
  refine tz_iadd C_ td_W_law_805 ?_
  rw [show (nI i + 1 : Int32) = nI (i + 1) from nI_add i 1]
  refine tz_sld C_ hXs hbl hbA (k := i + 1) (by omega) (by omega) td_W_law_806 ?_
  refine tz_aload_n C_ 0 rfl rfl td_W_law_807 ?_
  refine tz_iload_n C_ 3 rfl rfl td_W_law_808 ?_
  refine tz_iconst C_ (v := 2) (by decide) td_W_law_809 ?_
  refine tz_iadd C_ td_W_law_810 ?_
  rw [show (nI i + 2 : Int32) = nI (i + 2) from nI_add i 2]
  refine tz_sld C_ hXs hbl hbA (k := i + 2) (by omega) (by omega) td_W_law_811 ?_
  refine tz_cV C_ tmi_X_out tw_649 tw_650 tw_648 hB9 rfl (As := [.int (xs (i + 1)), .int (xs (i + 2))]) (by exact (ct_X_out hX hW (by omega))) rfl (rest := []) rfl ⟨rfl, rfl, by show cells + 0 ≤ 600000; omega, by show slots + 0 ≤ 7302249; omega, by decide, by decide⟩ (Nat.le_of_ble_eq_true rfl) td_W_law_812 (st1 := (.int (sp_out σ (xs (i + 1)) (xs (i + 2))).1) :: []) rfl (fun f1 hF1 => ?_)
  obtain ⟨hX1, hq1⟩ := hF1
  have hM1 := hM.fr (fun q a1 => hq1 q (by omega))
  obtain ⟨fsM, hM9⟩ := hM1.obj
  refine tz_aload_n C_ 2 rfl rfl td_W_law_815 ?_
  refine tz_aload_n C_ 0 rfl rfl td_W_law_816 ?_
  refine tz_iload_n C_ 3 rfl rfl td_W_law_817 ?_
  refine tz_iconst C_ (v := 1) (by decide) td_W_law_818 ?_
  refine tz_iadd C_ td_W_law_819 ?_
  rw [show (nI i + 1 : Int32) = nI (i + 1) from nI_add i 1]
  refine tz_sld C_ hXs hbl hbA (k := i + 1) (by omega) (by omega) td_W_law_820 ?_
  refine tz_aload_n C_ 0 rfl rfl td_W_law_821 ?_
  refine tz_iload_n C_ 3 rfl rfl td_W_law_822 ?_
  refine tz_iconst C_ (v := 2) (by decide) td_W_law_823 ?_
  refine tz_iadd C_ td_W_law_824 ?_
  rw [show (nI i + 2 : Int32) = nI (i + 2) from nI_add i 2]
  refine tz_sld C_ hXs hbl hbA (k := i + 2) (by omega) (by omega) td_W_law_825 ?_
  refine tz_cV C_ tmi_M_out tw_1004 tw_1005 tw_1003 hM9 rfl (As := [.int (xs (i + 1)), .int (xs (i + 2))]) (by exact (ct_M_out hM1 hW)) rfl (rest := [(.int (sp_out σ (xs (i + 1)) (xs (i + 2))).1)]) rfl ⟨rfl, rfl, by show cells + 0 ≤ 600000; omega, by show slots + 0 ≤ 7302249; omega, by decide, by decide⟩ (Nat.le_of_ble_eq_true rfl) td_W_law_826 (st1 := (.int (sp_out σ (xs (i + 1)) (xs (i + 2))).1) :: [(.int (sp_out σ (xs (i + 1)) (xs (i + 2))).1)]) rfl (fun f2 hF2 => ?_)
  obtain ⟨hM2, hq2⟩ := hF2
  have hX2 := hX1.fr (fun q a1 => hq2 q (by omega))
  refine tz_icmp_eq C_ td_W_law_829 (fun _ => ?_) (fun h => absurd rfl h)
  exact tz_widen (by omega) (by omega) (kk f2 _ _ ⟨hX2, hM2, wf_out hW⟩ hsz)

set_option maxHeartbeats 4000000 in
set_option maxRecDepth 100000 in
theorem lw_c_heard {p : Program} {l : Launch} {e : Env} {s : State} {m : MethodId} {args : Array Value} {below : List Frame} {meth : Method} {c : Code} {Q : State → Prop} {A : Nat → Prop} {D : va_G} {cs : Nat → ClassId} (C_ : tz_Cx p s m args c A D cs "TapeBenchLaw" code 4) {b L i B sz cells slots : Nat} {xs : Nat → Int32} {f : tz_PH} {σ : tz_SG} (hXs : va_X b L xs s s.heap) (hbl : b < s.heap.size) (hbA : ¬ A b) (hA : ∀ q, B ≤ q → A q) (hi : i + 6 ≤ L) (hL : L ≤ 3072) (hI : lw_I cs f B σ) (hsz : B + 188 ≤ sz) (hcl : cells + 1 ≤ 600000) (hsl : slots + 4 ≤ 7302249)
    (kk : ∀ (f' : tz_PH) (σ' : tz_SG) (sz' : Nat), lw_I cs f' B σ' → B + 188 ≤ sz' → tz_V p l e room_1 s m args below meth c Q A D 4 f' sz' (cells + 1) (slots + 4) 1244 [(0, .ref b), (1, .ref B), (2, .ref (B + 179)), (3, .int (nI i))] []) : tz_V p l e room_1 s m args below meth c Q A D 4 f sz cells slots 834 [(0, .ref b), (1, .ref B), (2, .ref (B + 179)), (3, .int (nI i))] [] := by
  obtain ⟨hX, hM, hW⟩ := id hI
  obtain ⟨fsB, hB9⟩ := hX.obj
  refine tz_aload_n C_ 1 rfl rfl td_W_law_834 ?_
  refine tz_aload_n C_ 0 rfl rfl td_W_law_835 ?_
  refine tz_iload_n C_ 3 rfl rfl td_W_law_836 ?_
  refine tz_iconst C_ (v := 1) (by decide) td_W_law_837 ?_
  refine tz_iadd C_ td_W_law_838 ?_
  rw [show (nI i + 1 : Int32) = nI (i + 1) from nI_add i 1]
  refine tz_sld C_ hXs hbl hbA (k := i + 1) (by omega) (by omega) td_W_law_839 ?_
  refine tz_aload_n C_ 0 rfl rfl td_W_law_840 ?_
  refine tz_iload_n C_ 3 rfl rfl td_W_law_841 ?_
  refine tz_iconst C_ (v := 2) (by decide) td_W_law_842 ?_
  refine tz_iadd C_ td_W_law_843 ?_
  rw [show (nI i + 2 : Int32) = nI (i + 2) from nI_add i 2]
  refine tz_sld C_ hXs hbl hbA (k := i + 2) (by omega) (by omega) td_W_law_844 ?_
  refine tz_cV C_ tmi_X_heard tw_653 tw_654 tw_652 hB9 rfl (As := [.int (xs (i + 1)), .int (xs (i + 2))]) (by exact (ct_X_heard hX hW (by omega))) rfl (rest := []) rfl ⟨rfl, rfl, by show cells + 0 ≤ 600000; omega, by show slots + 0 ≤ 7302249; omega, by decide, by decide⟩ (Nat.le_of_ble_eq_true rfl) td_W_law_845 (st1 := (.int (sp_heard σ (xs (i + 1)) (xs (i + 2))).1) :: []) rfl (fun f1 hF1 => ?_)
  obtain ⟨hX1, hq1⟩ := hF1
  have hM1 := hM.fr (fun q a1 => hq1 q (by omega))
  obtain ⟨fsM, hM9⟩ := hM1.obj
  refine tz_aload_n C_ 2 rfl rfl td_W_law_848 ?_
  refine tz_aload_n C_ 0 rfl rfl td_W_law_849 ?_
  refine tz_iload_n C_ 3 rfl rfl td_W_law_850 ?_
  refine tz_iconst C_ (v := 1) (by decide) td_W_law_851 ?_
  refine tz_iadd C_ td_W_law_852 ?_
  rw [show (nI i + 1 : Int32) = nI (i + 1) from nI_add i 1]
  refine tz_sld C_ hXs hbl hbA (k := i + 1) (by omega) (by omega) td_W_law_853 ?_
  refine tz_aload_n C_ 0 rfl rfl td_W_law_854 ?_
  refine tz_iload_n C_ 3 rfl rfl td_W_law_855 ?_
  refine tz_iconst C_ (v := 2) (by decide) td_W_law_856 ?_
  refine tz_iadd C_ td_W_law_857 ?_
  rw [show (nI i + 2 : Int32) = nI (i + 2) from nI_add i 2]
  refine tz_sld C_ hXs hbl hbA (k := i + 2) (by omega) (by omega) td_W_law_858 ?_
  refine tz_cV C_ tmi_M_heard tw_1008 tw_1009 tw_1007 hM9 rfl (As := [.int (xs (i + 1)), .int (xs (i + 2))]) (by exact (ct_M_heard hM1 hW)) rfl (rest := [(.int (sp_heard σ (xs (i + 1)) (xs (i + 2))).1)]) rfl ⟨rfl, rfl, by show cells + 0 ≤ 600000; omega, by show slots + 0 ≤ 7302249; omega, by decide, by decide⟩ (Nat.le_of_ble_eq_true rfl) td_W_law_859 (st1 := (.int (sp_heard σ (xs (i + 1)) (xs (i + 2))).1) :: [(.int (sp_heard σ (xs (i + 1)) (xs (i + 2))).1)]) rfl (fun f2 hF2 => ?_)
  obtain ⟨hM2, hq2⟩ := hF2
  have hX2 := hX1.fr (fun q a1 => hq2 q (by omega))
  refine tz_icmp_eq C_ td_W_law_862 (fun _ => ?_) (fun h => absurd rfl h)
  exact tz_widen (by omega) (by omega) (kk f2 _ _ ⟨hX2, hM2, wf_heard hW⟩ hsz)

set_option maxHeartbeats 4000000 in
set_option maxRecDepth 100000 in
theorem lw_c_power {p : Program} {l : Launch} {e : Env} {s : State} {m : MethodId} {args : Array Value} {below : List Frame} {meth : Method} {c : Code} {Q : State → Prop} {A : Nat → Prop} {D : va_G} {cs : Nat → ClassId} (C_ : tz_Cx p s m args c A D cs "TapeBenchLaw" code 4) {b L i B sz cells slots : Nat} {xs : Nat → Int32} {f : tz_PH} {σ : tz_SG} (hXs : va_X b L xs s s.heap) (hbl : b < s.heap.size) (hbA : ¬ A b) (hA : ∀ q, B ≤ q → A q) (hi : i + 6 ≤ L) (hL : L ≤ 3072) (hI : lw_I cs f B σ) (hsz : B + 188 ≤ sz) (hcl : cells + 1 ≤ 600000) (hsl : slots + 4 ≤ 7302249)
    (kk : ∀ (f' : tz_PH) (σ' : tz_SG) (sz' : Nat), lw_I cs f' B σ' → B + 188 ≤ sz' → tz_V p l e room_1 s m args below meth c Q A D 4 f' sz' (cells + 1) (slots + 4) 1244 [(0, .ref b), (1, .ref B), (2, .ref (B + 179)), (3, .int (nI i))] []) : tz_V p l e room_1 s m args below meth c Q A D 4 f sz cells slots 867 [(0, .ref b), (1, .ref B), (2, .ref (B + 179)), (3, .int (nI i))] [] := by
  obtain ⟨hX, hM, hW⟩ := id hI
  obtain ⟨fsB, hB9⟩ := hX.obj
  refine tz_aload_n C_ 1 rfl rfl td_W_law_867 ?_
  refine tz_aload_n C_ 0 rfl rfl td_W_law_868 ?_
  refine tz_iload_n C_ 3 rfl rfl td_W_law_869 ?_
  refine tz_iconst C_ (v := 1) (by decide) td_W_law_870 ?_
  refine tz_iadd C_ td_W_law_871 ?_
  rw [show (nI i + 1 : Int32) = nI (i + 1) from nI_add i 1]
  refine tz_sld C_ hXs hbl hbA (k := i + 1) (by omega) (by omega) td_W_law_872 ?_
  refine tz_cV C_ tmi_X_power tw_666 tw_667 tw_665 hB9 rfl (As := [.int (xs (i + 1))]) (by exact (ct_X_power hX hW (by omega))) rfl (rest := []) rfl ⟨rfl, rfl, by show cells + 0 ≤ 600000; omega, by show slots + 0 ≤ 7302249; omega, by decide, by decide⟩ (Nat.le_of_ble_eq_true rfl) td_W_law_873 (st1 := (.long (sp_power σ (xs (i + 1))).1) :: []) rfl (fun f1 hF1 => ?_)
  obtain ⟨hX1, hq1⟩ := hF1
  have hM1 := hM.fr (fun q a1 => hq1 q (by omega))
  obtain ⟨fsM, hM9⟩ := hM1.obj
  refine tz_aload_n C_ 2 rfl rfl td_W_law_876 ?_
  refine tz_aload_n C_ 0 rfl rfl td_W_law_877 ?_
  refine tz_iload_n C_ 3 rfl rfl td_W_law_878 ?_
  refine tz_iconst C_ (v := 1) (by decide) td_W_law_879 ?_
  refine tz_iadd C_ td_W_law_880 ?_
  rw [show (nI i + 1 : Int32) = nI (i + 1) from nI_add i 1]
  refine tz_sld C_ hXs hbl hbA (k := i + 1) (by omega) (by omega) td_W_law_881 ?_
  refine tz_cV C_ tmi_M_power tw_1013 tw_1014 tw_1012 hM9 rfl (As := [.int (xs (i + 1))]) (by exact (ct_M_power hM1 hW)) rfl (rest := [(.long (sp_power σ (xs (i + 1))).1)]) rfl ⟨rfl, rfl, by show cells + 0 ≤ 600000; omega, by show slots + 0 ≤ 7302249; omega, by decide, by decide⟩ (Nat.le_of_ble_eq_true rfl) td_W_law_882 (st1 := (.long (sp_power σ (xs (i + 1))).1) :: [(.long (sp_power σ (xs (i + 1))).1)]) rfl (fun f2 hF2 => ?_)
  obtain ⟨hM2, hq2⟩ := hF2
  have hX2 := hX1.fr (fun q a1 => hq2 q (by omega))
  refine tz_lcmp C_ td_W_law_885 ?_
  refine tz_if_eq C_ td_W_law_886 (fun _ => ?_) (fun h => absurd ((lg_cmp_eq _ _).mpr rfl) h)
  exact tz_widen (by omega) (by omega) (kk f2 _ _ ⟨hX2, hM2, wf_power hW⟩ hsz)

set_option maxHeartbeats 4000000 in
set_option maxRecDepth 100000 in
theorem lw_c_bake {p : Program} {l : Launch} {e : Env} {s : State} {m : MethodId} {args : Array Value} {below : List Frame} {meth : Method} {c : Code} {Q : State → Prop} {A : Nat → Prop} {D : va_G} {cs : Nat → ClassId} (C_ : tz_Cx p s m args c A D cs "TapeBenchLaw" code 4) {b L i B sz cells slots : Nat} {xs : Nat → Int32} {f : tz_PH} {σ : tz_SG} (hXs : va_X b L xs s s.heap) (hbl : b < s.heap.size) (hbA : ¬ A b) (hA : ∀ q, B ≤ q → A q) (hi : i + 6 ≤ L) (hL : L ≤ 3072) (hI : lw_I cs f B σ) (hsz : B + 188 ≤ sz) (hcl : cells + 1 ≤ 600000) (hsl : slots + 4 ≤ 7302249)
    (kk : ∀ (f' : tz_PH) (σ' : tz_SG) (sz' : Nat), lw_I cs f' B σ' → B + 188 ≤ sz' → tz_V p l e room_1 s m args below meth c Q A D 4 f' sz' (cells + 1) (slots + 4) 1244 [(0, .ref b), (1, .ref B), (2, .ref (B + 179)), (3, .int (nI i))] []) : tz_V p l e room_1 s m args below meth c Q A D 4 f sz cells slots 891 [(0, .ref b), (1, .ref B), (2, .ref (B + 179)), (3, .int (nI i))] [] := by
  obtain ⟨hX, hM, hW⟩ := id hI
  obtain ⟨fsB, hB9⟩ := hX.obj
  refine tz_aload_n C_ 1 rfl rfl td_W_law_891 ?_
  refine tz_aload_n C_ 0 rfl rfl td_W_law_892 ?_
  refine tz_iload_n C_ 3 rfl rfl td_W_law_893 ?_
  refine tz_iconst C_ (v := 1) (by decide) td_W_law_894 ?_
  refine tz_iadd C_ td_W_law_895 ?_
  rw [show (nI i + 1 : Int32) = nI (i + 1) from nI_add i 1]
  refine tz_sld C_ hXs hbl hbA (k := i + 1) (by omega) (by omega) td_W_law_896 ?_
  refine tz_aload_n C_ 0 rfl rfl td_W_law_897 ?_
  refine tz_iload_n C_ 3 rfl rfl td_W_law_898 ?_
  refine tz_iconst C_ (v := 2) (by decide) td_W_law_899 ?_
  refine tz_iadd C_ td_W_law_900 ?_
  rw [show (nI i + 2 : Int32) = nI (i + 2) from nI_add i 2]
  refine tz_sld C_ hXs hbl hbA (k := i + 2) (by omega) (by omega) td_W_law_901 ?_
  refine tz_cV C_ tmi_X_bake tw_674 tw_675 tw_673 hB9 rfl (As := [.int (xs (i + 1)), .int (xs (i + 2))]) (by exact (ct_X_bake hX hW (by omega))) rfl (rest := []) rfl ⟨rfl, rfl, by show cells + 0 ≤ 600000; omega, by show slots + 0 ≤ 7302249; omega, by decide, by decide⟩ (Nat.le_of_ble_eq_true rfl) td_W_law_902 (st1 := (.int (sp_bake σ (xs (i + 1)) (xs (i + 2))).1) :: []) rfl (fun f1 hF1 => ?_)
  obtain ⟨hX1, hq1⟩ := hF1
  have hM1 := hM.fr (fun q a1 => hq1 q (by omega))
  obtain ⟨fsM, hM9⟩ := hM1.obj
  refine tz_aload_n C_ 2 rfl rfl td_W_law_905 ?_
  refine tz_aload_n C_ 0 rfl rfl td_W_law_906 ?_
  refine tz_iload_n C_ 3 rfl rfl td_W_law_907 ?_
  refine tz_iconst C_ (v := 1) (by decide) td_W_law_908 ?_
  refine tz_iadd C_ td_W_law_909 ?_
  rw [show (nI i + 1 : Int32) = nI (i + 1) from nI_add i 1]
  refine tz_sld C_ hXs hbl hbA (k := i + 1) (by omega) (by omega) td_W_law_910 ?_
  refine tz_aload_n C_ 0 rfl rfl td_W_law_911 ?_
  refine tz_iload_n C_ 3 rfl rfl td_W_law_912 ?_
  refine tz_iconst C_ (v := 2) (by decide) td_W_law_913 ?_
  refine tz_iadd C_ td_W_law_914 ?_
  rw [show (nI i + 2 : Int32) = nI (i + 2) from nI_add i 2]
  refine tz_sld C_ hXs hbl hbA (k := i + 2) (by omega) (by omega) td_W_law_915 ?_
  refine tz_cV C_ tmi_M_bake tw_1017 tw_1018 tw_1016 hM9 rfl (As := [.int (xs (i + 1)), .int (xs (i + 2))]) (by exact (ct_M_bake hM1 hW)) rfl (rest := [(.int (sp_bake σ (xs (i + 1)) (xs (i + 2))).1)]) rfl ⟨rfl, rfl, by show cells + 0 ≤ 600000; omega, by show slots + 0 ≤ 7302249; omega, by decide, by decide⟩ (Nat.le_of_ble_eq_true rfl) td_W_law_916 (st1 := (.int (sp_bake σ (xs (i + 1)) (xs (i + 2))).1) :: [(.int (sp_bake σ (xs (i + 1)) (xs (i + 2))).1)]) rfl (fun f2 hF2 => ?_)
  obtain ⟨hM2, hq2⟩ := hF2
  have hX2 := hX1.fr (fun q a1 => hq2 q (by omega))
  refine tz_icmp_eq C_ td_W_law_919 (fun _ => ?_) (fun h => absurd rfl h)
  exact tz_widen (by omega) (by omega) (kk f2 _ _ ⟨hX2, hM2, wf_bake hW⟩ hsz)

set_option maxHeartbeats 4000000 in
set_option maxRecDepth 100000 in
theorem lw_c_align {p : Program} {l : Launch} {e : Env} {s : State} {m : MethodId} {args : Array Value} {below : List Frame} {meth : Method} {c : Code} {Q : State → Prop} {A : Nat → Prop} {D : va_G} {cs : Nat → ClassId} (C_ : tz_Cx p s m args c A D cs "TapeBenchLaw" code 4) {b L i B sz cells slots : Nat} {xs : Nat → Int32} {f : tz_PH} {σ : tz_SG} (hXs : va_X b L xs s s.heap) (hbl : b < s.heap.size) (hbA : ¬ A b) (hA : ∀ q, B ≤ q → A q) (hi : i + 6 ≤ L) (hL : L ≤ 3072) (hI : lw_I cs f B σ) (hsz : B + 188 ≤ sz) (hcl : cells + 1 ≤ 600000) (hsl : slots + 4 ≤ 7302249)
    (kk : ∀ (f' : tz_PH) (σ' : tz_SG) (sz' : Nat), lw_I cs f' B σ' → B + 188 ≤ sz' → tz_V p l e room_1 s m args below meth c Q A D 4 f' sz' (cells + 1) (slots + 4) 1244 [(0, .ref b), (1, .ref B), (2, .ref (B + 179)), (3, .int (nI i))] []) : tz_V p l e room_1 s m args below meth c Q A D 4 f sz cells slots 924 [(0, .ref b), (1, .ref B), (2, .ref (B + 179)), (3, .int (nI i))] [] := by
  obtain ⟨hX, hM, hW⟩ := id hI
  obtain ⟨fsB, hB9⟩ := hX.obj
  refine tz_aload_n C_ 1 rfl rfl td_W_law_924 ?_
  refine tz_aload_n C_ 0 rfl rfl td_W_law_925 ?_
  refine tz_iload_n C_ 3 rfl rfl td_W_law_926 ?_
  refine tz_iconst C_ (v := 1) (by decide) td_W_law_927 ?_
  refine tz_iadd C_ td_W_law_928 ?_
  rw [show (nI i + 1 : Int32) = nI (i + 1) from nI_add i 1]
  refine tz_sld C_ hXs hbl hbA (k := i + 1) (by omega) (by omega) td_W_law_929 ?_
  refine tz_aload_n C_ 0 rfl rfl td_W_law_930 ?_
  refine tz_iload_n C_ 3 rfl rfl td_W_law_931 ?_
  refine tz_iconst C_ (v := 2) (by decide) td_W_law_932 ?_
  refine tz_iadd C_ td_W_law_933 ?_
  rw [show (nI i + 2 : Int32) = nI (i + 2) from nI_add i 2]
  refine tz_sld C_ hXs hbl hbA (k := i + 2) (by omega) (by omega) td_W_law_934 ?_
  refine tz_aload_n C_ 0 rfl rfl td_W_law_935 ?_
  refine tz_iload_n C_ 3 rfl rfl td_W_law_936 ?_
  refine tz_iconst C_ (v := 3) (by decide) td_W_law_937 ?_
  refine tz_iadd C_ td_W_law_938 ?_
  rw [show (nI i + 3 : Int32) = nI (i + 3) from nI_add i 3]
  refine tz_sld C_ hXs hbl hbA (k := i + 3) (by omega) (by omega) td_W_law_939 ?_
  refine tz_cV C_ tmi_X_align tw_679 tw_680 tw_678 hB9 rfl (As := [.int (xs (i + 1)), .int (xs (i + 2)), .int (xs (i + 3))]) (by exact (ct_X_align hX hW (by omega))) rfl (rest := []) rfl ⟨rfl, rfl, by show cells + 0 ≤ 600000; omega, by show slots + 0 ≤ 7302249; omega, by decide, by decide⟩ (Nat.le_of_ble_eq_true rfl) td_W_law_940 (st1 := (.int (sp_align σ (xs (i + 1)) (xs (i + 2)) (xs (i + 3))).1) :: []) rfl (fun f1 hF1 => ?_)
  obtain ⟨hX1, hq1⟩ := hF1
  have hM1 := hM.fr (fun q a1 => hq1 q (by omega))
  obtain ⟨fsM, hM9⟩ := hM1.obj
  refine tz_aload_n C_ 2 rfl rfl td_W_law_943 ?_
  refine tz_aload_n C_ 0 rfl rfl td_W_law_944 ?_
  refine tz_iload_n C_ 3 rfl rfl td_W_law_945 ?_
  refine tz_iconst C_ (v := 1) (by decide) td_W_law_946 ?_
  refine tz_iadd C_ td_W_law_947 ?_
  rw [show (nI i + 1 : Int32) = nI (i + 1) from nI_add i 1]
  refine tz_sld C_ hXs hbl hbA (k := i + 1) (by omega) (by omega) td_W_law_948 ?_
  refine tz_aload_n C_ 0 rfl rfl td_W_law_949 ?_
  refine tz_iload_n C_ 3 rfl rfl td_W_law_950 ?_
  refine tz_iconst C_ (v := 2) (by decide) td_W_law_951 ?_
  refine tz_iadd C_ td_W_law_952 ?_
  rw [show (nI i + 2 : Int32) = nI (i + 2) from nI_add i 2]
  refine tz_sld C_ hXs hbl hbA (k := i + 2) (by omega) (by omega) td_W_law_953 ?_
  refine tz_aload_n C_ 0 rfl rfl td_W_law_954 ?_
  refine tz_iload_n C_ 3 rfl rfl td_W_law_955 ?_
  refine tz_iconst C_ (v := 3) (by decide) td_W_law_956 ?_
  refine tz_iadd C_ td_W_law_957 ?_
  rw [show (nI i + 3 : Int32) = nI (i + 3) from nI_add i 3]
  refine tz_sld C_ hXs hbl hbA (k := i + 3) (by omega) (by omega) td_W_law_958 ?_
  refine tz_cV C_ tmi_M_align tw_1021 tw_1022 tw_1020 hM9 rfl (As := [.int (xs (i + 1)), .int (xs (i + 2)), .int (xs (i + 3))]) (by exact (ct_M_align hM1 hW)) rfl (rest := [(.int (sp_align σ (xs (i + 1)) (xs (i + 2)) (xs (i + 3))).1)]) rfl ⟨rfl, rfl, by show cells + 0 ≤ 600000; omega, by show slots + 0 ≤ 7302249; omega, by decide, by decide⟩ (Nat.le_of_ble_eq_true rfl) td_W_law_959 (st1 := (.int (sp_align σ (xs (i + 1)) (xs (i + 2)) (xs (i + 3))).1) :: [(.int (sp_align σ (xs (i + 1)) (xs (i + 2)) (xs (i + 3))).1)]) rfl (fun f2 hF2 => ?_)
  obtain ⟨hM2, hq2⟩ := hF2
  have hX2 := hX1.fr (fun q a1 => hq2 q (by omega))
  refine tz_icmp_eq C_ td_W_law_962 (fun _ => ?_) (fun h => absurd rfl h)
  exact tz_widen (by omega) (by omega) (kk f2 _ _ ⟨hX2, hM2, wf_align hW⟩ hsz)

set_option maxHeartbeats 4000000 in
set_option maxRecDepth 100000 in
theorem lw_c_differ {p : Program} {l : Launch} {e : Env} {s : State} {m : MethodId} {args : Array Value} {below : List Frame} {meth : Method} {c : Code} {Q : State → Prop} {A : Nat → Prop} {D : va_G} {cs : Nat → ClassId} (C_ : tz_Cx p s m args c A D cs "TapeBenchLaw" code 4) {b L i B sz cells slots : Nat} {xs : Nat → Int32} {f : tz_PH} {σ : tz_SG} (hXs : va_X b L xs s s.heap) (hbl : b < s.heap.size) (hbA : ¬ A b) (hA : ∀ q, B ≤ q → A q) (hi : i + 6 ≤ L) (hL : L ≤ 3072) (hI : lw_I cs f B σ) (hsz : B + 188 ≤ sz) (hcl : cells + 1 ≤ 600000) (hsl : slots + 4 ≤ 7302249)
    (kk : ∀ (f' : tz_PH) (σ' : tz_SG) (sz' : Nat), lw_I cs f' B σ' → B + 188 ≤ sz' → tz_V p l e room_1 s m args below meth c Q A D 4 f' sz' (cells + 1) (slots + 4) 1244 [(0, .ref b), (1, .ref B), (2, .ref (B + 179)), (3, .int (nI i))] []) : tz_V p l e room_1 s m args below meth c Q A D 4 f sz cells slots 967 [(0, .ref b), (1, .ref B), (2, .ref (B + 179)), (3, .int (nI i))] [] := by
  obtain ⟨hX, hM, hW⟩ := id hI
  obtain ⟨fsB, hB9⟩ := hX.obj
  by_cases hz : xs (i + 4) = 0
  · skip
    refine tz_aload_n C_ 1 rfl rfl td_W_law_967 ?_
    refine tz_aload_n C_ 0 rfl rfl td_W_law_968 ?_
    refine tz_iload_n C_ 3 rfl rfl td_W_law_969 ?_
    refine tz_iconst C_ (v := 1) (by decide) td_W_law_970 ?_
    refine tz_iadd C_ td_W_law_971 ?_
    rw [show (nI i + 1 : Int32) = nI (i + 1) from nI_add i 1]
    refine tz_sld C_ hXs hbl hbA (k := i + 1) (by omega) (by omega) td_W_law_972 ?_
    refine tz_aload_n C_ 0 rfl rfl td_W_law_973 ?_
    refine tz_iload_n C_ 3 rfl rfl td_W_law_974 ?_
    refine tz_iconst C_ (v := 2) (by decide) td_W_law_975 ?_
    refine tz_iadd C_ td_W_law_976 ?_
    rw [show (nI i + 2 : Int32) = nI (i + 2) from nI_add i 2]
    refine tz_sld C_ hXs hbl hbA (k := i + 2) (by omega) (by omega) td_W_law_977 ?_
    refine tz_aload_n C_ 0 rfl rfl td_W_law_978 ?_
    refine tz_iload_n C_ 3 rfl rfl td_W_law_979 ?_
    refine tz_iconst C_ (v := 3) (by decide) td_W_law_980 ?_
    refine tz_iadd C_ td_W_law_981 ?_
    rw [show (nI i + 3 : Int32) = nI (i + 3) from nI_add i 3]
    refine tz_sld C_ hXs hbl hbA (k := i + 3) (by omega) (by omega) td_W_law_982 ?_
    refine tz_aload_n C_ 0 rfl rfl td_W_law_983 ?_
    refine tz_iload_n C_ 3 rfl rfl td_W_law_984 ?_
    refine tz_iconst C_ (v := 4) (by decide) td_W_law_985 ?_
    refine tz_iadd C_ td_W_law_986 ?_
    rw [show (nI i + 4 : Int32) = nI (i + 4) from nI_add i 4]
    refine tz_sld C_ hXs hbl hbA (k := i + 4) (by omega) (by omega) td_W_law_987 ?_
    refine tz_if_eq C_ td_W_law_988 (fun _ => ?_) (fun h => absurd hz h)
    refine tz_iconst C_ (v := 0) (by decide) td_W_law_995 ?_
    refine tz_cV C_ tmi_X_differ tw_684 tw_685 tw_683 hB9 rfl (As := [.int (xs (i + 1)), .int (xs (i + 2)), .int (xs (i + 3)), .int (0)]) (by exact (ct_X_differ hX hW (by omega))) rfl (rest := []) rfl ⟨rfl, rfl, by show cells + 0 ≤ 600000; omega, by show slots + 0 ≤ 7302249; omega, by decide, by decide⟩ (Nat.le_of_ble_eq_true rfl) td_W_law_996 (st1 := (.int (sp_differ σ (xs (i + 1)) (xs (i + 2)) (xs (i + 3)) (0)).1) :: []) rfl (fun f1 hF1 => ?_)
    obtain ⟨hX1, hq1⟩ := hF1
    have hM1 := hM.fr (fun q a1 => hq1 q (by omega))
    obtain ⟨fsM, hM9⟩ := hM1.obj
    refine tz_aload_n C_ 2 rfl rfl td_W_law_999 ?_
    refine tz_aload_n C_ 0 rfl rfl td_W_law_1000 ?_
    refine tz_iload_n C_ 3 rfl rfl td_W_law_1001 ?_
    refine tz_iconst C_ (v := 1) (by decide) td_W_law_1002 ?_
    refine tz_iadd C_ td_W_law_1003 ?_
    rw [show (nI i + 1 : Int32) = nI (i + 1) from nI_add i 1]
    refine tz_sld C_ hXs hbl hbA (k := i + 1) (by omega) (by omega) td_W_law_1004 ?_
    refine tz_aload_n C_ 0 rfl rfl td_W_law_1005 ?_
    refine tz_iload_n C_ 3 rfl rfl td_W_law_1006 ?_
    refine tz_iconst C_ (v := 2) (by decide) td_W_law_1007 ?_
    refine tz_iadd C_ td_W_law_1008 ?_
    rw [show (nI i + 2 : Int32) = nI (i + 2) from nI_add i 2]
    refine tz_sld C_ hXs hbl hbA (k := i + 2) (by omega) (by omega) td_W_law_1009 ?_
    refine tz_aload_n C_ 0 rfl rfl td_W_law_1010 ?_
    refine tz_iload_n C_ 3 rfl rfl td_W_law_1011 ?_
    refine tz_iconst C_ (v := 3) (by decide) td_W_law_1012 ?_
    refine tz_iadd C_ td_W_law_1013 ?_
    rw [show (nI i + 3 : Int32) = nI (i + 3) from nI_add i 3]
    refine tz_sld C_ hXs hbl hbA (k := i + 3) (by omega) (by omega) td_W_law_1014 ?_
    refine tz_aload_n C_ 0 rfl rfl td_W_law_1015 ?_
    refine tz_iload_n C_ 3 rfl rfl td_W_law_1016 ?_
    refine tz_iconst C_ (v := 4) (by decide) td_W_law_1017 ?_
    refine tz_iadd C_ td_W_law_1018 ?_
    rw [show (nI i + 4 : Int32) = nI (i + 4) from nI_add i 4]
    refine tz_sld C_ hXs hbl hbA (k := i + 4) (by omega) (by omega) td_W_law_1019 ?_
    refine tz_if_eq C_ td_W_law_1020 (fun _ => ?_) (fun h => absurd hz h)
    refine tz_iconst C_ (v := 0) (by decide) td_W_law_1027 ?_
    refine tz_cV C_ tmi_M_differ tw_1025 tw_1026 tw_1024 hM9 rfl (As := [.int (xs (i + 1)), .int (xs (i + 2)), .int (xs (i + 3)), .int (0)]) (by exact (ct_M_differ hM1 hW)) rfl (rest := [(.int (sp_differ σ (xs (i + 1)) (xs (i + 2)) (xs (i + 3)) (0)).1)]) rfl ⟨rfl, rfl, by show cells + 0 ≤ 600000; omega, by show slots + 0 ≤ 7302249; omega, by decide, by decide⟩ (Nat.le_of_ble_eq_true rfl) td_W_law_1028 (st1 := (.int (sp_differ σ (xs (i + 1)) (xs (i + 2)) (xs (i + 3)) (0)).1) :: [(.int (sp_differ σ (xs (i + 1)) (xs (i + 2)) (xs (i + 3)) (0)).1)]) rfl (fun f2 hF2 => ?_)
    obtain ⟨hM2, hq2⟩ := hF2
    have hX2 := hX1.fr (fun q a1 => hq2 q (by omega))
    refine tz_icmp_eq C_ td_W_law_1031 (fun _ => ?_) (fun h => absurd rfl h)
    exact tz_widen (by omega) (by omega) (kk f2 _ _ ⟨hX2, hM2, wf_differ hW⟩ hsz)
  · skip
    refine tz_aload_n C_ 1 rfl rfl td_W_law_967 ?_
    refine tz_aload_n C_ 0 rfl rfl td_W_law_968 ?_
    refine tz_iload_n C_ 3 rfl rfl td_W_law_969 ?_
    refine tz_iconst C_ (v := 1) (by decide) td_W_law_970 ?_
    refine tz_iadd C_ td_W_law_971 ?_
    rw [show (nI i + 1 : Int32) = nI (i + 1) from nI_add i 1]
    refine tz_sld C_ hXs hbl hbA (k := i + 1) (by omega) (by omega) td_W_law_972 ?_
    refine tz_aload_n C_ 0 rfl rfl td_W_law_973 ?_
    refine tz_iload_n C_ 3 rfl rfl td_W_law_974 ?_
    refine tz_iconst C_ (v := 2) (by decide) td_W_law_975 ?_
    refine tz_iadd C_ td_W_law_976 ?_
    rw [show (nI i + 2 : Int32) = nI (i + 2) from nI_add i 2]
    refine tz_sld C_ hXs hbl hbA (k := i + 2) (by omega) (by omega) td_W_law_977 ?_
    refine tz_aload_n C_ 0 rfl rfl td_W_law_978 ?_
    refine tz_iload_n C_ 3 rfl rfl td_W_law_979 ?_
    refine tz_iconst C_ (v := 3) (by decide) td_W_law_980 ?_
    refine tz_iadd C_ td_W_law_981 ?_
    rw [show (nI i + 3 : Int32) = nI (i + 3) from nI_add i 3]
    refine tz_sld C_ hXs hbl hbA (k := i + 3) (by omega) (by omega) td_W_law_982 ?_
    refine tz_aload_n C_ 0 rfl rfl td_W_law_983 ?_
    refine tz_iload_n C_ 3 rfl rfl td_W_law_984 ?_
    refine tz_iconst C_ (v := 4) (by decide) td_W_law_985 ?_
    refine tz_iadd C_ td_W_law_986 ?_
    rw [show (nI i + 4 : Int32) = nI (i + 4) from nI_add i 4]
    refine tz_sld C_ hXs hbl hbA (k := i + 4) (by omega) (by omega) td_W_law_987 ?_
    refine tz_if_eq C_ td_W_law_988 (fun h => absurd h hz) (fun _ => ?_)
    refine tz_iconst C_ (v := 1) (by decide) td_W_law_991 ?_
    refine tz_goto C_ td_W_law_992 ?_
    refine tz_cV C_ tmi_X_differ tw_684 tw_685 tw_683 hB9 rfl (As := [.int (xs (i + 1)), .int (xs (i + 2)), .int (xs (i + 3)), .int (1)]) (by exact (ct_X_differ hX hW (by omega))) rfl (rest := []) rfl ⟨rfl, rfl, by show cells + 0 ≤ 600000; omega, by show slots + 0 ≤ 7302249; omega, by decide, by decide⟩ (Nat.le_of_ble_eq_true rfl) td_W_law_996 (st1 := (.int (sp_differ σ (xs (i + 1)) (xs (i + 2)) (xs (i + 3)) (1)).1) :: []) rfl (fun f1 hF1 => ?_)
    obtain ⟨hX1, hq1⟩ := hF1
    have hM1 := hM.fr (fun q a1 => hq1 q (by omega))
    obtain ⟨fsM, hM9⟩ := hM1.obj
    refine tz_aload_n C_ 2 rfl rfl td_W_law_999 ?_
    refine tz_aload_n C_ 0 rfl rfl td_W_law_1000 ?_
    refine tz_iload_n C_ 3 rfl rfl td_W_law_1001 ?_
    refine tz_iconst C_ (v := 1) (by decide) td_W_law_1002 ?_
    refine tz_iadd C_ td_W_law_1003 ?_
    rw [show (nI i + 1 : Int32) = nI (i + 1) from nI_add i 1]
    refine tz_sld C_ hXs hbl hbA (k := i + 1) (by omega) (by omega) td_W_law_1004 ?_
    refine tz_aload_n C_ 0 rfl rfl td_W_law_1005 ?_
    refine tz_iload_n C_ 3 rfl rfl td_W_law_1006 ?_
    refine tz_iconst C_ (v := 2) (by decide) td_W_law_1007 ?_
    refine tz_iadd C_ td_W_law_1008 ?_
    rw [show (nI i + 2 : Int32) = nI (i + 2) from nI_add i 2]
    refine tz_sld C_ hXs hbl hbA (k := i + 2) (by omega) (by omega) td_W_law_1009 ?_
    refine tz_aload_n C_ 0 rfl rfl td_W_law_1010 ?_
    refine tz_iload_n C_ 3 rfl rfl td_W_law_1011 ?_
    refine tz_iconst C_ (v := 3) (by decide) td_W_law_1012 ?_
    refine tz_iadd C_ td_W_law_1013 ?_
    rw [show (nI i + 3 : Int32) = nI (i + 3) from nI_add i 3]
    refine tz_sld C_ hXs hbl hbA (k := i + 3) (by omega) (by omega) td_W_law_1014 ?_
    refine tz_aload_n C_ 0 rfl rfl td_W_law_1015 ?_
    refine tz_iload_n C_ 3 rfl rfl td_W_law_1016 ?_
    refine tz_iconst C_ (v := 4) (by decide) td_W_law_1017 ?_
    refine tz_iadd C_ td_W_law_1018 ?_
    rw [show (nI i + 4 : Int32) = nI (i + 4) from nI_add i 4]
    refine tz_sld C_ hXs hbl hbA (k := i + 4) (by omega) (by omega) td_W_law_1019 ?_
    refine tz_if_eq C_ td_W_law_1020 (fun h => absurd h hz) (fun _ => ?_)
    refine tz_iconst C_ (v := 1) (by decide) td_W_law_1023 ?_
    refine tz_goto C_ td_W_law_1024 ?_
    refine tz_cV C_ tmi_M_differ tw_1025 tw_1026 tw_1024 hM9 rfl (As := [.int (xs (i + 1)), .int (xs (i + 2)), .int (xs (i + 3)), .int (1)]) (by exact (ct_M_differ hM1 hW)) rfl (rest := [(.int (sp_differ σ (xs (i + 1)) (xs (i + 2)) (xs (i + 3)) (1)).1)]) rfl ⟨rfl, rfl, by show cells + 0 ≤ 600000; omega, by show slots + 0 ≤ 7302249; omega, by decide, by decide⟩ (Nat.le_of_ble_eq_true rfl) td_W_law_1028 (st1 := (.int (sp_differ σ (xs (i + 1)) (xs (i + 2)) (xs (i + 3)) (1)).1) :: [(.int (sp_differ σ (xs (i + 1)) (xs (i + 2)) (xs (i + 3)) (1)).1)]) rfl (fun f2 hF2 => ?_)
    obtain ⟨hM2, hq2⟩ := hF2
    have hX2 := hX1.fr (fun q a1 => hq2 q (by omega))
    refine tz_icmp_eq C_ td_W_law_1031 (fun _ => ?_) (fun h => absurd rfl h)
    exact tz_widen (by omega) (by omega) (kk f2 _ _ ⟨hX2, hM2, wf_differ hW⟩ hsz)

set_option maxHeartbeats 4000000 in
set_option maxRecDepth 100000 in
theorem lw_c_seam {p : Program} {l : Launch} {e : Env} {s : State} {m : MethodId} {args : Array Value} {below : List Frame} {meth : Method} {c : Code} {Q : State → Prop} {A : Nat → Prop} {D : va_G} {cs : Nat → ClassId} (C_ : tz_Cx p s m args c A D cs "TapeBenchLaw" code 4) {b L i B sz cells slots : Nat} {xs : Nat → Int32} {f : tz_PH} {σ : tz_SG} (hXs : va_X b L xs s s.heap) (hbl : b < s.heap.size) (hbA : ¬ A b) (hA : ∀ q, B ≤ q → A q) (hi : i + 6 ≤ L) (hL : L ≤ 3072) (hI : lw_I cs f B σ) (hsz : B + 188 ≤ sz) (hcl : cells + 1 ≤ 600000) (hsl : slots + 4 ≤ 7302249)
    (kk : ∀ (f' : tz_PH) (σ' : tz_SG) (sz' : Nat), lw_I cs f' B σ' → B + 188 ≤ sz' → tz_V p l e room_1 s m args below meth c Q A D 4 f' sz' (cells + 1) (slots + 4) 1244 [(0, .ref b), (1, .ref B), (2, .ref (B + 179)), (3, .int (nI i))] []) : tz_V p l e room_1 s m args below meth c Q A D 4 f sz cells slots 1036 [(0, .ref b), (1, .ref B), (2, .ref (B + 179)), (3, .int (nI i))] [] := by
  obtain ⟨hX, hM, hW⟩ := id hI
  obtain ⟨fsB, hB9⟩ := hX.obj
  refine tz_aload_n C_ 1 rfl rfl td_W_law_1036 ?_
  refine tz_aload_n C_ 0 rfl rfl td_W_law_1037 ?_
  refine tz_iload_n C_ 3 rfl rfl td_W_law_1038 ?_
  refine tz_iconst C_ (v := 1) (by decide) td_W_law_1039 ?_
  refine tz_iadd C_ td_W_law_1040 ?_
  rw [show (nI i + 1 : Int32) = nI (i + 1) from nI_add i 1]
  refine tz_sld C_ hXs hbl hbA (k := i + 1) (by omega) (by omega) td_W_law_1041 ?_
  refine tz_aload_n C_ 0 rfl rfl td_W_law_1042 ?_
  refine tz_iload_n C_ 3 rfl rfl td_W_law_1043 ?_
  refine tz_iconst C_ (v := 2) (by decide) td_W_law_1044 ?_
  refine tz_iadd C_ td_W_law_1045 ?_
  rw [show (nI i + 2 : Int32) = nI (i + 2) from nI_add i 2]
  refine tz_sld C_ hXs hbl hbA (k := i + 2) (by omega) (by omega) td_W_law_1046 ?_
  refine tz_aload_n C_ 0 rfl rfl td_W_law_1047 ?_
  refine tz_iload_n C_ 3 rfl rfl td_W_law_1048 ?_
  refine tz_iconst C_ (v := 3) (by decide) td_W_law_1049 ?_
  refine tz_iadd C_ td_W_law_1050 ?_
  rw [show (nI i + 3 : Int32) = nI (i + 3) from nI_add i 3]
  refine tz_sld C_ hXs hbl hbA (k := i + 3) (by omega) (by omega) td_W_law_1051 ?_
  refine tz_aload_n C_ 0 rfl rfl td_W_law_1052 ?_
  refine tz_iload_n C_ 3 rfl rfl td_W_law_1053 ?_
  refine tz_iconst C_ (v := 4) (by decide) td_W_law_1054 ?_
  refine tz_iadd C_ td_W_law_1055 ?_
  rw [show (nI i + 4 : Int32) = nI (i + 4) from nI_add i 4]
  refine tz_sld C_ hXs hbl hbA (k := i + 4) (by omega) (by omega) td_W_law_1056 ?_
  refine tz_cV C_ tmi_X_seam tw_697 tw_698 tw_696 hB9 rfl (As := [.int (xs (i + 1)), .int (xs (i + 2)), .int (xs (i + 3)), .int (xs (i + 4))]) (by exact (ct_X_seam hX hW (by omega))) rfl (rest := []) rfl ⟨rfl, rfl, by show cells + 0 ≤ 600000; omega, by show slots + 0 ≤ 7302249; omega, by decide, by decide⟩ (Nat.le_of_ble_eq_true rfl) td_W_law_1057 (st1 := (.int (sp_seam σ (xs (i + 1)) (xs (i + 2)) (xs (i + 3)) (xs (i + 4))).1) :: []) rfl (fun f1 hF1 => ?_)
  obtain ⟨hX1, hq1⟩ := hF1
  have hM1 := hM.fr (fun q a1 => hq1 q (by omega))
  obtain ⟨fsM, hM9⟩ := hM1.obj
  refine tz_aload_n C_ 2 rfl rfl td_W_law_1060 ?_
  refine tz_aload_n C_ 0 rfl rfl td_W_law_1061 ?_
  refine tz_iload_n C_ 3 rfl rfl td_W_law_1062 ?_
  refine tz_iconst C_ (v := 1) (by decide) td_W_law_1063 ?_
  refine tz_iadd C_ td_W_law_1064 ?_
  rw [show (nI i + 1 : Int32) = nI (i + 1) from nI_add i 1]
  refine tz_sld C_ hXs hbl hbA (k := i + 1) (by omega) (by omega) td_W_law_1065 ?_
  refine tz_aload_n C_ 0 rfl rfl td_W_law_1066 ?_
  refine tz_iload_n C_ 3 rfl rfl td_W_law_1067 ?_
  refine tz_iconst C_ (v := 2) (by decide) td_W_law_1068 ?_
  refine tz_iadd C_ td_W_law_1069 ?_
  rw [show (nI i + 2 : Int32) = nI (i + 2) from nI_add i 2]
  refine tz_sld C_ hXs hbl hbA (k := i + 2) (by omega) (by omega) td_W_law_1070 ?_
  refine tz_aload_n C_ 0 rfl rfl td_W_law_1071 ?_
  refine tz_iload_n C_ 3 rfl rfl td_W_law_1072 ?_
  refine tz_iconst C_ (v := 3) (by decide) td_W_law_1073 ?_
  refine tz_iadd C_ td_W_law_1074 ?_
  rw [show (nI i + 3 : Int32) = nI (i + 3) from nI_add i 3]
  refine tz_sld C_ hXs hbl hbA (k := i + 3) (by omega) (by omega) td_W_law_1075 ?_
  refine tz_aload_n C_ 0 rfl rfl td_W_law_1076 ?_
  refine tz_iload_n C_ 3 rfl rfl td_W_law_1077 ?_
  refine tz_iconst C_ (v := 4) (by decide) td_W_law_1078 ?_
  refine tz_iadd C_ td_W_law_1079 ?_
  rw [show (nI i + 4 : Int32) = nI (i + 4) from nI_add i 4]
  refine tz_sld C_ hXs hbl hbA (k := i + 4) (by omega) (by omega) td_W_law_1080 ?_
  refine tz_cV C_ tmi_M_seam tw_1029 tw_1030 tw_1028 hM9 rfl (As := [.int (xs (i + 1)), .int (xs (i + 2)), .int (xs (i + 3)), .int (xs (i + 4))]) (by exact (ct_M_seam hM1 hW)) rfl (rest := [(.int (sp_seam σ (xs (i + 1)) (xs (i + 2)) (xs (i + 3)) (xs (i + 4))).1)]) rfl ⟨rfl, rfl, by show cells + 0 ≤ 600000; omega, by show slots + 0 ≤ 7302249; omega, by decide, by decide⟩ (Nat.le_of_ble_eq_true rfl) td_W_law_1081 (st1 := (.int (sp_seam σ (xs (i + 1)) (xs (i + 2)) (xs (i + 3)) (xs (i + 4))).1) :: [(.int (sp_seam σ (xs (i + 1)) (xs (i + 2)) (xs (i + 3)) (xs (i + 4))).1)]) rfl (fun f2 hF2 => ?_)
  obtain ⟨hM2, hq2⟩ := hF2
  have hX2 := hX1.fr (fun q a1 => hq2 q (by omega))
  refine tz_icmp_eq C_ td_W_law_1084 (fun _ => ?_) (fun h => absurd rfl h)
  exact tz_widen (by omega) (by omega) (kk f2 _ _ ⟨hX2, hM2, wf_seam hW⟩ hsz)

set_option maxHeartbeats 4000000 in
set_option maxRecDepth 100000 in
theorem lw_c_join {p : Program} {l : Launch} {e : Env} {s : State} {m : MethodId} {args : Array Value} {below : List Frame} {meth : Method} {c : Code} {Q : State → Prop} {A : Nat → Prop} {D : va_G} {cs : Nat → ClassId} (C_ : tz_Cx p s m args c A D cs "TapeBenchLaw" code 4) {b L i B sz cells slots : Nat} {xs : Nat → Int32} {f : tz_PH} {σ : tz_SG} (hXs : va_X b L xs s s.heap) (hbl : b < s.heap.size) (hbA : ¬ A b) (hA : ∀ q, B ≤ q → A q) (hi : i + 6 ≤ L) (hL : L ≤ 3072) (hI : lw_I cs f B σ) (hsz : B + 188 ≤ sz) (hcl : cells + 1 ≤ 600000) (hsl : slots + 4 ≤ 7302249)
    (kk : ∀ (f' : tz_PH) (σ' : tz_SG) (sz' : Nat), lw_I cs f' B σ' → B + 188 ≤ sz' → tz_V p l e room_1 s m args below meth c Q A D 4 f' sz' (cells + 1) (slots + 4) 1244 [(0, .ref b), (1, .ref B), (2, .ref (B + 179)), (3, .int (nI i))] []) : tz_V p l e room_1 s m args below meth c Q A D 4 f sz cells slots 1089 [(0, .ref b), (1, .ref B), (2, .ref (B + 179)), (3, .int (nI i))] [] := by
  obtain ⟨hX, hM, hW⟩ := id hI
  obtain ⟨fsB, hB9⟩ := hX.obj
  refine tz_aload_n C_ 1 rfl rfl td_W_law_1089 ?_
  refine tz_aload_n C_ 0 rfl rfl td_W_law_1090 ?_
  refine tz_iload_n C_ 3 rfl rfl td_W_law_1091 ?_
  refine tz_iconst C_ (v := 1) (by decide) td_W_law_1092 ?_
  refine tz_iadd C_ td_W_law_1093 ?_
  rw [show (nI i + 1 : Int32) = nI (i + 1) from nI_add i 1]
  refine tz_sld C_ hXs hbl hbA (k := i + 1) (by omega) (by omega) td_W_law_1094 ?_
  refine tz_aload_n C_ 0 rfl rfl td_W_law_1095 ?_
  refine tz_iload_n C_ 3 rfl rfl td_W_law_1096 ?_
  refine tz_iconst C_ (v := 2) (by decide) td_W_law_1097 ?_
  refine tz_iadd C_ td_W_law_1098 ?_
  rw [show (nI i + 2 : Int32) = nI (i + 2) from nI_add i 2]
  refine tz_sld C_ hXs hbl hbA (k := i + 2) (by omega) (by omega) td_W_law_1099 ?_
  refine tz_aload_n C_ 0 rfl rfl td_W_law_1100 ?_
  refine tz_iload_n C_ 3 rfl rfl td_W_law_1101 ?_
  refine tz_iconst C_ (v := 3) (by decide) td_W_law_1102 ?_
  refine tz_iadd C_ td_W_law_1103 ?_
  rw [show (nI i + 3 : Int32) = nI (i + 3) from nI_add i 3]
  refine tz_sld C_ hXs hbl hbA (k := i + 3) (by omega) (by omega) td_W_law_1104 ?_
  refine tz_aload_n C_ 0 rfl rfl td_W_law_1105 ?_
  refine tz_iload_n C_ 3 rfl rfl td_W_law_1106 ?_
  refine tz_iconst C_ (v := 4) (by decide) td_W_law_1107 ?_
  refine tz_iadd C_ td_W_law_1108 ?_
  rw [show (nI i + 4 : Int32) = nI (i + 4) from nI_add i 4]
  refine tz_sld C_ hXs hbl hbA (k := i + 4) (by omega) (by omega) td_W_law_1109 ?_
  refine tz_cV C_ tmi_X_join tw_704 tw_705 tw_703 hB9 rfl (As := [.int (xs (i + 1)), .int (xs (i + 2)), .int (xs (i + 3)), .int (xs (i + 4))]) (by exact (ct_X_join hX hW (by omega))) rfl (rest := []) rfl ⟨rfl, rfl, by show cells + 0 ≤ 600000; omega, by show slots + 0 ≤ 7302249; omega, by decide, by decide⟩ (Nat.le_of_ble_eq_true rfl) td_W_law_1110 (st1 := (.int (sp_join σ (xs (i + 1)) (xs (i + 2)) (xs (i + 3)) (xs (i + 4))).1) :: []) rfl (fun f1 hF1 => ?_)
  obtain ⟨hX1, hq1⟩ := hF1
  have hM1 := hM.fr (fun q a1 => hq1 q (by omega))
  obtain ⟨fsM, hM9⟩ := hM1.obj
  refine tz_aload_n C_ 2 rfl rfl td_W_law_1113 ?_
  refine tz_aload_n C_ 0 rfl rfl td_W_law_1114 ?_
  refine tz_iload_n C_ 3 rfl rfl td_W_law_1115 ?_
  refine tz_iconst C_ (v := 1) (by decide) td_W_law_1116 ?_
  refine tz_iadd C_ td_W_law_1117 ?_
  rw [show (nI i + 1 : Int32) = nI (i + 1) from nI_add i 1]
  refine tz_sld C_ hXs hbl hbA (k := i + 1) (by omega) (by omega) td_W_law_1118 ?_
  refine tz_aload_n C_ 0 rfl rfl td_W_law_1119 ?_
  refine tz_iload_n C_ 3 rfl rfl td_W_law_1120 ?_
  refine tz_iconst C_ (v := 2) (by decide) td_W_law_1121 ?_
  refine tz_iadd C_ td_W_law_1122 ?_
  rw [show (nI i + 2 : Int32) = nI (i + 2) from nI_add i 2]
  refine tz_sld C_ hXs hbl hbA (k := i + 2) (by omega) (by omega) td_W_law_1123 ?_
  refine tz_aload_n C_ 0 rfl rfl td_W_law_1124 ?_
  refine tz_iload_n C_ 3 rfl rfl td_W_law_1125 ?_
  refine tz_iconst C_ (v := 3) (by decide) td_W_law_1126 ?_
  refine tz_iadd C_ td_W_law_1127 ?_
  rw [show (nI i + 3 : Int32) = nI (i + 3) from nI_add i 3]
  refine tz_sld C_ hXs hbl hbA (k := i + 3) (by omega) (by omega) td_W_law_1128 ?_
  refine tz_aload_n C_ 0 rfl rfl td_W_law_1129 ?_
  refine tz_iload_n C_ 3 rfl rfl td_W_law_1130 ?_
  refine tz_iconst C_ (v := 4) (by decide) td_W_law_1131 ?_
  refine tz_iadd C_ td_W_law_1132 ?_
  rw [show (nI i + 4 : Int32) = nI (i + 4) from nI_add i 4]
  refine tz_sld C_ hXs hbl hbA (k := i + 4) (by omega) (by omega) td_W_law_1133 ?_
  refine tz_cV C_ tmi_M_join tw_1033 tw_1034 tw_1032 hM9 rfl (As := [.int (xs (i + 1)), .int (xs (i + 2)), .int (xs (i + 3)), .int (xs (i + 4))]) (by exact (ct_M_join hM1 hW)) rfl (rest := [(.int (sp_join σ (xs (i + 1)) (xs (i + 2)) (xs (i + 3)) (xs (i + 4))).1)]) rfl ⟨rfl, rfl, by show cells + 0 ≤ 600000; omega, by show slots + 0 ≤ 7302249; omega, by decide, by decide⟩ (Nat.le_of_ble_eq_true rfl) td_W_law_1134 (st1 := (.int (sp_join σ (xs (i + 1)) (xs (i + 2)) (xs (i + 3)) (xs (i + 4))).1) :: [(.int (sp_join σ (xs (i + 1)) (xs (i + 2)) (xs (i + 3)) (xs (i + 4))).1)]) rfl (fun f2 hF2 => ?_)
  obtain ⟨hM2, hq2⟩ := hF2
  have hX2 := hX1.fr (fun q a1 => hq2 q (by omega))
  refine tz_icmp_eq C_ td_W_law_1137 (fun _ => ?_) (fun h => absurd rfl h)
  exact tz_widen (by omega) (by omega) (kk f2 _ _ ⟨hX2, hM2, wf_join hW⟩ hsz)

set_option maxHeartbeats 4000000 in
set_option maxRecDepth 100000 in
theorem lw_c_mark {p : Program} {l : Launch} {e : Env} {s : State} {m : MethodId} {args : Array Value} {below : List Frame} {meth : Method} {c : Code} {Q : State → Prop} {A : Nat → Prop} {D : va_G} {cs : Nat → ClassId} (C_ : tz_Cx p s m args c A D cs "TapeBenchLaw" code 4) {b L i B sz cells slots : Nat} {xs : Nat → Int32} {f : tz_PH} {σ : tz_SG} (hXs : va_X b L xs s s.heap) (hbl : b < s.heap.size) (hbA : ¬ A b) (hA : ∀ q, B ≤ q → A q) (hi : i + 6 ≤ L) (hL : L ≤ 3072) (hI : lw_I cs f B σ) (hsz : B + 188 ≤ sz) (hcl : cells + 1 ≤ 600000) (hsl : slots + 4 ≤ 7302249)
    (kk : ∀ (f' : tz_PH) (σ' : tz_SG) (sz' : Nat), lw_I cs f' B σ' → B + 188 ≤ sz' → tz_V p l e room_1 s m args below meth c Q A D 4 f' sz' (cells + 1) (slots + 4) 1244 [(0, .ref b), (1, .ref B), (2, .ref (B + 179)), (3, .int (nI i))] []) : tz_V p l e room_1 s m args below meth c Q A D 4 f sz cells slots 1142 [(0, .ref b), (1, .ref B), (2, .ref (B + 179)), (3, .int (nI i))] [] := by
  obtain ⟨hX, hM, hW⟩ := id hI
  obtain ⟨fsB, hB9⟩ := hX.obj
  refine tz_aload_n C_ 1 rfl rfl td_W_law_1142 ?_
  refine tz_aload_n C_ 0 rfl rfl td_W_law_1143 ?_
  refine tz_iload_n C_ 3 rfl rfl td_W_law_1144 ?_
  refine tz_iconst C_ (v := 1) (by decide) td_W_law_1145 ?_
  refine tz_iadd C_ td_W_law_1146 ?_
  rw [show (nI i + 1 : Int32) = nI (i + 1) from nI_add i 1]
  refine tz_sld C_ hXs hbl hbA (k := i + 1) (by omega) (by omega) td_W_law_1147 ?_
  refine tz_aload_n C_ 0 rfl rfl td_W_law_1148 ?_
  refine tz_iload_n C_ 3 rfl rfl td_W_law_1149 ?_
  refine tz_iconst C_ (v := 2) (by decide) td_W_law_1150 ?_
  refine tz_iadd C_ td_W_law_1151 ?_
  rw [show (nI i + 2 : Int32) = nI (i + 2) from nI_add i 2]
  refine tz_sld C_ hXs hbl hbA (k := i + 2) (by omega) (by omega) td_W_law_1152 ?_
  refine tz_aload_n C_ 0 rfl rfl td_W_law_1153 ?_
  refine tz_iload_n C_ 3 rfl rfl td_W_law_1154 ?_
  refine tz_iconst C_ (v := 3) (by decide) td_W_law_1155 ?_
  refine tz_iadd C_ td_W_law_1156 ?_
  rw [show (nI i + 3 : Int32) = nI (i + 3) from nI_add i 3]
  refine tz_sld C_ hXs hbl hbA (k := i + 3) (by omega) (by omega) td_W_law_1157 ?_
  refine tz_cV C_ tmi_X_mark tw_708 tw_709 tw_707 hB9 rfl (As := [.int (xs (i + 1)), .int (xs (i + 2)), .int (xs (i + 3))]) (by exact (ct_X_mark hX hW (by omega))) rfl (rest := []) rfl ⟨rfl, rfl, by show cells + 0 ≤ 600000; omega, by show slots + 0 ≤ 7302249; omega, by decide, by decide⟩ (Nat.le_of_ble_eq_true rfl) td_W_law_1158 (st1 := (.int (sp_mark σ (xs (i + 1)) (xs (i + 2)) (xs (i + 3))).1) :: []) rfl (fun f1 hF1 => ?_)
  obtain ⟨hX1, hq1⟩ := hF1
  have hM1 := hM.fr (fun q a1 => hq1 q (by omega))
  obtain ⟨fsM, hM9⟩ := hM1.obj
  refine tz_aload_n C_ 2 rfl rfl td_W_law_1161 ?_
  refine tz_aload_n C_ 0 rfl rfl td_W_law_1162 ?_
  refine tz_iload_n C_ 3 rfl rfl td_W_law_1163 ?_
  refine tz_iconst C_ (v := 1) (by decide) td_W_law_1164 ?_
  refine tz_iadd C_ td_W_law_1165 ?_
  rw [show (nI i + 1 : Int32) = nI (i + 1) from nI_add i 1]
  refine tz_sld C_ hXs hbl hbA (k := i + 1) (by omega) (by omega) td_W_law_1166 ?_
  refine tz_aload_n C_ 0 rfl rfl td_W_law_1167 ?_
  refine tz_iload_n C_ 3 rfl rfl td_W_law_1168 ?_
  refine tz_iconst C_ (v := 2) (by decide) td_W_law_1169 ?_
  refine tz_iadd C_ td_W_law_1170 ?_
  rw [show (nI i + 2 : Int32) = nI (i + 2) from nI_add i 2]
  refine tz_sld C_ hXs hbl hbA (k := i + 2) (by omega) (by omega) td_W_law_1171 ?_
  refine tz_aload_n C_ 0 rfl rfl td_W_law_1172 ?_
  refine tz_iload_n C_ 3 rfl rfl td_W_law_1173 ?_
  refine tz_iconst C_ (v := 3) (by decide) td_W_law_1174 ?_
  refine tz_iadd C_ td_W_law_1175 ?_
  rw [show (nI i + 3 : Int32) = nI (i + 3) from nI_add i 3]
  refine tz_sld C_ hXs hbl hbA (k := i + 3) (by omega) (by omega) td_W_law_1176 ?_
  refine tz_cV C_ tmi_M_mark tw_1037 tw_1038 tw_1036 hM9 rfl (As := [.int (xs (i + 1)), .int (xs (i + 2)), .int (xs (i + 3))]) (by exact (ct_M_mark hM1 hW)) rfl (rest := [(.int (sp_mark σ (xs (i + 1)) (xs (i + 2)) (xs (i + 3))).1)]) rfl ⟨rfl, rfl, by show cells + 0 ≤ 600000; omega, by show slots + 0 ≤ 7302249; omega, by decide, by decide⟩ (Nat.le_of_ble_eq_true rfl) td_W_law_1177 (st1 := (.int (sp_mark σ (xs (i + 1)) (xs (i + 2)) (xs (i + 3))).1) :: [(.int (sp_mark σ (xs (i + 1)) (xs (i + 2)) (xs (i + 3))).1)]) rfl (fun f2 hF2 => ?_)
  obtain ⟨hM2, hq2⟩ := hF2
  have hX2 := hX1.fr (fun q a1 => hq2 q (by omega))
  refine tz_icmp_eq C_ td_W_law_1180 (fun _ => ?_) (fun h => absurd rfl h)
  exact tz_widen (by omega) (by omega) (kk f2 _ _ ⟨hX2, hM2, wf_mark hW⟩ hsz)

set_option maxHeartbeats 4000000 in
set_option maxRecDepth 100000 in
theorem lw_c_moment {p : Program} {l : Launch} {e : Env} {s : State} {m : MethodId} {args : Array Value} {below : List Frame} {meth : Method} {c : Code} {Q : State → Prop} {A : Nat → Prop} {D : va_G} {cs : Nat → ClassId} (C_ : tz_Cx p s m args c A D cs "TapeBenchLaw" code 4) {b L i B sz cells slots : Nat} {xs : Nat → Int32} {f : tz_PH} {σ : tz_SG} (hXs : va_X b L xs s s.heap) (hbl : b < s.heap.size) (hbA : ¬ A b) (hA : ∀ q, B ≤ q → A q) (hi : i + 6 ≤ L) (hL : L ≤ 3072) (hI : lw_I cs f B σ) (hsz : B + 188 ≤ sz) (hcl : cells + 1 ≤ 600000) (hsl : slots + 4 ≤ 7302249)
    (kk : ∀ (f' : tz_PH) (σ' : tz_SG) (sz' : Nat), lw_I cs f' B σ' → B + 188 ≤ sz' → tz_V p l e room_1 s m args below meth c Q A D 4 f' sz' (cells + 1) (slots + 4) 1244 [(0, .ref b), (1, .ref B), (2, .ref (B + 179)), (3, .int (nI i))] []) : tz_V p l e room_1 s m args below meth c Q A D 4 f sz cells slots 1185 [(0, .ref b), (1, .ref B), (2, .ref (B + 179)), (3, .int (nI i))] [] := by
  obtain ⟨hX, hM, hW⟩ := id hI
  obtain ⟨fsB, hB9⟩ := hX.obj
  refine tz_aload_n C_ 1 rfl rfl td_W_law_1185 ?_
  refine tz_aload_n C_ 0 rfl rfl td_W_law_1186 ?_
  refine tz_iload_n C_ 3 rfl rfl td_W_law_1187 ?_
  refine tz_iconst C_ (v := 1) (by decide) td_W_law_1188 ?_
  refine tz_iadd C_ td_W_law_1189 ?_
  rw [show (nI i + 1 : Int32) = nI (i + 1) from nI_add i 1]
  refine tz_sld C_ hXs hbl hbA (k := i + 1) (by omega) (by omega) td_W_law_1190 ?_
  refine tz_cV C_ tmi_X_moment tw_715 tw_716 tw_714 hB9 rfl (As := [.int (xs (i + 1))]) (by exact (ct_X_moment hX hW (by omega))) rfl (rest := []) rfl ⟨rfl, rfl, by show cells + 0 ≤ 600000; omega, by show slots + 0 ≤ 7302249; omega, by decide, by decide⟩ (Nat.le_of_ble_eq_true rfl) td_W_law_1191 (st1 := (.int (sp_moment σ (xs (i + 1))).1) :: []) rfl (fun f1 hF1 => ?_)
  obtain ⟨hX1, hq1⟩ := hF1
  have hM1 := hM.fr (fun q a1 => hq1 q (by omega))
  obtain ⟨fsM, hM9⟩ := hM1.obj
  refine tz_aload_n C_ 2 rfl rfl td_W_law_1194 ?_
  refine tz_aload_n C_ 0 rfl rfl td_W_law_1195 ?_
  refine tz_iload_n C_ 3 rfl rfl td_W_law_1196 ?_
  refine tz_iconst C_ (v := 1) (by decide) td_W_law_1197 ?_
  refine tz_iadd C_ td_W_law_1198 ?_
  rw [show (nI i + 1 : Int32) = nI (i + 1) from nI_add i 1]
  refine tz_sld C_ hXs hbl hbA (k := i + 1) (by omega) (by omega) td_W_law_1199 ?_
  refine tz_cV C_ tmi_M_moment tw_1041 tw_1042 tw_1040 hM9 rfl (As := [.int (xs (i + 1))]) (by exact (ct_M_moment hM1 hW)) rfl (rest := [(.int (sp_moment σ (xs (i + 1))).1)]) rfl ⟨rfl, rfl, by show cells + 0 ≤ 600000; omega, by show slots + 0 ≤ 7302249; omega, by decide, by decide⟩ (Nat.le_of_ble_eq_true rfl) td_W_law_1200 (st1 := (.int (sp_moment σ (xs (i + 1))).1) :: [(.int (sp_moment σ (xs (i + 1))).1)]) rfl (fun f2 hF2 => ?_)
  obtain ⟨hM2, hq2⟩ := hF2
  have hX2 := hX1.fr (fun q a1 => hq2 q (by omega))
  refine tz_icmp_eq C_ td_W_law_1203 (fun _ => ?_) (fun h => absurd rfl h)
  exact tz_widen (by omega) (by omega) (kk f2 _ _ ⟨hX2, hM2, wf_moment hW⟩ hsz)

set_option maxHeartbeats 4000000 in
set_option maxRecDepth 100000 in
theorem lw_c_undo {p : Program} {l : Launch} {e : Env} {s : State} {m : MethodId} {args : Array Value} {below : List Frame} {meth : Method} {c : Code} {Q : State → Prop} {A : Nat → Prop} {D : va_G} {cs : Nat → ClassId} (C_ : tz_Cx p s m args c A D cs "TapeBenchLaw" code 4) {b L i B sz cells slots : Nat} {xs : Nat → Int32} {f : tz_PH} {σ : tz_SG} (hXs : va_X b L xs s s.heap) (hbl : b < s.heap.size) (hbA : ¬ A b) (hA : ∀ q, B ≤ q → A q) (hi : i + 6 ≤ L) (hL : L ≤ 3072) (hI : lw_I cs f B σ) (hsz : B + 188 ≤ sz) (hcl : cells + 1 ≤ 600000) (hsl : slots + 4 ≤ 7302249)
    (kk : ∀ (f' : tz_PH) (σ' : tz_SG) (sz' : Nat), lw_I cs f' B σ' → B + 188 ≤ sz' → tz_V p l e room_1 s m args below meth c Q A D 4 f' sz' (cells + 1) (slots + 4) 1244 [(0, .ref b), (1, .ref B), (2, .ref (B + 179)), (3, .int (nI i))] []) : tz_V p l e room_1 s m args below meth c Q A D 4 f sz cells slots 1208 [(0, .ref b), (1, .ref B), (2, .ref (B + 179)), (3, .int (nI i))] [] := by
  obtain ⟨hX, hM, hW⟩ := id hI
  obtain ⟨fsB, hB9⟩ := hX.obj
  refine tz_aload_n C_ 1 rfl rfl td_W_law_1208 ?_
  refine tz_cV C_ tmi_X_undo tw_723 tw_724 tw_722 hB9 rfl (As := []) (by exact (ct_X_undo hX hW (by omega))) rfl (rest := []) rfl ⟨rfl, rfl, by show cells + 0 ≤ 600000; omega, by show slots + 0 ≤ 7302249; omega, by decide, by decide⟩ (Nat.le_of_ble_eq_true rfl) td_W_law_1209 (st1 := (.int (sp_undo σ ).1) :: []) rfl (fun f1 hF1 => ?_)
  obtain ⟨hX1, hq1⟩ := hF1
  have hM1 := hM.fr (fun q a1 => hq1 q (by omega))
  obtain ⟨fsM, hM9⟩ := hM1.obj
  refine tz_aload_n C_ 2 rfl rfl td_W_law_1212 ?_
  refine tz_cV C_ tmi_M_undo tw_794 tw_795 tw_793 hM9 rfl (As := []) (by exact (ct_M_undo hM1 hW)) rfl (rest := [(.int (sp_undo σ ).1)]) rfl ⟨rfl, rfl, by show cells + 0 ≤ 600000; omega, by show slots + 0 ≤ 7302249; omega, by decide, by decide⟩ (Nat.le_of_ble_eq_true rfl) td_W_law_1213 (st1 := (.int (sp_undo σ ).1) :: [(.int (sp_undo σ ).1)]) rfl (fun f2 hF2 => ?_)
  obtain ⟨hM2, hq2⟩ := hF2
  have hX2 := hX1.fr (fun q a1 => hq2 q (by omega))
  refine tz_icmp_eq C_ td_W_law_1216 (fun _ => ?_) (fun h => absurd rfl h)
  exact tz_widen (by omega) (by omega) (kk f2 _ _ ⟨hX2, hM2, wf_undo hW⟩ hsz)

set_option maxHeartbeats 4000000 in
set_option maxRecDepth 100000 in
theorem lw_c_count {p : Program} {l : Launch} {e : Env} {s : State} {m : MethodId} {args : Array Value} {below : List Frame} {meth : Method} {c : Code} {Q : State → Prop} {A : Nat → Prop} {D : va_G} {cs : Nat → ClassId} (C_ : tz_Cx p s m args c A D cs "TapeBenchLaw" code 4) {b L i B sz cells slots : Nat} {xs : Nat → Int32} {f : tz_PH} {σ : tz_SG} (hXs : va_X b L xs s s.heap) (hbl : b < s.heap.size) (hbA : ¬ A b) (hA : ∀ q, B ≤ q → A q) (hi : i + 6 ≤ L) (hL : L ≤ 3072) (hI : lw_I cs f B σ) (hsz : B + 188 ≤ sz) (hcl : cells + 1 ≤ 600000) (hsl : slots + 4 ≤ 7302249)
    (kk : ∀ (f' : tz_PH) (σ' : tz_SG) (sz' : Nat), lw_I cs f' B σ' → B + 188 ≤ sz' → tz_V p l e room_1 s m args below meth c Q A D 4 f' sz' (cells + 1) (slots + 4) 1244 [(0, .ref b), (1, .ref B), (2, .ref (B + 179)), (3, .int (nI i))] []) : tz_V p l e room_1 s m args below meth c Q A D 4 f sz cells slots 1221 [(0, .ref b), (1, .ref B), (2, .ref (B + 179)), (3, .int (nI i))] [] := by
  obtain ⟨hX, hM, hW⟩ := id hI
  obtain ⟨fsB, hB9⟩ := hX.obj
  refine tz_aload_n C_ 1 rfl rfl td_W_law_1221 ?_
  refine tz_aload_n C_ 0 rfl rfl td_W_law_1222 ?_
  refine tz_iload_n C_ 3 rfl rfl td_W_law_1223 ?_
  refine tz_iconst C_ (v := 1) (by decide) td_W_law_1224 ?_
  refine tz_iadd C_ td_W_law_1225 ?_
  rw [show (nI i + 1 : Int32) = nI (i + 1) from nI_add i 1]
  refine tz_sld C_ hXs hbl hbA (k := i + 1) (by omega) (by omega) td_W_law_1226 ?_
  refine tz_cV C_ tmi_X_count tw_736 tw_737 tw_735 hB9 rfl (As := [.int (xs (i + 1))]) (by exact (ct_X_count hX hW (by omega))) rfl (rest := []) rfl ⟨rfl, rfl, by show cells + 0 ≤ 600000; omega, by show slots + 0 ≤ 7302249; omega, by decide, by decide⟩ (Nat.le_of_ble_eq_true rfl) td_W_law_1227 (st1 := (.int (sp_count σ (xs (i + 1))).1) :: []) rfl (fun f1 hF1 => ?_)
  obtain ⟨hX1, hq1⟩ := hF1
  have hM1 := hM.fr (fun q a1 => hq1 q (by omega))
  obtain ⟨fsM, hM9⟩ := hM1.obj
  refine tz_aload_n C_ 2 rfl rfl td_W_law_1230 ?_
  refine tz_aload_n C_ 0 rfl rfl td_W_law_1231 ?_
  refine tz_iload_n C_ 3 rfl rfl td_W_law_1232 ?_
  refine tz_iconst C_ (v := 1) (by decide) td_W_law_1233 ?_
  refine tz_iadd C_ td_W_law_1234 ?_
  rw [show (nI i + 1 : Int32) = nI (i + 1) from nI_add i 1]
  refine tz_sld C_ hXs hbl hbA (k := i + 1) (by omega) (by omega) td_W_law_1235 ?_
  refine tz_cV C_ tmi_M_count tw_1049 tw_1050 tw_1048 hM9 rfl (As := [.int (xs (i + 1))]) (by exact (ct_M_count hM1 hW)) rfl (rest := [(.int (sp_count σ (xs (i + 1))).1)]) rfl ⟨rfl, rfl, by show cells + 0 ≤ 600000; omega, by show slots + 0 ≤ 7302249; omega, by decide, by decide⟩ (Nat.le_of_ble_eq_true rfl) td_W_law_1236 (st1 := (.int (sp_count σ (xs (i + 1))).1) :: [(.int (sp_count σ (xs (i + 1))).1)]) rfl (fun f2 hF2 => ?_)
  obtain ⟨hM2, hq2⟩ := hF2
  have hX2 := hX1.fr (fun q a1 => hq2 q (by omega))
  refine tz_icmp_eq C_ td_W_law_1239 (fun _ => ?_) (fun h => absurd rfl h)
  exact tz_widen (by omega) (by omega) (kk f2 _ _ ⟨hX2, hM2, wf_count hW⟩ hsz)
