
theorem lw_arrI {args : Array Value} {s : State} (h : (Cond.arrayClass .int).before args s = true) : ∃ cA, ArrOfT s cA .int ∧ va_RA s cA .int := by
  obtain ⟨cA, kA, comp, h1, h2, h3⟩ := Cond.arrayClass_spec h
  exact ⟨cA, fun n z => ⟨fun k h => (by cases h), kA, h2, comp, h3⟩, h1⟩
theorem lw_arrO {args : Array Value} {s : State} {C : String} (h : (Cond.arrayOver (.object C)).before args s = true) : ∃ cA, ArrOfT s cA (.object C) ∧ va_RA s cA (.object C) := by
  obtain ⟨comp, cA, kA, h1, -, h2, h3, h4⟩ := Cond.arrayOver_spec h
  exact ⟨cA, fun n z => ⟨fun k h => (by cases h), kA, h2, comp, h3⟩, kA, comp, h2, h3, h1, h4⟩
theorem lw_SA_LOWEST_A {args : Array Value} {s : State} (hts : ∀ w ∈ lw_tbl, w.before args s = true) (hgv : (Jvm.Cond.and given_1 narrow_1).before args s = true) : tz_SA "LOWEST_A" tz_low (fun q : Nat => s.heap.size ≤ q) s s.heap := by
  have hs := flat_of_before _ hgv
  have h0 : (Cond.arrayOf (Term.static "TapeBench" "LOWEST_A" "[I") .int).before args s = true := hs _ (by decide +kernel)
  have h1 : (Cond.eq (Term.length (Term.static "TapeBench" "LOWEST_A" "[I")) (Term.int 7)).before args s = true := hs _ (by decide +kernel)
  have e0 : (Cond.eq (Term.elem (Term.static "TapeBench" "LOWEST_A" "[I") (Term.int 0)) (Term.int (-400))).before args s = true := hs _ (by decide +kernel)
  have e1 : (Cond.eq (Term.elem (Term.static "TapeBench" "LOWEST_A" "[I") (Term.int 1)) (Term.int (1))).before args s = true := hs _ (by decide +kernel)
  have e2 : (Cond.eq (Term.elem (Term.static "TapeBench" "LOWEST_A" "[I") (Term.int 2)) (Term.int (0))).before args s = true := hs _ (by decide +kernel)
  have e3 : (Cond.eq (Term.elem (Term.static "TapeBench" "LOWEST_A" "[I") (Term.int 3)) (Term.int (1))).before args s = true := hs _ (by decide +kernel)
  have e4 : (Cond.eq (Term.elem (Term.static "TapeBench" "LOWEST_A" "[I") (Term.int 4)) (Term.int (1))).before args s = true := hs _ (by decide +kernel)
  have e5 : (Cond.eq (Term.elem (Term.static "TapeBench" "LOWEST_A" "[I") (Term.int 5)) (Term.int (0))).before args s = true := hs _ (by decide +kernel)
  have e6 : (Cond.eq (Term.elem (Term.static "TapeBench" "LOWEST_A" "[I") (Term.int 6)) (Term.int (1))).before args s = true := hs _ (by decide +kernel)
  have hA : ∀ a : Nat, a < s.heap.size → ¬ (fun q : Nat => s.heap.size ≤ q) a := fun a h => Nat.not_le.mpr h
  obtain ⟨t, ht, hT⟩ := va_Tof (tm := (Term.static "TapeBench" "LOWEST_A" "[I")) (ty := .int) (N := 7) (f := fun j => .int (tz_low j)) (A := fun q : Nat => s.heap.size ≤ q) (by decide) h0 (va_eqt h1) (fun j hj => by
    rcases (show j = 0 ∨ j = 1 ∨ j = 2 ∨ j = 3 ∨ j = 4 ∨ j = 5 ∨ j = 6 by omega) with rfl | rfl | rfl | rfl | rfl | rfl | rfl
    · exact va_eqt e0
    · exact va_eqt e1
    · exact va_eqt e2
    · exact va_eqt e3
    · exact va_eqt e4
    · exact va_eqt e5
    · exact va_eqt e6
    ) hA
  exact ⟨t, va_Zof (hts _ (tz_memL 474 (by decide +kernel))) (hts _ (tz_memL 42 (by decide +kernel))) ht hA, hT⟩
theorem lw_SA_HIGHEST_A {args : Array Value} {s : State} (hts : ∀ w ∈ lw_tbl, w.before args s = true) (hgv : (Jvm.Cond.and given_1 narrow_1).before args s = true) : tz_SA "HIGHEST_A" tz_high (fun q : Nat => s.heap.size ≤ q) s s.heap := by
  have hs := flat_of_before _ hgv
  have h0 : (Cond.arrayOf (Term.static "TapeBench" "HIGHEST_A" "[I") .int).before args s = true := hs _ (by decide +kernel)
  have h1 : (Cond.eq (Term.length (Term.static "TapeBench" "HIGHEST_A" "[I")) (Term.int 7)).before args s = true := hs _ (by decide +kernel)
  have e0 : (Cond.eq (Term.elem (Term.static "TapeBench" "HIGHEST_A" "[I") (Term.int 0)) (Term.int (400))).before args s = true := hs _ (by decide +kernel)
  have e1 : (Cond.eq (Term.elem (Term.static "TapeBench" "HIGHEST_A" "[I") (Term.int 1)) (Term.int (40000))).before args s = true := hs _ (by decide +kernel)
  have e2 : (Cond.eq (Term.elem (Term.static "TapeBench" "HIGHEST_A" "[I") (Term.int 2)) (Term.int (3))).before args s = true := hs _ (by decide +kernel)
  have e3 : (Cond.eq (Term.elem (Term.static "TapeBench" "HIGHEST_A" "[I") (Term.int 3)) (Term.int (20))).before args s = true := hs _ (by decide +kernel)
  have e4 : (Cond.eq (Term.elem (Term.static "TapeBench" "HIGHEST_A" "[I") (Term.int 4)) (Term.int (30))).before args s = true := hs _ (by decide +kernel)
  have e5 : (Cond.eq (Term.elem (Term.static "TapeBench" "HIGHEST_A" "[I") (Term.int 5)) (Term.int (119))).before args s = true := hs _ (by decide +kernel)
  have e6 : (Cond.eq (Term.elem (Term.static "TapeBench" "HIGHEST_A" "[I") (Term.int 6)) (Term.int (120))).before args s = true := hs _ (by decide +kernel)
  have hA : ∀ a : Nat, a < s.heap.size → ¬ (fun q : Nat => s.heap.size ≤ q) a := fun a h => Nat.not_le.mpr h
  obtain ⟨t, ht, hT⟩ := va_Tof (tm := (Term.static "TapeBench" "HIGHEST_A" "[I")) (ty := .int) (N := 7) (f := fun j => .int (tz_high j)) (A := fun q : Nat => s.heap.size ≤ q) (by decide) h0 (va_eqt h1) (fun j hj => by
    rcases (show j = 0 ∨ j = 1 ∨ j = 2 ∨ j = 3 ∨ j = 4 ∨ j = 5 ∨ j = 6 by omega) with rfl | rfl | rfl | rfl | rfl | rfl | rfl
    · exact va_eqt e0
    · exact va_eqt e1
    · exact va_eqt e2
    · exact va_eqt e3
    · exact va_eqt e4
    · exact va_eqt e5
    · exact va_eqt e6
    ) hA
  exact ⟨t, va_Zof (hts _ (tz_memL 476 (by decide +kernel))) (hts _ (tz_memL 42 (by decide +kernel))) ht hA, hT⟩
theorem lw_SA_KIND_ABOVE {args : Array Value} {s : State} (hts : ∀ w ∈ lw_tbl, w.before args s = true) (hgv : (Jvm.Cond.and given_1 narrow_1).before args s = true) : tz_SA "KIND_ABOVE" tz_abov (fun q : Nat => s.heap.size ≤ q) s s.heap := by
  have hs := flat_of_before _ hgv
  have h0 : (Cond.arrayOf (Term.static "TapeBench" "KIND_ABOVE" "[I") .int).before args s = true := hs _ (by decide +kernel)
  have h1 : (Cond.eq (Term.length (Term.static "TapeBench" "KIND_ABOVE" "[I")) (Term.int 7)).before args s = true := hs _ (by decide +kernel)
  have e0 : (Cond.eq (Term.elem (Term.static "TapeBench" "KIND_ABOVE" "[I") (Term.int 0)) (Term.int (-1))).before args s = true := hs _ (by decide +kernel)
  have e1 : (Cond.eq (Term.elem (Term.static "TapeBench" "KIND_ABOVE" "[I") (Term.int 1)) (Term.int (-1))).before args s = true := hs _ (by decide +kernel)
  have e2 : (Cond.eq (Term.elem (Term.static "TapeBench" "KIND_ABOVE" "[I") (Term.int 2)) (Term.int (1))).before args s = true := hs _ (by decide +kernel)
  have e3 : (Cond.eq (Term.elem (Term.static "TapeBench" "KIND_ABOVE" "[I") (Term.int 3)) (Term.int (1))).before args s = true := hs _ (by decide +kernel)
  have e4 : (Cond.eq (Term.elem (Term.static "TapeBench" "KIND_ABOVE" "[I") (Term.int 4)) (Term.int (-1))).before args s = true := hs _ (by decide +kernel)
  have e5 : (Cond.eq (Term.elem (Term.static "TapeBench" "KIND_ABOVE" "[I") (Term.int 5)) (Term.int (4))).before args s = true := hs _ (by decide +kernel)
  have e6 : (Cond.eq (Term.elem (Term.static "TapeBench" "KIND_ABOVE" "[I") (Term.int 6)) (Term.int (-1))).before args s = true := hs _ (by decide +kernel)
  have hA : ∀ a : Nat, a < s.heap.size → ¬ (fun q : Nat => s.heap.size ≤ q) a := fun a h => Nat.not_le.mpr h
  obtain ⟨t, ht, hT⟩ := va_Tof (tm := (Term.static "TapeBench" "KIND_ABOVE" "[I")) (ty := .int) (N := 7) (f := fun j => .int (tz_abov j)) (A := fun q : Nat => s.heap.size ≤ q) (by decide) h0 (va_eqt h1) (fun j hj => by
    rcases (show j = 0 ∨ j = 1 ∨ j = 2 ∨ j = 3 ∨ j = 4 ∨ j = 5 ∨ j = 6 by omega) with rfl | rfl | rfl | rfl | rfl | rfl | rfl
    · exact va_eqt e0
    · exact va_eqt e1
    · exact va_eqt e2
    · exact va_eqt e3
    · exact va_eqt e4
    · exact va_eqt e5
    · exact va_eqt e6
    ) hA
  exact ⟨t, va_Zof (hts _ (tz_memL 555 (by decide +kernel))) (hts _ (tz_memL 42 (by decide +kernel))) ht hA, hT⟩

set_option maxHeartbeats 4000000 in
set_option maxRecDepth 100000 in
theorem whole_start {p : Program} {e : Env} {s : State} {m : MethodId} {below : List Frame} {meth : Method} {c : Code} (l : Launch) {b L : Nat} {xs : Nat → Int32} (hL : L ≤ 3072) (C0 : lw_At p s m meth c b L xs) : W p l e room_1 s m #[Value.ref b] below meth c s.heap [] 0 0 (lw_Z below #[Value.ref b] s) (entryFrame m ([Value.ref b] : List Value).toArray 4) := by
  obtain ⟨hx, hb, hr, hml, hown, hts, hX, hbl, hlocks, hgv⟩ := id C0
  have htT : ∀ w ∈ tz_TT, w.before #[Value.ref b] s = true := fun w hw => hts w (List.mem_filter.mp hw).1
  obtain ⟨c0, i0, k0⟩ := u_known (C := "TapeBench$Aligner") (T := tT_A) (N := 2) (n := 2) htT tin_A (htT _ tw_198)
  obtain ⟨c1, i1, k1⟩ := u_known (C := "TapeBench$History") (T := tT_H) (N := 3) (n := 3) htT tin_H (htT _ tw_125)
  obtain ⟨c2, i2, k2⟩ := u_known (C := "TapeBench$Layer") (T := tT_L) (N := 4) (n := 4) htT tin_L (htT _ tw_483)
  obtain ⟨c3, i3, k3⟩ := u_known (C := "TapeBench$Layers") (T := tT_S) (N := 2) (n := 2) htT tin_S (htT _ tw_74)
  obtain ⟨c4, i4, k4⟩ := u_known (C := "TapeBench$Player") (T := tT_P) (N := 5) (n := 5) htT tin_P (htT _ tw_211)
  obtain ⟨c5, i5, k5⟩ := u_known (C := "TapeBench$Row") (T := tT_R) (N := 2) (n := 2) htT tin_R (htT _ tw_88)
  obtain ⟨c6, i6, k6⟩ := u_known (C := "TapeBench$Sheet") (T := tT_Q) (N := 3) (n := 3) htT tin_Q (htT _ tw_169)
  obtain ⟨c7, i7, k7⟩ := u_known (C := "TapeBench$Step") (T := tT_E) (N := 5) (n := 5) htT tin_E (htT _ tw_132)
  obtain ⟨c8, i8, k8⟩ := u_known (C := "TapeBench$Tape") (T := tT_T) (N := 4) (n := 4) htT tin_T (htT _ tw_66)
  obtain ⟨c9, i9, k9⟩ := u_known (C := "TapeBench$Turns") (T := tT_U) (N := 2) (n := 2) htT tin_U (htT _ tw_185)
  obtain ⟨c10, i10, k10⟩ := u_known (C := "TapeBench") (T := tT_X) (N := 8) (n := 8) htT tin_X (htT _ tw_58)
  obtain ⟨c11, i11, k11⟩ := u_known (C := "TapeBenchModel") (T := tT_M) (N := 13) (n := 13) htT tin_M (htT _ tw_748)
  obtain ⟨D, hKc⟩ : ∃ D : va_G, ∀ (k : Nat) (q : vw_C), classes[k]? = some q → u_Kn s q.1 q.2.1 q.2.2 (D.1 k) (D.2 k) := by
    refine ⟨(fun k => match k with | 0 => c0 | 1 => c1 | 2 => c2 | 3 => c3 | 4 => c4 | 5 => c5 | 6 => c6 | 7 => c7 | 8 => c8 | 9 => c9 | 10 => c10 | _ => c11, fun k => match k with | 0 => i0 | 1 => i1 | 2 => i2 | 3 => i3 | 4 => i4 | 5 => i5 | 6 => i6 | 7 => i7 | 8 => i8 | 9 => i9 | 10 => i10 | _ => i11), ?_⟩
    intro k q hq
    match k, hq with
    | 0, hq => cases hq; exact k0
    | 1, hq => cases hq; exact k1
    | 2, hq => cases hq; exact k2
    | 3, hq => cases hq; exact k3
    | 4, hq => cases hq; exact k4
    | 5, hq => cases hq; exact k5
    | 6, hq => cases hq; exact k6
    | 7, hq => cases hq; exact k7
    | 8, hq => cases hq; exact k8
    | 9, hq => cases hq; exact k9
    | 10, hq => cases hq; exact k10
    | 11, hq => cases hq; exact k11
    | k + 12, hq => simp [classes] at hq
  obtain ⟨a0, r0⟩ := lw_arrI (htT _ tw_100)
  obtain ⟨a1, r1⟩ := lw_arrO (hts _ tw_72)
  obtain ⟨a2, r2⟩ := lw_arrO (hts _ tw_131)
  obtain ⟨a3, r3⟩ := lw_arrO (hts _ tw_168)
  obtain ⟨a4, r4⟩ := lw_arrO (hts _ tw_80)
  obtain ⟨cs, hcs⟩ : ∃ cs : Nat → ClassId, ∀ (k : Nat) (q : ClassId × FieldType), (tz_tys cs)[k]? = some q → ArrOfT s q.1 q.2 ∧ va_RA s q.1 q.2 := by
    refine ⟨fun k => match k with | 0 => a0 | 1 => a1 | 2 => a2 | 3 => a3 | _ => a4, ?_⟩
    intro k q hq
    match k, hq with
    | 0, hq => cases hq; exact r0
    | 1, hq => cases hq; exact r1
    | 2, hq => cases hq; exact r2
    | 3, hq => cases hq; exact r3
    | 4, hq => cases hq; exact r4
    | k + 5, hq => simp [tz_tys] at hq
  have hE : tz_E D cs (fun q : Nat => s.heap.size ≤ q) s := ⟨⟨hKc, hcs⟩, fun a i y h hm => va_Nw.of rfl (hts _ hm), fun a i b n d h hm => va_Nw.of rfl (hts _ hm), fun C hC => va_AO.of (hts _ hC), lw_SA_LOWEST_A hts hgv, lw_SA_HIGHEST_A hts hgv, lw_SA_KIND_ABOVE hts hgv⟩
  have C_ : tz_Cx p s m #[Value.ref b] c (fun q : Nat => s.heap.size ≤ q) D cs "TapeBenchLaw" code 4 := ⟨hx, hb, hml, hown, htT, hE⟩
  have hl := lv_entry ([.ref b]) (n := 4) (Nat.le_of_ble_eq_true rfl)
  rw [lg_entry_eq]
  generalize (lg_sl ([.ref b]) ++ List.replicate (4 - (lg_sl ([.ref b])).length) Slot.unset).toArray = ls at hl ⊢
  have hl : lv_has ls 4 [(0, .ref b)] := hl
  exact lw_begin (B := s.heap.size) (f := fun _ => none) C_ hr hlocks hX hbl (Nat.not_le.mpr hbl) (fun _ h => h) (fun _ h => h) hL s.heap [] ls rfl (fun a e h => by cases h) va_S.rf hl
