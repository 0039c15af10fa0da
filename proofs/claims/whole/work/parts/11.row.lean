abbrev rm_R_length : Room := { frames := 0, cells := 0, slots := 0, locals := 0 }
set_option maxHeartbeats 4000000 in
set_option maxRecDepth 100000 in
theorem ct_R_length {l : Launch} {A : Nat → Prop} {D : va_G} {cs : Nat → ClassId} {sz : Nat} {f : tz_PH} {a n : Nat} {g : Nat → Int32} (hR : tz_Row cs f a n g) : tz_CN l tyR_length prog_7_method_2_code 1 (some (.int)) rm_R_length 0 0 A D cs sz [.ref a] f (some (.int (nI n))) (fun f' => f' = f) := by
  refine tz_C.ofB (lv0 := [(0, .ref a)]) (plainFor_of_name (by decide)) (Nat.le_of_ble_eq_true rfl) rfl ?_
  intro p e s m args below meth c Q C hr hk hnm hsz0 hQ
  refine tz_aload_n C 0 rfl rfl td_R_length_0 ?_
  refine tz_get C tci_R 1 (by decide) tw_94 hR.1 rfl td_R_length_1 ?_
  refine tz_riret C hr hk hQ rfl td_R_length_4 ?_
  exact ⟨rfl, rfl⟩

abbrev rm_R_has : Room := { frames := 0, cells := 0, slots := 0, locals := 0 }
set_option maxHeartbeats 4000000 in
set_option maxRecDepth 100000 in
theorem ct_R_has {l : Launch} {A : Nat → Prop} {D : va_G} {cs : Nat → ClassId} {sz : Nat} {f : tz_PH} {a n : Nat} {g : Nat → Int32} (hR : tz_Row cs f a n g) (hn : n ≤ 120) {i : Int32} : tz_CN l tyR_has prog_7_method_3_code 2 (some (.boolean)) rm_R_has 0 0 A D cs sz [.ref a, .int i] f (some (.int (tz_p (0 ≤ i ∧ i < nI n)))) (fun f' => f' = f) := by
  refine tz_C.ofB (lv0 := [(0, .ref a), (1, .int i)]) (plainFor_of_name (by decide)) (Nat.le_of_ble_eq_true rfl) rfl ?_
  intro p e s m args below meth c Q C hr hk hnm hsz0 hQ
  refine tz_iload_n C 1 rfl rfl td_R_has_0 ?_
  refine tz_if_lt C td_R_has_1 (fun h1 => ?_) (fun h1 => ?_)
  · skip
    refine tz_iconst C (v := 0) (by decide) td_R_has_25 ?_
    refine tz_rzret C hr hk hQ (by first | exact Or.inl rfl | exact Or.inr rfl | exact tz_p01) rfl td_R_has_26 ?_
    exact ⟨tz_ri (by grind [tz_p, tz_at, tz_lt120]), rfl⟩
  · skip
    refine tz_iload_n C 1 rfl rfl td_R_has_4 ?_
    refine tz_aload_n C 0 rfl rfl td_R_has_5 ?_
    refine tz_get C tci_R 1 (by decide) tw_94 hR.1 rfl td_R_has_6 ?_
    refine tz_icmp_ge C td_R_has_9 (fun h9 => ?_) (fun h9 => ?_)
    · skip
      refine tz_iconst C (v := 0) (by decide) td_R_has_25 ?_
      refine tz_rzret C hr hk hQ (by first | exact Or.inl rfl | exact Or.inr rfl | exact tz_p01) rfl td_R_has_26 ?_
      exact ⟨tz_ri (by grind [tz_p, tz_at, tz_lt120]), rfl⟩
    · skip
      refine tz_iload_n C 1 rfl rfl td_R_has_12 ?_
      refine tz_aload_n C 0 rfl rfl td_R_has_13 ?_
      refine tz_get C tci_R 0 (by decide) tw_93 hR.1 rfl td_R_has_14 ?_
      refine tz_alenI C hR.2 (v := 120) (by decide) td_R_has_17 ?_
      refine tz_icmp_ge C td_R_has_18 (fun h18 => ?_) (fun h18 => ?_)
      · skip
        exact absurd (tz_lt120 hn (tz_nle_lt h9)) (Int32.not_lt.mpr h18)
      · skip
        refine tz_iconst C (v := 1) (by decide) td_R_has_21 ?_
        refine tz_goto C td_R_has_22 ?_
        refine tz_rzret C hr hk hQ (by first | exact Or.inl rfl | exact Or.inr rfl | exact tz_p01) rfl td_R_has_26 ?_
        exact ⟨tz_ri (by grind [tz_p, tz_at, tz_lt120]), rfl⟩

abbrev rm_R_at : Room := { frames := 0, cells := 0, slots := 0, locals := 0 }
set_option maxHeartbeats 4000000 in
set_option maxRecDepth 100000 in
theorem ct_R_at {l : Launch} {A : Nat → Prop} {D : va_G} {cs : Nat → ClassId} {sz : Nat} {f : tz_PH} {a n : Nat} {g : Nat → Int32} (hR : tz_Row cs f a n g) (hn : n ≤ 120) {i : Int32} : tz_CN l tyR_at prog_7_method_4_code 2 (some (.int)) rm_R_at 0 0 A D cs sz [.ref a, .int i] f (some (.int (tz_at n g i))) (fun f' => f' = f) := by
  refine tz_C.ofB (lv0 := [(0, .ref a), (1, .int i)]) (plainFor_of_name (by decide)) (Nat.le_of_ble_eq_true rfl) rfl ?_
  intro p e s m args below meth c Q C hr hk hnm hsz0 hQ
  refine tz_iload_n C 1 rfl rfl td_R_at_0 ?_
  refine tz_if_lt C td_R_at_1 (fun h1 => ?_) (fun h1 => ?_)
  · skip
    refine tz_ldc C tw_335 td_R_at_30 ?_
    refine tz_riret C hr hk hQ rfl td_R_at_32 ?_
    exact ⟨tz_ri (by grind [tz_p, tz_at, tz_lt120]), rfl⟩
  · skip
    refine tz_iload_n C 1 rfl rfl td_R_at_4 ?_
    refine tz_aload_n C 0 rfl rfl td_R_at_5 ?_
    refine tz_get C tci_R 1 (by decide) tw_94 hR.1 rfl td_R_at_6 ?_
    refine tz_icmp_ge C td_R_at_9 (fun h9 => ?_) (fun h9 => ?_)
    · skip
      refine tz_ldc C tw_335 td_R_at_30 ?_
      refine tz_riret C hr hk hQ rfl td_R_at_32 ?_
      exact ⟨tz_ri (by grind [tz_p, tz_at, tz_lt120]), rfl⟩
    · skip
      refine tz_iload_n C 1 rfl rfl td_R_at_12 ?_
      refine tz_aload_n C 0 rfl rfl td_R_at_13 ?_
      refine tz_get C tci_R 0 (by decide) tw_93 hR.1 rfl td_R_at_14 ?_
      refine tz_alenI C hR.2 (v := 120) (by decide) td_R_at_17 ?_
      refine tz_icmp_ge C td_R_at_18 (fun h18 => ?_) (fun h18 => ?_)
      · skip
        exact absurd (tz_lt120 hn (tz_nle_lt h9)) (Int32.not_lt.mpr h18)
      · skip
        refine tz_aload_n C 0 rfl rfl td_R_at_21 ?_
        refine tz_get C tci_R 0 (by decide) tw_93 hR.1 rfl td_R_at_22 ?_
        refine tz_iload_n C 1 rfl rfl td_R_at_25 ?_
        refine tz_iald C hR.2 (tz_inI h1 (tz_lt_nI120 (tz_lt120 hn (tz_nle_lt h9))) (by decide)) td_R_at_26 ?_
        refine tz_goto C td_R_at_27 ?_
        refine tz_riret C hr hk hQ rfl td_R_at_32 ?_
        exact ⟨tz_ri (by grind [tz_p, tz_at, tz_lt120]), rfl⟩

theorem tz_at_N {n k : Nat} {g : Nat → Int32} (hn : n ≤ 120) (h : k < n) : tz_at n g (nI k) = g k := by
  unfold tz_at
  rw [if_pos ⟨nI_pos' (by omega), nI_lt h (by omega)⟩, nI_clamp (by omega)]
theorem tz_at_out {n k : Nat} {g : Nat → Int32} (h : n ≤ k) (hk : k < 2 ^ 31) : tz_at n g (nI k) = tz_LO := by
  unfold tz_at
  rw [if_neg (fun z => nI_nlt h hk z.2)]
theorem tz_at_neg {n : Nat} {g : Nat → Int32} {i : Int32} (h : i < 0) : tz_at n g i = tz_LO := by
  unfold tz_at
  rw [if_neg (fun z => Int32.not_lt.mpr z.1 h)]
theorem ct_R_atN {l : Launch} {A : Nat → Prop} {D : va_G} {cs : Nat → ClassId} {sz : Nat} {f : tz_PH} {a n k : Nat} {g : Nat → Int32} (hR : tz_Row cs f a n g) (hn : n ≤ 120) (h : k < n) : tz_CN l tyR_at prog_7_method_4_code 2 (some .int) rm_R_at 0 0 A D cs sz [.ref a, .int (nI k)] f (some (.int (g k))) (fun f' => f' = f) := by
  have h1 := ct_R_at (l := l) (A := A) (D := D) (sz := sz) (i := nI k) hR hn
  rw [tz_at_N hn h] at h1
  exact h1
