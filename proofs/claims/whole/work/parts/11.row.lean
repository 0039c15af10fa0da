abbrev rm_R_length : Room := { frames := 0, cells := 0, slots := 0, locals := 0 }
set_option maxHeartbeats 4000000 in
set_option maxRecDepth 100000 in
theorem ct_R_length {l : Launch} {A : Nat → Prop} {D : va_G} {cs : Nat → ClassId} {sz : Nat} {f : tz_PH} {a n : Nat} {g : Nat → Int32} (hR : tz_Row cs f a n g) : tz_CN l tyR_length prog_7_method_2_code 1 (some (.int)) rm_R_length 0 0 A D cs sz [.ref a] f (some (.int (nI n))) (fun f' => f' = f) := by
  refine tz_C.ofB (lv0 := [(0, .ref a)]) (plainFor_of_name (by decide)) (Nat.le_of_ble_eq_true rfl) rfl ?_
  intro p_ e_ s_ m_ ar_ be_ me_ c_ Q_ C_ hr_ hk_ hnm_ hz_ hQ_
  refine tz_aload_n C_ 0 rfl rfl td_R_length_0 ?_
  refine tz_get C_ tci_R 1 (by decide) tw_94 hR.1 rfl td_R_length_1 ?_
  refine tz_riret C_ hr_ hk_ hQ_ rfl td_R_length_4 ?_
  exact ⟨rfl, rfl⟩

abbrev rm_R_has : Room := { frames := 0, cells := 0, slots := 0, locals := 0 }
set_option maxHeartbeats 4000000 in
set_option maxRecDepth 100000 in
theorem ct_R_has {l : Launch} {A : Nat → Prop} {D : va_G} {cs : Nat → ClassId} {sz : Nat} {f : tz_PH} {a n : Nat} {g : Nat → Int32} (hR : tz_Row cs f a n g) (hn : n ≤ 120) {i : Int32} : tz_CN l tyR_has prog_7_method_3_code 2 (some (.boolean)) rm_R_has 0 0 A D cs sz [.ref a, .int i] f (some (.int (tz_p (0 ≤ i ∧ i < nI n)))) (fun f' => f' = f) := by
  refine tz_C.ofB (lv0 := [(0, .ref a), (1, .int i)]) (plainFor_of_name (by decide)) (Nat.le_of_ble_eq_true rfl) rfl ?_
  intro p_ e_ s_ m_ ar_ be_ me_ c_ Q_ C_ hr_ hk_ hnm_ hz_ hQ_
  refine tz_iload_n C_ 1 rfl rfl td_R_has_0 ?_
  refine tz_if_lt C_ td_R_has_1 (fun h1 => ?_) (fun h1 => ?_)
  · skip
    refine tz_iconst C_ (v := 0) (by decide) td_R_has_25 ?_
    refine tz_rzret C_ hr_ hk_ hQ_ (by first | exact Or.inl rfl | exact Or.inr rfl | exact tz_p01) rfl td_R_has_26 ?_
    exact ⟨tz_ri (by grind [tz_p, tz_at, tz_lt120]), rfl⟩
  · skip
    refine tz_iload_n C_ 1 rfl rfl td_R_has_4 ?_
    refine tz_aload_n C_ 0 rfl rfl td_R_has_5 ?_
    refine tz_get C_ tci_R 1 (by decide) tw_94 hR.1 rfl td_R_has_6 ?_
    refine tz_icmp_ge C_ td_R_has_9 (fun h9 => ?_) (fun h9 => ?_)
    · skip
      refine tz_iconst C_ (v := 0) (by decide) td_R_has_25 ?_
      refine tz_rzret C_ hr_ hk_ hQ_ (by first | exact Or.inl rfl | exact Or.inr rfl | exact tz_p01) rfl td_R_has_26 ?_
      exact ⟨tz_ri (by grind [tz_p, tz_at, tz_lt120]), rfl⟩
    · skip
      refine tz_iload_n C_ 1 rfl rfl td_R_has_12 ?_
      refine tz_aload_n C_ 0 rfl rfl td_R_has_13 ?_
      refine tz_get C_ tci_R 0 (by decide) tw_93 hR.1 rfl td_R_has_14 ?_
      refine tz_alenI C_ hR.2 (v := 120) (by decide) td_R_has_17 ?_
      refine tz_icmp_ge C_ td_R_has_18 (fun h18 => ?_) (fun h18 => ?_)
      · skip
        exact absurd (tz_lt120 hn (tz_nle_lt h9)) (Int32.not_lt.mpr h18)
      · skip
        refine tz_iconst C_ (v := 1) (by decide) td_R_has_21 ?_
        refine tz_goto C_ td_R_has_22 ?_
        refine tz_rzret C_ hr_ hk_ hQ_ (by first | exact Or.inl rfl | exact Or.inr rfl | exact tz_p01) rfl td_R_has_26 ?_
        exact ⟨tz_ri (by grind [tz_p, tz_at, tz_lt120]), rfl⟩

abbrev rm_R_at : Room := { frames := 0, cells := 0, slots := 0, locals := 0 }
set_option maxHeartbeats 4000000 in
set_option maxRecDepth 100000 in
theorem ct_R_at {l : Launch} {A : Nat → Prop} {D : va_G} {cs : Nat → ClassId} {sz : Nat} {f : tz_PH} {a n : Nat} {g : Nat → Int32} (hR : tz_Row cs f a n g) (hn : n ≤ 120) {i : Int32} : tz_CN l tyR_at prog_7_method_4_code 2 (some (.int)) rm_R_at 0 0 A D cs sz [.ref a, .int i] f (some (.int (tz_at n g i))) (fun f' => f' = f) := by
  refine tz_C.ofB (lv0 := [(0, .ref a), (1, .int i)]) (plainFor_of_name (by decide)) (Nat.le_of_ble_eq_true rfl) rfl ?_
  intro p_ e_ s_ m_ ar_ be_ me_ c_ Q_ C_ hr_ hk_ hnm_ hz_ hQ_
  refine tz_iload_n C_ 1 rfl rfl td_R_at_0 ?_
  refine tz_if_lt C_ td_R_at_1 (fun h1 => ?_) (fun h1 => ?_)
  · skip
    refine tz_ldc C_ tw_335 td_R_at_30 ?_
    refine tz_riret C_ hr_ hk_ hQ_ rfl td_R_at_32 ?_
    exact ⟨tz_ri (by grind [tz_p, tz_at, tz_lt120]), rfl⟩
  · skip
    refine tz_iload_n C_ 1 rfl rfl td_R_at_4 ?_
    refine tz_aload_n C_ 0 rfl rfl td_R_at_5 ?_
    refine tz_get C_ tci_R 1 (by decide) tw_94 hR.1 rfl td_R_at_6 ?_
    refine tz_icmp_ge C_ td_R_at_9 (fun h9 => ?_) (fun h9 => ?_)
    · skip
      refine tz_ldc C_ tw_335 td_R_at_30 ?_
      refine tz_riret C_ hr_ hk_ hQ_ rfl td_R_at_32 ?_
      exact ⟨tz_ri (by grind [tz_p, tz_at, tz_lt120]), rfl⟩
    · skip
      refine tz_iload_n C_ 1 rfl rfl td_R_at_12 ?_
      refine tz_aload_n C_ 0 rfl rfl td_R_at_13 ?_
      refine tz_get C_ tci_R 0 (by decide) tw_93 hR.1 rfl td_R_at_14 ?_
      refine tz_alenI C_ hR.2 (v := 120) (by decide) td_R_at_17 ?_
      refine tz_icmp_ge C_ td_R_at_18 (fun h18 => ?_) (fun h18 => ?_)
      · skip
        exact absurd (tz_lt120 hn (tz_nle_lt h9)) (Int32.not_lt.mpr h18)
      · skip
        refine tz_aload_n C_ 0 rfl rfl td_R_at_21 ?_
        refine tz_get C_ tci_R 0 (by decide) tw_93 hR.1 rfl td_R_at_22 ?_
        refine tz_iload_n C_ 1 rfl rfl td_R_at_25 ?_
        refine tz_iald C_ hR.2 (tz_inI h1 (tz_lt_nI120 (tz_lt120 hn (tz_nle_lt h9))) (by decide)) td_R_at_26 ?_
        refine tz_goto C_ td_R_at_27 ?_
        refine tz_riret C_ hr_ hk_ hQ_ rfl td_R_at_32 ?_
        exact ⟨tz_ri (by grind [tz_p, tz_at, tz_lt120]), rfl⟩

theorem tz_at_N {n k : Nat} {g : Nat → Int32} (hn : n ≤ 120) (h : k < n) : tz_at n g (nI k) = g k := by
  unfold tz_at
  rw [if_pos ⟨nI_pos' (by omega), nI_lt h (by omega)⟩, nI_clamp (by omega)]
theorem tz_at_out {n k : Nat} {g : Nat → Int32} (h : n ≤ k) (hk : k < 2 ^ 31) : tz_at n g (nI k) = tz_LO := by
  unfold tz_at
  rw [if_neg (fun z => nI_nlt h hk z.2)]
theorem tz_at_neg {n : Nat} {g : Nat → Int32} {i : Int32} (h : i < 0) : tz_at n g i = tz_LO := by
  unfold tz_at
  rw [if_neg (fun z => Int32.not_lt.mpr z.1 h)]
theorem ct_R_atN {l : Launch} {A : Nat → Prop} {D : va_G} {cs : Nat → ClassId} {sz : Nat} {f : tz_PH} {a n k : Nat} {g : Nat → Int32} (hR : tz_Row cs f a n g) (hn : n ≤ 120) (h : k < n) : tz_CN l tyR_at prog_7_method_4_code 2 (some .int) rm_R_at 0 0 A D cs sz [.ref a, .int (nI k)] f (some (.int (g k))) (fun f' => f' = f) := by
  have h1 := ct_R_at (l := l) (A := A) (D := D) (sz := sz) (i := nI k) hR hn
  rw [tz_at_N hn h] at h1
  exact h1

abbrev rm_R_set : Room := { frames := 1, cells := 0, slots := 0, locals := 21 }
set_option maxHeartbeats 4000000 in
set_option maxRecDepth 100000 in
theorem ct_R_set {l : Launch} {A : Nat → Prop} {D : va_G} {cs : Nat → ClassId} {sz : Nat} {f : tz_PH} {a n : Nat} {g : Nat → Int32} (hR : tz_Row cs f a n g) (hn : n ≤ 120) {i v : Int32} : tz_CN l tyR_set prog_7_method_5_code 3 (none) rm_R_set 0 0 A D cs sz [.ref a, .int i, .int v] f (none) (fun f' => tz_Row cs f' a n (tz_rset n g i v) ∧ ∀ q, (q < a ∨ a + 2 ≤ q) → f' q = f q) := by
  refine tz_C.ofB (lv0 := [(0, .ref a), (1, .int i), (2, .int v)]) (plainFor_of_name (by decide)) (Nat.le_of_ble_eq_true rfl) rfl ?_
  intro p_ e_ s_ m_ ar_ be_ me_ c_ Q_ C_ hr_ hk_ hnm_ hz_ hQ_
  refine tz_aload_n C_ 0 rfl rfl td_R_set_0 ?_
  refine tz_iload_n C_ 1 rfl rfl td_R_set_1 ?_
  refine tz_rV C_ tmi_R_has tw_325 tw_326 tw_341 hR.1 rfl (As := [.int i]) (by exact (ct_R_has (n := n) (g := g) ⟨hR.1, hR.2⟩ (by omega))) rfl (rest := []) rfl (by decide) (Nat.le_of_ble_eq_true rfl) td_R_set_2 (st1 := [.int (tz_p (0 ≤ i ∧ i < nI n))]) rfl ?_
  refine tz_if_eq C_ td_R_set_5 (fun h5 => ?_) (fun h5 => ?_)
  · skip
    replace h5 := tz_p0.mp h5
    refine tz_rvret C_ hr_ hk_ hQ_ rfl td_R_set_15 ?_
    refine ⟨rfl, ⟨hR.1, ?_⟩, fun _ _ => rfl⟩
    rw [tz_rset, if_neg h5]; exact hR.2
  · skip
    replace h5 := tz_p1.mp h5
    refine tz_aload_n C_ 0 rfl rfl td_R_set_8 ?_
    refine tz_get C_ tci_R 0 (by decide) tw_93 hR.1 rfl td_R_set_9 ?_
    refine tz_iload_n C_ 1 rfl rfl td_R_set_12 ?_
    refine tz_iload_n C_ 2 rfl rfl td_R_set_13 ?_
    refine tz_wiast C_ hR.2 (tz_inI (tz_le_nlt h5.1) (tz_lt_nI120 (tz_lt120 hn h5.2)) (by decide)) (g' := upd g (Int32.toNatClampNeg i) v) rfl td_R_set_14 (fun f1 hs1 hq1 => ?_)
    refine tz_rvret C_ hr_ hk_ hQ_ rfl td_R_set_15 ?_
    have k2 : f1 a = some (tz_obj 5 [.ref (a + 1), .int (nI n)]) := ((hq1 _ (by omega)).trans hR.1)
    refine ⟨rfl, ⟨k2, ?_⟩, (fun q hh => by rw [hq1 q (by omega)])⟩
    rw [tz_rset, if_pos h5]; exact hs1

abbrev rm_R_add : Room := { frames := 0, cells := 0, slots := 0, locals := 0 }
set_option maxHeartbeats 4000000 in
set_option maxRecDepth 100000 in
theorem ct_R_add {l : Launch} {A : Nat → Prop} {D : va_G} {cs : Nat → ClassId} {sz : Nat} {f : tz_PH} {a n : Nat} {g : Nat → Int32} (hR : tz_Row cs f a n g) (hn : n < 120) {v : Int32} : tz_CN l tyR_add prog_7_method_6_code 2 (none) rm_R_add 0 0 A D cs sz [.ref a, .int v] f (none) (fun f' => tz_Row cs f' a (n + 1) (upd g n v) ∧ ∀ q, (q < a ∨ a + 2 ≤ q) → f' q = f q) := by
  refine tz_C.ofB (lv0 := [(0, .ref a), (1, .int v)]) (plainFor_of_name (by decide)) (Nat.le_of_ble_eq_true rfl) rfl ?_
  intro p_ e_ s_ m_ ar_ be_ me_ c_ Q_ C_ hr_ hk_ hnm_ hz_ hQ_
  refine tz_aload_n C_ 0 rfl rfl td_R_add_0 ?_
  refine tz_get C_ tci_R 1 (by decide) tw_94 hR.1 rfl td_R_add_1 ?_
  refine tz_if_lt C_ td_R_add_4 (fun h4 => absurd h4 (nI_pos (by omega))) (fun _ => ?_)
  refine tz_aload_n C_ 0 rfl rfl td_R_add_7 ?_
  refine tz_get C_ tci_R 1 (by decide) tw_94 hR.1 rfl td_R_add_8 ?_
  refine tz_aload_n C_ 0 rfl rfl td_R_add_11 ?_
  refine tz_get C_ tci_R 0 (by decide) tw_93 hR.1 rfl td_R_add_12 ?_
  refine tz_alenI C_ hR.2 (v := 120) (by decide) td_R_add_15 ?_
  refine tz_icmp_ge C_ td_R_add_16 (fun h16 => ?_) (fun h16 => ?_)
  · skip
    replace h16 := (nI_leI (a := 120) (b := n) (by omega) (by omega)).mp h16
    omega
  · skip
    replace h16 := mt (nI_leI (a := 120) (b := n) (by omega) (by omega)).mpr h16
    refine tz_aload_n C_ 0 rfl rfl td_R_add_19 ?_
    refine tz_get C_ tci_R 0 (by decide) tw_93 hR.1 rfl td_R_add_20 ?_
    refine tz_aload_n C_ 0 rfl rfl td_R_add_23 ?_
    refine tz_get C_ tci_R 1 (by decide) tw_94 hR.1 rfl td_R_add_24 ?_
    refine tz_iload_n C_ 1 rfl rfl td_R_add_27 ?_
    refine tz_wiastN C_ hR.2 (by omega) (by decide) (g' := upd g n v) rfl td_R_add_28 (fun f1 hs1 hq1 => ?_)
    refine tz_aload_n C_ 0 rfl rfl td_R_add_29 ?_
    refine tz_dup C_ rfl td_R_add_30 ?_
    have k2 : f1 a = some (tz_obj 5 [.ref (a + 1), .int (nI n)]) := ((hq1 _ (by omega)).trans hR.1)
    refine tz_get C_ tci_R 1 (by decide) tw_94 k2 rfl td_R_add_31 ?_
    refine tz_iconst C_ (v := 1) (by decide) td_R_add_34 ?_
    refine tz_iadd C_ td_R_add_35 ?_
    refine tz_wput C_ tci_R 1 (by decide) tw_94 rfl k2 (Nat.le_of_ble_eq_true rfl) ⟨rfl, rfl⟩ (fs' := [.ref (a + 1), .int ((nI n) + 1)]) rfl td_R_add_36 (fun f3 hs3 hq3 => ?_)
    refine tz_rvret C_ hr_ hk_ hQ_ rfl td_R_add_39 ?_
    have k4 : f3 (a + 1) = some (tz_ints cs 120 (upd g n v)) := ((hq3 _ (by omega)).trans hs1)
    refine ⟨rfl, ⟨?_, k4⟩, (fun q hh => by rw [hq3 q (by omega), hq1 q (by omega)])⟩
    rw [← nI_1]; exact hs3

abbrev rm_R_empty : Room := { frames := 0, cells := 0, slots := 0, locals := 0 }
set_option maxHeartbeats 4000000 in
set_option maxRecDepth 100000 in
theorem ct_R_empty {l : Launch} {A : Nat → Prop} {D : va_G} {cs : Nat → ClassId} {sz : Nat} {f : tz_PH} {a n : Nat} {g : Nat → Int32} (hR : tz_Row cs f a n g) : tz_CN l tyR_empty prog_7_method_7_code 1 (none) rm_R_empty 0 0 A D cs sz [.ref a] f (none) (fun f' => tz_Row cs f' a 0 g ∧ ∀ q, (q < a ∨ a + 2 ≤ q) → f' q = f q) := by
  refine tz_C.ofB (lv0 := [(0, .ref a)]) (plainFor_of_name (by decide)) (Nat.le_of_ble_eq_true rfl) rfl ?_
  intro p_ e_ s_ m_ ar_ be_ me_ c_ Q_ C_ hr_ hk_ hnm_ hz_ hQ_
  refine tz_aload_n C_ 0 rfl rfl td_R_empty_0 ?_
  refine tz_iconst C_ (v := 0) (by decide) td_R_empty_1 ?_
  refine tz_wput C_ tci_R 1 (by decide) tw_94 rfl hR.1 (Nat.le_of_ble_eq_true rfl) ⟨rfl, rfl⟩ (fs' := [.ref (a + 1), .int 0]) rfl td_R_empty_2 (fun f1 hs1 hq1 => ?_)
  refine tz_rvret C_ hr_ hk_ hQ_ rfl td_R_empty_5 ?_
  have k2 : f1 (a + 1) = some (tz_ints cs 120 g) := ((hq1 _ (by omega)).trans hR.2)
  exact ⟨rfl, ⟨hs1, k2⟩, (fun q hh => by rw [hq1 q (by omega)])⟩

abbrev rm_R_restart : Room := { frames := 1, cells := 0, slots := 0, locals := 23 }
set_option maxHeartbeats 4000000 in
set_option maxRecDepth 100000 in
theorem ct_R_restart {l : Launch} {A : Nat → Prop} {D : va_G} {cs : Nat → ClassId} {sz : Nat} {f : tz_PH} {a n : Nat} {g : Nat → Int32} (hR : tz_Row cs f a n g) {k : Nat} (hk : k ≤ 120) : tz_CN l tyR_restart prog_7_method_8_code 2 (none) rm_R_restart 0 0 A D cs sz [.ref a, .int (nI k)] f (none) (fun f' => tz_Row cs f' a k (tz_fl (fun _ => 0) g 120) ∧ ∀ q, (q < a ∨ a + 2 ≤ q) → f' q = f q) := by
  refine tz_C.ofB (lv0 := [(0, .ref a), (1, .int (nI k))]) (plainFor_of_name (by decide)) (Nat.le_of_ble_eq_true rfl) rfl ?_
  intro p_ e_ s_ m_ ar_ be_ me_ c_ Q_ C_ hr_ hk_ hnm_ hz_ hQ_
  refine tz_aload_n C_ 0 rfl rfl td_R_restart_0 ?_
  refine tz_get C_ tci_R 0 (by decide) tw_93 hR.1 rfl td_R_restart_1 ?_
  refine tz_iconst C_ (v := 0) (by decide) td_R_restart_4 ?_
  refine tz_cS C_ tmi_K_fill tw_102 tw_315 (As := [.ref (a + 1), .int 0]) (by exact (ct_K_fill hR.2 (by decide))) rfl (rest := []) rfl (by decide) (Nat.le_of_ble_eq_true rfl) td_R_restart_5 (st1 := []) rfl (fun f1 hF1 => ?_)
  obtain ⟨hP2, hq2⟩ := hF1
  refine tz_aload_n C_ 0 rfl rfl td_R_restart_8 ?_
  refine tz_iconst C_ (v := 0) (by decide) td_R_restart_9 ?_
  refine tz_iload_n C_ 1 rfl rfl td_R_restart_10 ?_
  refine tz_aload_n C_ 0 rfl rfl td_R_restart_11 ?_
  have k3 : f1 a = some (tz_obj 5 [.ref (a + 1), .int (nI n)]) := ((hq2 _ (by omega)).trans hR.1)
  refine tz_get C_ tci_R 0 (by decide) tw_93 k3 rfl td_R_restart_12 ?_
  refine tz_alenI C_ hP2 (v := 120) (by decide) td_R_restart_15 ?_
  refine tz_rS C_ tmi_J_min tw_305 tw_316 (As := [.int (nI k), .int 120]) (by exact ct_J_min) rfl (rest := [.int 0, .ref a]) rfl (by decide) (Nat.le_of_ble_eq_true rfl) td_R_restart_16 (st1 := [.int (tz_mn (nI k) 120), .int 0, .ref a]) rfl ?_
  refine tz_rS C_ tmi_J_max tw_318 tw_317 (As := [.int 0, .int (tz_mn (nI k) 120)]) (by exact ct_J_max) rfl (rest := [.ref a]) rfl (by decide) (Nat.le_of_ble_eq_true rfl) td_R_restart_19 (st1 := [.int (tz_mx 0 (tz_mn (nI k) 120)), .ref a]) rfl ?_
  refine tz_wput C_ tci_R 1 (by decide) tw_94 rfl k3 (Nat.le_of_ble_eq_true rfl) ⟨rfl, rfl⟩ (fs' := [.ref (a + 1), .int (tz_mx 0 (tz_mn (nI k) 120))]) rfl td_R_restart_22 (fun f4 hs4 hq4 => ?_)
  refine tz_rvret C_ hr_ hk_ hQ_ rfl td_R_restart_25 ?_
  have k5 : f4 (a + 1) = some (tz_ints cs 120 (tz_fl (fun _ => 0) g 120)) := ((hq4 _ (by omega)).trans hP2)
  refine ⟨rfl, ⟨?_, k5⟩, (fun q hh => by rw [hq4 q (by omega), hq2 q (by omega)])⟩
  have e9 : tz_mx 0 (tz_mn (nI k) 120) = nI k := tz_clip hk
  rw [← e9]; exact hs4

abbrev rm_R_become : Room := { frames := 1, cells := 0, slots := 0, locals := 18 }
set_option maxHeartbeats 4000000 in
set_option maxRecDepth 100000 in
theorem ct_R_become {l : Launch} {A : Nat → Prop} {D : va_G} {cs : Nat → ClassId} {sz : Nat} {f : tz_PH} {a n : Nat} {g : Nat → Int32} (hR : tz_Row cs f a n g) {b n2 : Nat} {g2 : Nat → Int32} (hR2 : tz_Row cs f b n2 g2) (hab : b + 2 ≤ a ∨ a + 2 ≤ b) : tz_CN l tyR_become prog_7_method_9_code 2 (none) rm_R_become 0 0 A D cs sz [.ref a, .ref b] f (none) (fun f' => tz_Row cs f' a n2 (va_cpy g2 g 0 0 120) ∧ ∀ q, (q < a ∨ a + 2 ≤ q) → f' q = f q) := by
  refine tz_C.ofB (lv0 := [(0, .ref a), (1, .ref b)]) (plainFor_of_name (by decide)) (Nat.le_of_ble_eq_true rfl) rfl ?_
  intro p_ e_ s_ m_ ar_ be_ me_ c_ Q_ C_ hr_ hk_ hnm_ hz_ hQ_
  refine tz_aload_n C_ 0 rfl rfl td_R_become_0 ?_
  refine tz_aload_n C_ 1 rfl rfl td_R_become_1 ?_
  refine tz_get C_ tci_R 1 (by decide) tw_94 hR2.1 rfl td_R_become_2 ?_
  refine tz_wput C_ tci_R 1 (by decide) tw_94 rfl hR.1 (Nat.le_of_ble_eq_true rfl) ⟨rfl, rfl⟩ (fs' := [.ref (a + 1), .int (nI n2)]) rfl td_R_become_5 (fun f1 hs1 hq1 => ?_)
  refine tz_aload_n C_ 1 rfl rfl td_R_become_8 ?_
  have k2 : f1 b = some (tz_obj 5 [.ref (b + 1), .int (nI n2)]) := ((hq1 _ (by omega)).trans hR2.1)
  refine tz_get C_ tci_R 0 (by decide) tw_93 k2 rfl td_R_become_9 ?_
  refine tz_iconst C_ (v := 0) (by decide) td_R_become_12 ?_
  refine tz_aload_n C_ 0 rfl rfl td_R_become_13 ?_
  refine tz_get C_ tci_R 0 (by decide) tw_93 hs1 rfl td_R_become_14 ?_
  refine tz_iconst C_ (v := 0) (by decide) td_R_become_17 ?_
  refine tz_aload_n C_ 0 rfl rfl td_R_become_18 ?_
  refine tz_get C_ tci_R 0 (by decide) tw_93 hs1 rfl td_R_become_19 ?_
  have k3 : f1 (a + 1) = some (tz_ints cs 120 g) := ((hq1 _ (by omega)).trans hR.2)
  refine tz_alenI C_ k3 (v := 120) (by decide) td_R_become_22 ?_
  have k4 : f1 (b + 1) = some (tz_ints cs 120 g2) := ((hq1 _ (by omega)).trans hR2.2)
  refine tz_wacopy C_ tw_296 tw_298 tw_297 tw_54 k4 k3 (by decide) (by decide) (by decide) (by decide) (by decide) (by decide) td_R_become_23 (fun f5 hs5 hq5 => ?_)
  refine tz_rvret C_ hr_ hk_ hQ_ rfl td_R_become_26 ?_
  have k6 : f5 a = some (tz_obj 5 [.ref (a + 1), .int (nI n2)]) := ((hq5 _ (by omega)).trans hs1)
  exact ⟨rfl, ⟨k6, hs5⟩, (fun q hh => by rw [hq5 q (by omega), hq1 q (by omega)])⟩

abbrev rm_R_lostOnes : Room := { frames := 1, cells := 0, slots := 0, locals := 21 }
set_option maxHeartbeats 4000000 in
set_option maxRecDepth 100000 in
theorem ct_R_lostOnes {l : Launch} {A : Nat → Prop} {D : va_G} {cs : Nat → ClassId} {sz : Nat} {f : tz_PH} {a n : Nat} {g : Nat → Int32} (hR : tz_Row cs f a n g) (hn : n ≤ 120) : tz_CN l tyR_lostOnes prog_7_method_10_code 3 (some (.int)) rm_R_lostOnes 0 0 A D cs sz [.ref a] f (some (.int (nI (tz_ct (fun k => decide (g k = tz_LO)) n)))) (fun f' => f' = f) := by
  refine tz_C.ofB (lv0 := [(0, .ref a)]) (plainFor_of_name (by decide)) (Nat.le_of_ble_eq_true rfl) rfl ?_
  intro p_ e_ s_ m_ ar_ be_ me_ c_ Q_ C_ hr_ hk_ hnm_ hz_ hQ_
  have hcl := fun i => tz_ct_le (fun k => decide (g k = tz_LO)) i
  refine tz_iconst C_ (v := 0) (by decide) td_R_lostOnes_0 ?_
  refine tz_istore_n C_ (lv' := [(0, .ref a), (1, .int 0)]) [1, 0] rfl (by decide) rfl td_R_lostOnes_1 ?_
  refine tz_iconst C_ (v := 0) (by decide) td_R_lostOnes_2 ?_
  refine tz_istore_n C_ (lv' := [(0, .ref a), (1, .int 0), (2, .int 0)]) [1, 2, 0] rfl (by decide) rfl td_R_lostOnes_3 ?_
  have loop4 : ∀ (kk4 : Nat) (c : Nat) (i : Nat), (i ≤ n) → (c = tz_ct (fun k => decide (g k = tz_LO)) i) → (n - i) < kk4 → tz_V p_ l e_ rm_R_lostOnes s_ m_ ar_ be_ me_ c_ Q_ A D 3 f sz 0 0 4 [(0, .ref a), (1, .int (nI c)), (2, .int (nI i))] [] := by
    intro kk4
    induction kk4 with
    | zero => intro c i hi hc hm4; omega
    | succ kk4 ih4 =>
      intro c i hi hc hm4
      refine tz_iload_n C_ 2 rfl rfl td_R_lostOnes_4 ?_
      refine tz_aload_n C_ 0 rfl rfl td_R_lostOnes_5 ?_
      refine tz_get C_ tci_R 1 (by decide) tw_94 hR.1 rfl td_R_lostOnes_6 ?_
      refine tz_icmp_ge C_ td_R_lostOnes_9 (fun h9 => ?_) (fun h9 => ?_)
      · skip
        replace h9 := (nI_leI (a := n) (b := i) (by omega) (by omega)).mp h9
        refine tz_iload_n C_ 1 rfl rfl td_R_lostOnes_31 ?_
        refine tz_riret C_ hr_ hk_ hQ_ rfl td_R_lostOnes_32 ?_
        have e9 : i = n := by omega
        subst e9
        exact ⟨tz_ri (by rw [hc]), rfl⟩
      · skip
        replace h9 := mt (nI_leI (a := n) (b := i) (by omega) (by omega)).mpr h9
        refine tz_aload_n C_ 0 rfl rfl td_R_lostOnes_12 ?_
        refine tz_iload_n C_ 2 rfl rfl td_R_lostOnes_13 ?_
        refine tz_rV C_ tmi_R_at tw_332 tw_333 tw_353 hR.1 rfl (As := [.int (nI i)]) (by exact (ct_R_atN (n := n) (g := g) ⟨hR.1, hR.2⟩ (by omega) (by omega))) rfl (rest := []) rfl (by decide) (Nat.le_of_ble_eq_true rfl) td_R_lostOnes_14 (st1 := [.int (g i)]) rfl ?_
        refine tz_ldc C_ tw_335 td_R_lostOnes_17 ?_
        refine tz_icmp_ne C_ td_R_lostOnes_19 (fun h19 => ?_) (fun h19 => ?_)
        · skip
          refine tz_iinc C_ (k := 1) (v := nI (i + 1)) (lv' := [(0, .ref a), (1, .int (nI c)), (2, .int (nI (i + 1)))]) 2 rfl (nI_1 i) [1, 2, 0] (by decide) rfl td_R_lostOnes_25 ?_
          refine tz_goto C_ td_R_lostOnes_28 ?_
          exact ih4 c (i + 1) (by omega) (by rw [tz_ct_s, hc]; simp [h19]) (by omega)
        · skip
          refine tz_iinc C_ (k := 1) (v := nI (c + 1)) (lv' := [(0, .ref a), (1, .int (nI (c + 1))), (2, .int (nI i))]) 1 rfl (nI_1 c) [1, 0, 2] (by decide) rfl td_R_lostOnes_22 ?_
          refine tz_iinc C_ (k := 1) (v := nI (i + 1)) (lv' := [(0, .ref a), (1, .int (nI (c + 1))), (2, .int (nI (i + 1)))]) 2 rfl (nI_1 i) [1, 2, 0] (by decide) rfl td_R_lostOnes_25 ?_
          refine tz_goto C_ td_R_lostOnes_28 ?_
          exact ih4 (c + 1) (i + 1) (by omega) (by rw [tz_ct_s, hc]; simp [h19]) (by omega)
  exact loop4 _ 0 0 (Nat.zero_le _) rfl (Nat.lt_succ_self _)

abbrev tz_turn (n : Nat) (g : Nat → Int32) (i : Int32) : Prop := ¬ tz_at n g (i - 1) = tz_LO ∧ ¬ tz_at n g i = tz_LO ∧ tz_at n g (i - 1) < 0 ∧ 0 ≤ tz_at n g i
abbrev tz_bend (n : Nat) (g : Nat → Int32) (i : Int32) : Int32 := 2 * tz_at n g i - tz_at n g (i - 1) - tz_at n g (i + 1)
abbrev tz_click (n : Nat) (g : Nat → Int32) (i a : Int32) : Prop := ¬ tz_at n g (i - 1) = tz_LO ∧ ¬ tz_at n g i = tz_LO ∧ ¬ tz_at n g (i + 1) = tz_LO ∧ (a < tz_bend n g i ∨ tz_bend n g i < -a)

abbrev rm_R_isTurn : Room := { frames := 1, cells := 0, slots := 0, locals := 21 }
set_option maxHeartbeats 4000000 in
set_option maxRecDepth 100000 in
theorem ct_R_isTurn {l : Launch} {A : Nat → Prop} {D : va_G} {cs : Nat → ClassId} {sz : Nat} {f : tz_PH} {a n : Nat} {g : Nat → Int32} (hR : tz_Row cs f a n g) (hn : n ≤ 120) {i : Int32} : tz_CN l tyR_isTurn prog_7_method_11_code 2 (some (.boolean)) rm_R_isTurn 0 0 A D cs sz [.ref a, .int i] f (some (.int (tz_p (tz_turn n g i)))) (fun f' => f' = f) := by
  refine tz_C.ofB (lv0 := [(0, .ref a), (1, .int i)]) (plainFor_of_name (by decide)) (Nat.le_of_ble_eq_true rfl) rfl ?_
  intro p_ e_ s_ m_ ar_ be_ me_ c_ Q_ C_ hr_ hk_ hnm_ hz_ hQ_
  refine tz_aload_n C_ 0 rfl rfl td_R_isTurn_0 ?_
  refine tz_iload_n C_ 1 rfl rfl td_R_isTurn_1 ?_
  refine tz_iconst C_ (v := 1) (by decide) td_R_isTurn_2 ?_
  refine tz_isub C_ td_R_isTurn_3 ?_
  refine tz_rV C_ tmi_R_at tw_332 tw_333 tw_353 hR.1 rfl (As := [.int (i - 1)]) (by exact (ct_R_at (n := n) (g := g) ⟨hR.1, hR.2⟩ (by omega))) rfl (rest := []) rfl (by decide) (Nat.le_of_ble_eq_true rfl) td_R_isTurn_4 (st1 := [.int (tz_at n g (i - 1))]) rfl ?_
  refine tz_ldc C_ tw_335 td_R_isTurn_7 ?_
  refine tz_icmp_eq C_ td_R_isTurn_9 (fun h9 => ?_) (fun h9 => ?_)
  · skip
    refine tz_iconst C_ (v := 0) (by decide) td_R_isTurn_44 ?_
    refine tz_rzret C_ hr_ hk_ hQ_ (by first | exact Or.inl rfl | exact Or.inr rfl | exact tz_p01) rfl td_R_isTurn_45 ?_
    exact ⟨tz_ri (by grind [tz_p]), rfl⟩
  · skip
    refine tz_aload_n C_ 0 rfl rfl td_R_isTurn_12 ?_
    refine tz_iload_n C_ 1 rfl rfl td_R_isTurn_13 ?_
    refine tz_rV C_ tmi_R_at tw_332 tw_333 tw_353 hR.1 rfl (As := [.int i]) (by exact (ct_R_at (n := n) (g := g) ⟨hR.1, hR.2⟩ (by omega))) rfl (rest := []) rfl (by decide) (Nat.le_of_ble_eq_true rfl) td_R_isTurn_14 (st1 := [.int (tz_at n g i)]) rfl ?_
    refine tz_ldc C_ tw_335 td_R_isTurn_17 ?_
    refine tz_icmp_eq C_ td_R_isTurn_19 (fun h19 => ?_) (fun h19 => ?_)
    · skip
      refine tz_iconst C_ (v := 0) (by decide) td_R_isTurn_44 ?_
      refine tz_rzret C_ hr_ hk_ hQ_ (by first | exact Or.inl rfl | exact Or.inr rfl | exact tz_p01) rfl td_R_isTurn_45 ?_
      exact ⟨tz_ri (by grind [tz_p]), rfl⟩
    · skip
      refine tz_aload_n C_ 0 rfl rfl td_R_isTurn_22 ?_
      refine tz_iload_n C_ 1 rfl rfl td_R_isTurn_23 ?_
      refine tz_iconst C_ (v := 1) (by decide) td_R_isTurn_24 ?_
      refine tz_isub C_ td_R_isTurn_25 ?_
      refine tz_rV C_ tmi_R_at tw_332 tw_333 tw_353 hR.1 rfl (As := [.int (i - 1)]) (by exact (ct_R_at (n := n) (g := g) ⟨hR.1, hR.2⟩ (by omega))) rfl (rest := []) rfl (by decide) (Nat.le_of_ble_eq_true rfl) td_R_isTurn_26 (st1 := [.int (tz_at n g (i - 1))]) rfl ?_
      refine tz_if_ge C_ td_R_isTurn_29 (fun h29 => ?_) (fun h29 => ?_)
      · skip
        refine tz_iconst C_ (v := 0) (by decide) td_R_isTurn_44 ?_
        refine tz_rzret C_ hr_ hk_ hQ_ (by first | exact Or.inl rfl | exact Or.inr rfl | exact tz_p01) rfl td_R_isTurn_45 ?_
        exact ⟨tz_ri (by grind [tz_p]), rfl⟩
      · skip
        refine tz_aload_n C_ 0 rfl rfl td_R_isTurn_32 ?_
        refine tz_iload_n C_ 1 rfl rfl td_R_isTurn_33 ?_
        refine tz_rV C_ tmi_R_at tw_332 tw_333 tw_353 hR.1 rfl (As := [.int i]) (by exact (ct_R_at (n := n) (g := g) ⟨hR.1, hR.2⟩ (by omega))) rfl (rest := []) rfl (by decide) (Nat.le_of_ble_eq_true rfl) td_R_isTurn_34 (st1 := [.int (tz_at n g i)]) rfl ?_
        refine tz_if_lt C_ td_R_isTurn_37 (fun h37 => ?_) (fun h37 => ?_)
        · skip
          refine tz_iconst C_ (v := 0) (by decide) td_R_isTurn_44 ?_
          refine tz_rzret C_ hr_ hk_ hQ_ (by first | exact Or.inl rfl | exact Or.inr rfl | exact tz_p01) rfl td_R_isTurn_45 ?_
          exact ⟨tz_ri (by grind [tz_p]), rfl⟩
        · skip
          refine tz_iconst C_ (v := 1) (by decide) td_R_isTurn_40 ?_
          refine tz_goto C_ td_R_isTurn_41 ?_
          refine tz_rzret C_ hr_ hk_ hQ_ (by first | exact Or.inl rfl | exact Or.inr rfl | exact tz_p01) rfl td_R_isTurn_45 ?_
          exact ⟨tz_ri (by grind [tz_p]), rfl⟩

abbrev rm_R_isClick : Room := { frames := 1, cells := 0, slots := 0, locals := 21 }
set_option maxHeartbeats 4000000 in
set_option maxRecDepth 100000 in
theorem ct_R_isClick {l : Launch} {A : Nat → Prop} {D : va_G} {cs : Nat → ClassId} {sz : Nat} {f : tz_PH} {a n : Nat} {g : Nat → Int32} (hR : tz_Row cs f a n g) (hn : n ≤ 120) {i v : Int32} : tz_CN l tyR_isClick prog_7_method_12_code 4 (some (.boolean)) rm_R_isClick 0 0 A D cs sz [.ref a, .int i, .int v] f (some (.int (tz_p (tz_click n g i v)))) (fun f' => f' = f) := by
  refine tz_C.ofB (lv0 := [(0, .ref a), (1, .int i), (2, .int v)]) (plainFor_of_name (by decide)) (Nat.le_of_ble_eq_true rfl) rfl ?_
  intro p_ e_ s_ m_ ar_ be_ me_ c_ Q_ C_ hr_ hk_ hnm_ hz_ hQ_
  refine tz_aload_n C_ 0 rfl rfl td_R_isClick_0 ?_
  refine tz_iload_n C_ 1 rfl rfl td_R_isClick_1 ?_
  refine tz_iconst C_ (v := 1) (by decide) td_R_isClick_2 ?_
  refine tz_isub C_ td_R_isClick_3 ?_
  refine tz_rV C_ tmi_R_at tw_332 tw_333 tw_353 hR.1 rfl (As := [.int (i - 1)]) (by exact (ct_R_at (n := n) (g := g) ⟨hR.1, hR.2⟩ (by omega))) rfl (rest := []) rfl (by decide) (Nat.le_of_ble_eq_true rfl) td_R_isClick_4 (st1 := [.int (tz_at n g (i - 1))]) rfl ?_
  refine tz_ldc C_ tw_335 td_R_isClick_7 ?_
  refine tz_icmp_eq C_ td_R_isClick_9 (fun h9 => ?_) (fun h9 => ?_)
  · skip
    refine tz_iconst C_ (v := 0) (by decide) td_R_isClick_34 ?_
    refine tz_rzret C_ hr_ hk_ hQ_ (by first | exact Or.inl rfl | exact Or.inr rfl | exact tz_p01) rfl td_R_isClick_35 ?_
    exact ⟨tz_ri (by grind [tz_p]), rfl⟩
  · skip
    refine tz_aload_n C_ 0 rfl rfl td_R_isClick_12 ?_
    refine tz_iload_n C_ 1 rfl rfl td_R_isClick_13 ?_
    refine tz_rV C_ tmi_R_at tw_332 tw_333 tw_353 hR.1 rfl (As := [.int i]) (by exact (ct_R_at (n := n) (g := g) ⟨hR.1, hR.2⟩ (by omega))) rfl (rest := []) rfl (by decide) (Nat.le_of_ble_eq_true rfl) td_R_isClick_14 (st1 := [.int (tz_at n g i)]) rfl ?_
    refine tz_ldc C_ tw_335 td_R_isClick_17 ?_
    refine tz_icmp_eq C_ td_R_isClick_19 (fun h19 => ?_) (fun h19 => ?_)
    · skip
      refine tz_iconst C_ (v := 0) (by decide) td_R_isClick_34 ?_
      refine tz_rzret C_ hr_ hk_ hQ_ (by first | exact Or.inl rfl | exact Or.inr rfl | exact tz_p01) rfl td_R_isClick_35 ?_
      exact ⟨tz_ri (by grind [tz_p]), rfl⟩
    · skip
      refine tz_aload_n C_ 0 rfl rfl td_R_isClick_22 ?_
      refine tz_iload_n C_ 1 rfl rfl td_R_isClick_23 ?_
      refine tz_iconst C_ (v := 1) (by decide) td_R_isClick_24 ?_
      refine tz_iadd C_ td_R_isClick_25 ?_
      refine tz_rV C_ tmi_R_at tw_332 tw_333 tw_353 hR.1 rfl (As := [.int (i + 1)]) (by exact (ct_R_at (n := n) (g := g) ⟨hR.1, hR.2⟩ (by omega))) rfl (rest := []) rfl (by decide) (Nat.le_of_ble_eq_true rfl) td_R_isClick_26 (st1 := [.int (tz_at n g (i + 1))]) rfl ?_
      refine tz_ldc C_ tw_335 td_R_isClick_29 ?_
      refine tz_icmp_ne C_ td_R_isClick_31 (fun h31 => ?_) (fun h31 => ?_)
      · skip
        refine tz_iconst C_ (v := 2) (by decide) td_R_isClick_36 ?_
        refine tz_aload_n C_ 0 rfl rfl td_R_isClick_37 ?_
        refine tz_iload_n C_ 1 rfl rfl td_R_isClick_38 ?_
        refine tz_rV C_ tmi_R_at tw_332 tw_333 tw_353 hR.1 rfl (As := [.int i]) (by exact (ct_R_at (n := n) (g := g) ⟨hR.1, hR.2⟩ (by omega))) rfl (rest := [.int 2]) rfl (by decide) (Nat.le_of_ble_eq_true rfl) td_R_isClick_39 (st1 := [.int (tz_at n g i), .int 2]) rfl ?_
        refine tz_imul C_ td_R_isClick_42 ?_
        refine tz_aload_n C_ 0 rfl rfl td_R_isClick_43 ?_
        refine tz_iload_n C_ 1 rfl rfl td_R_isClick_44 ?_
        refine tz_iconst C_ (v := 1) (by decide) td_R_isClick_45 ?_
        refine tz_isub C_ td_R_isClick_46 ?_
        refine tz_rV C_ tmi_R_at tw_332 tw_333 tw_353 hR.1 rfl (As := [.int (i - 1)]) (by exact (ct_R_at (n := n) (g := g) ⟨hR.1, hR.2⟩ (by omega))) rfl (rest := [.int (2 * (tz_at n g i))]) rfl (by decide) (Nat.le_of_ble_eq_true rfl) td_R_isClick_47 (st1 := [.int (tz_at n g (i - 1)), .int (2 * (tz_at n g i))]) rfl ?_
        refine tz_isub C_ td_R_isClick_50 ?_
        refine tz_aload_n C_ 0 rfl rfl td_R_isClick_51 ?_
        refine tz_iload_n C_ 1 rfl rfl td_R_isClick_52 ?_
        refine tz_iconst C_ (v := 1) (by decide) td_R_isClick_53 ?_
        refine tz_iadd C_ td_R_isClick_54 ?_
        refine tz_rV C_ tmi_R_at tw_332 tw_333 tw_353 hR.1 rfl (As := [.int (i + 1)]) (by exact (ct_R_at (n := n) (g := g) ⟨hR.1, hR.2⟩ (by omega))) rfl (rest := [.int ((2 * (tz_at n g i)) - (tz_at n g (i - 1)))]) rfl (by decide) (Nat.le_of_ble_eq_true rfl) td_R_isClick_55 (st1 := [.int (tz_at n g (i + 1)), .int ((2 * (tz_at n g i)) - (tz_at n g (i - 1)))]) rfl ?_
        refine tz_isub C_ td_R_isClick_58 ?_
        refine tz_istore_n C_ (lv' := [(0, .ref a), (1, .int i), (2, .int v), (3, .int (((2 * (tz_at n g i)) - (tz_at n g (i - 1))) - (tz_at n g (i + 1))))]) [1, 2, 3, 0] rfl (by decide) rfl td_R_isClick_59 ?_
        refine tz_iload_n C_ 3 rfl rfl td_R_isClick_60 ?_
        refine tz_iload_n C_ 2 rfl rfl td_R_isClick_61 ?_
        refine tz_icmp_gt C_ td_R_isClick_62 (fun h62 => ?_) (fun h62 => ?_)
        · skip
          refine tz_iconst C_ (v := 1) (by decide) td_R_isClick_71 ?_
          refine tz_goto C_ td_R_isClick_72 ?_
          refine tz_rzret C_ hr_ hk_ hQ_ (by first | exact Or.inl rfl | exact Or.inr rfl | exact tz_p01) rfl td_R_isClick_76 ?_
          exact ⟨tz_ri (by grind [tz_p]), rfl⟩
        · skip
          refine tz_iload_n C_ 3 rfl rfl td_R_isClick_65 ?_
          refine tz_iload_n C_ 2 rfl rfl td_R_isClick_66 ?_
          refine tz_ineg C_ td_R_isClick_67 ?_
          refine tz_icmp_ge C_ td_R_isClick_68 (fun h68 => ?_) (fun h68 => ?_)
          · skip
            refine tz_iconst C_ (v := 0) (by decide) td_R_isClick_75 ?_
            refine tz_rzret C_ hr_ hk_ hQ_ (by first | exact Or.inl rfl | exact Or.inr rfl | exact tz_p01) rfl td_R_isClick_76 ?_
            exact ⟨tz_ri (by grind [tz_p]), rfl⟩
          · skip
            refine tz_iconst C_ (v := 1) (by decide) td_R_isClick_71 ?_
            refine tz_goto C_ td_R_isClick_72 ?_
            refine tz_rzret C_ hr_ hk_ hQ_ (by first | exact Or.inl rfl | exact Or.inr rfl | exact tz_p01) rfl td_R_isClick_76 ?_
            exact ⟨tz_ri (by grind [tz_p]), rfl⟩
      · skip
        refine tz_iconst C_ (v := 0) (by decide) td_R_isClick_34 ?_
        refine tz_rzret C_ hr_ hk_ hQ_ (by first | exact Or.inl rfl | exact Or.inr rfl | exact tz_p01) rfl td_R_isClick_35 ?_
        exact ⟨tz_ri (by grind [tz_p]), rfl⟩

def tz_loud (g : Nat → Int32) : Nat → Int32
  | 0 => 0
  | k + 1 => if g k = tz_LO then tz_loud g k else tz_mx (tz_loud g k) (tz_ab (g k))
def tz_sq (g : Nat → Int32) : Nat → Int64
  | 0 => 0
  | k + 1 => if g k = tz_LO then tz_sq g k else tz_sq g k + (g k).toInt64 * (g k).toInt64

abbrev rm_R_loudest : Room := { frames := 1, cells := 0, slots := 0, locals := 21 }
set_option maxHeartbeats 4000000 in
set_option maxRecDepth 100000 in
theorem ct_R_loudest {l : Launch} {A : Nat → Prop} {D : va_G} {cs : Nat → ClassId} {sz : Nat} {f : tz_PH} {a n : Nat} {g : Nat → Int32} (hR : tz_Row cs f a n g) (hn : n ≤ 120) : tz_CN l tyR_loudest prog_7_method_14_code 3 (some (.int)) rm_R_loudest 0 0 A D cs sz [.ref a] f (some (.int (tz_loud g n))) (fun f' => f' = f) := by
  refine tz_C.ofB (lv0 := [(0, .ref a)]) (plainFor_of_name (by decide)) (Nat.le_of_ble_eq_true rfl) rfl ?_
  intro p_ e_ s_ m_ ar_ be_ me_ c_ Q_ C_ hr_ hk_ hnm_ hz_ hQ_
  refine tz_iconst C_ (v := 0) (by decide) td_R_loudest_0 ?_
  refine tz_istore_n C_ (lv' := [(0, .ref a), (1, .int 0)]) [1, 0] rfl (by decide) rfl td_R_loudest_1 ?_
  refine tz_iconst C_ (v := 0) (by decide) td_R_loudest_2 ?_
  refine tz_istore_n C_ (lv' := [(0, .ref a), (1, .int 0), (2, .int 0)]) [1, 2, 0] rfl (by decide) rfl td_R_loudest_3 ?_
  have loop4 : ∀ (kk4 : Nat) (x : Int32) (i : Nat), (i ≤ n) → (x = tz_loud g i) → (n - i) < kk4 → tz_V p_ l e_ rm_R_loudest s_ m_ ar_ be_ me_ c_ Q_ A D 3 f sz 0 0 4 [(0, .ref a), (1, .int x), (2, .int (nI i))] [] := by
    intro kk4
    induction kk4 with
    | zero => intro x i hi hc hm4; omega
    | succ kk4 ih4 =>
      intro x i hi hc hm4
      refine tz_iload_n C_ 2 rfl rfl td_R_loudest_4 ?_
      refine tz_aload_n C_ 0 rfl rfl td_R_loudest_5 ?_
      refine tz_get C_ tci_R 1 (by decide) tw_94 hR.1 rfl td_R_loudest_6 ?_
      refine tz_icmp_ge C_ td_R_loudest_9 (fun h9 => ?_) (fun h9 => ?_)
      · skip
        replace h9 := (nI_leI (a := n) (b := i) (by omega) (by omega)).mp h9
        refine tz_iload_n C_ 1 rfl rfl td_R_loudest_41 ?_
        refine tz_riret C_ hr_ hk_ hQ_ rfl td_R_loudest_42 ?_
        have e9 : i = n := by omega
        subst e9
        exact ⟨tz_ri hc, rfl⟩
      · skip
        replace h9 := mt (nI_leI (a := n) (b := i) (by omega) (by omega)).mpr h9
        refine tz_aload_n C_ 0 rfl rfl td_R_loudest_12 ?_
        refine tz_iload_n C_ 2 rfl rfl td_R_loudest_13 ?_
        refine tz_rV C_ tmi_R_at tw_332 tw_333 tw_353 hR.1 rfl (As := [.int (nI i)]) (by exact (ct_R_atN (n := n) (g := g) ⟨hR.1, hR.2⟩ (by omega) (by omega))) rfl (rest := []) rfl (by decide) (Nat.le_of_ble_eq_true rfl) td_R_loudest_14 (st1 := [.int (g i)]) rfl ?_
        refine tz_ldc C_ tw_335 td_R_loudest_17 ?_
        refine tz_icmp_eq C_ td_R_loudest_19 (fun h19 => ?_) (fun h19 => ?_)
        · skip
          refine tz_iinc C_ (k := 1) (v := nI (i + 1)) (lv' := [(0, .ref a), (1, .int x), (2, .int (nI (i + 1)))]) 2 rfl (nI_1 i) [1, 2, 0] (by decide) rfl td_R_loudest_35 ?_
          refine tz_goto C_ td_R_loudest_38 ?_
          exact ih4 x (i + 1) (by omega) (by simp [tz_loud, hc, h19]) (by omega)
        · skip
          refine tz_iload_n C_ 1 rfl rfl td_R_loudest_22 ?_
          refine tz_aload_n C_ 0 rfl rfl td_R_loudest_23 ?_
          refine tz_iload_n C_ 2 rfl rfl td_R_loudest_24 ?_
          refine tz_rV C_ tmi_R_at tw_332 tw_333 tw_353 hR.1 rfl (As := [.int (nI i)]) (by exact (ct_R_atN (n := n) (g := g) ⟨hR.1, hR.2⟩ (by omega) (by omega))) rfl (rest := [.int x]) rfl (by decide) (Nat.le_of_ble_eq_true rfl) td_R_loudest_25 (st1 := [.int (g i), .int x]) rfl ?_
          refine tz_rS C_ tmi_J_abs tw_605 tw_660 (As := [.int (g i)]) (by exact ct_J_abs) rfl (rest := [.int x]) rfl (by decide) (Nat.le_of_ble_eq_true rfl) td_R_loudest_28 (st1 := [.int (tz_ab (g i)), .int x]) rfl ?_
          refine tz_rS C_ tmi_J_max tw_318 tw_317 (As := [.int x, .int (tz_ab (g i))]) (by exact ct_J_max) rfl (rest := []) rfl (by decide) (Nat.le_of_ble_eq_true rfl) td_R_loudest_31 (st1 := [.int (tz_mx x (tz_ab (g i)))]) rfl ?_
          refine tz_istore_n C_ (lv' := [(0, .ref a), (1, .int (tz_mx x (tz_ab (g i)))), (2, .int (nI i))]) [1, 0, 2] rfl (by decide) rfl td_R_loudest_34 ?_
          refine tz_iinc C_ (k := 1) (v := nI (i + 1)) (lv' := [(0, .ref a), (1, .int (tz_mx x (tz_ab (g i)))), (2, .int (nI (i + 1)))]) 2 rfl (nI_1 i) [1, 2, 0] (by decide) rfl td_R_loudest_35 ?_
          refine tz_goto C_ td_R_loudest_38 ?_
          exact ih4 (tz_mx x (tz_ab (g i))) (i + 1) (by omega) (by simp [tz_loud, hc, h19]) (by omega)
  exact loop4 _ 0 0 (Nat.zero_le _) rfl (Nat.lt_succ_self _)

abbrev rm_R_sumOfSquares : Room := { frames := 1, cells := 0, slots := 0, locals := 21 }
set_option maxHeartbeats 4000000 in
set_option maxRecDepth 100000 in
theorem ct_R_sumOfSquares {l : Launch} {A : Nat → Prop} {D : va_G} {cs : Nat → ClassId} {sz : Nat} {f : tz_PH} {a n : Nat} {g : Nat → Int32} (hR : tz_Row cs f a n g) (hn : n ≤ 120) : tz_CN l tyR_sumOfSquares prog_7_method_15_code 4 (some (.long)) rm_R_sumOfSquares 0 0 A D cs sz [.ref a] f (some (.long (tz_sq g n))) (fun f' => f' = f) := by
  refine tz_C.ofB (lv0 := [(0, .ref a)]) (plainFor_of_name (by decide)) (Nat.le_of_ble_eq_true rfl) rfl ?_
  intro p_ e_ s_ m_ ar_ be_ me_ c_ Q_ C_ hr_ hk_ hnm_ hz_ hQ_
  refine tz_lconst C_ (v := 0) (by decide) td_R_sumOfSquares_0 ?_
  refine tz_lstore_n C_ (lv' := [(0, .ref a), (1, .long 0)]) [1, 0] rfl (by decide) rfl td_R_sumOfSquares_1 ?_
  refine tz_iconst C_ (v := 0) (by decide) td_R_sumOfSquares_2 ?_
  refine tz_istore_n C_ (lv' := [(0, .ref a), (1, .long 0), (3, .int 0)]) [1, 2, 0] rfl (by decide) rfl td_R_sumOfSquares_3 ?_
  have loop4 : ∀ (kk4 : Nat) (x : Int64) (i : Nat), (i ≤ n) → (x = tz_sq g i) → (n - i) < kk4 → tz_V p_ l e_ rm_R_sumOfSquares s_ m_ ar_ be_ me_ c_ Q_ A D 4 f sz 0 0 4 [(0, .ref a), (1, .long x), (3, .int (nI i))] [] := by
    intro kk4
    induction kk4 with
    | zero => intro x i hi hc hm4; omega
    | succ kk4 ih4 =>
      intro x i hi hc hm4
      refine tz_iload_n C_ 2 rfl rfl td_R_sumOfSquares_4 ?_
      refine tz_aload_n C_ 0 rfl rfl td_R_sumOfSquares_5 ?_
      refine tz_get C_ tci_R 1 (by decide) tw_94 hR.1 rfl td_R_sumOfSquares_6 ?_
      refine tz_icmp_ge C_ td_R_sumOfSquares_9 (fun h9 => ?_) (fun h9 => ?_)
      · skip
        replace h9 := (nI_leI (a := n) (b := i) (by omega) (by omega)).mp h9
        refine tz_lload_n C_ 1 rfl rfl td_R_sumOfSquares_44 ?_
        refine tz_rlret C_ hr_ hk_ hQ_ rfl td_R_sumOfSquares_45 ?_
        have e9 : i = n := by omega
        subst e9
        exact ⟨tz_rl hc, rfl⟩
      · skip
        replace h9 := mt (nI_leI (a := n) (b := i) (by omega) (by omega)).mpr h9
        refine tz_aload_n C_ 0 rfl rfl td_R_sumOfSquares_12 ?_
        refine tz_iload_n C_ 2 rfl rfl td_R_sumOfSquares_13 ?_
        refine tz_rV C_ tmi_R_at tw_332 tw_333 tw_353 hR.1 rfl (As := [.int (nI i)]) (by exact (ct_R_atN (n := n) (g := g) ⟨hR.1, hR.2⟩ (by omega) (by omega))) rfl (rest := []) rfl (by decide) (Nat.le_of_ble_eq_true rfl) td_R_sumOfSquares_14 (st1 := [.int (g i)]) rfl ?_
        refine tz_ldc C_ tw_335 td_R_sumOfSquares_17 ?_
        refine tz_icmp_eq C_ td_R_sumOfSquares_19 (fun h19 => ?_) (fun h19 => ?_)
        · skip
          refine tz_iinc C_ (k := 1) (v := nI (i + 1)) (lv' := [(0, .ref a), (1, .long x), (3, .int (nI (i + 1)))]) 2 rfl (nI_1 i) [1, 2, 0] (by decide) rfl td_R_sumOfSquares_38 ?_
          refine tz_goto C_ td_R_sumOfSquares_41 ?_
          exact ih4 x (i + 1) (by omega) (by simp [tz_sq, hc, h19]) (by omega)
        · skip
          refine tz_lload_n C_ 1 rfl rfl td_R_sumOfSquares_22 ?_
          refine tz_aload_n C_ 0 rfl rfl td_R_sumOfSquares_23 ?_
          refine tz_iload_n C_ 2 rfl rfl td_R_sumOfSquares_24 ?_
          refine tz_rV C_ tmi_R_at tw_332 tw_333 tw_353 hR.1 rfl (As := [.int (nI i)]) (by exact (ct_R_atN (n := n) (g := g) ⟨hR.1, hR.2⟩ (by omega) (by omega))) rfl (rest := [.long x]) rfl (by decide) (Nat.le_of_ble_eq_true rfl) td_R_sumOfSquares_25 (st1 := [.int (g i), .long x]) rfl ?_
          refine tz_i2l C_ td_R_sumOfSquares_28 ?_
          refine tz_aload_n C_ 0 rfl rfl td_R_sumOfSquares_29 ?_
          refine tz_iload_n C_ 2 rfl rfl td_R_sumOfSquares_30 ?_
          refine tz_rV C_ tmi_R_at tw_332 tw_333 tw_353 hR.1 rfl (As := [.int (nI i)]) (by exact (ct_R_atN (n := n) (g := g) ⟨hR.1, hR.2⟩ (by omega) (by omega))) rfl (rest := [.long (Int32.toInt64 (g i)), .long x]) rfl (by decide) (Nat.le_of_ble_eq_true rfl) td_R_sumOfSquares_31 (st1 := [.int (g i), .long (Int32.toInt64 (g i)), .long x]) rfl ?_
          refine tz_i2l C_ td_R_sumOfSquares_34 ?_
          refine tz_lmul C_ td_R_sumOfSquares_35 ?_
          refine tz_ladd C_ td_R_sumOfSquares_36 ?_
          refine tz_lstore_n C_ (lv' := [(0, .ref a), (1, .long (x + ((Int32.toInt64 (g i)) * (Int32.toInt64 (g i))))), (3, .int (nI i))]) [1, 0, 2] rfl (by decide) rfl td_R_sumOfSquares_37 ?_
          refine tz_iinc C_ (k := 1) (v := nI (i + 1)) (lv' := [(0, .ref a), (1, .long (x + ((Int32.toInt64 (g i)) * (Int32.toInt64 (g i))))), (3, .int (nI (i + 1)))]) 2 rfl (nI_1 i) [1, 2, 0] (by decide) rfl td_R_sumOfSquares_38 ?_
          refine tz_goto C_ td_R_sumOfSquares_41 ?_
          exact ih4 (x + ((Int32.toInt64 (g i)) * (Int32.toInt64 (g i)))) (i + 1) (by omega) (by simp [tz_sq, hc, h19]) (by omega)
  exact loop4 _ 0 0 (Nat.zero_le _) rfl (Nat.lt_succ_self _)


theorem tz_sub1 {n i : Nat} (hi : i < 2 ^ 30 ∧ n < 2 ^ 30) (h : nI n - 1 ≤ nI i) : n - 1 ≤ i := by
  have h1 := Int32.le_iff_toInt_le.mp h
  rw [show (1 : Int32) = nI 1 from rfl, pk_sub_toInt (by omega) (by omega), nI_toInt (by omega)] at h1
  omega
theorem tz_sub1n {n i : Nat} (hi : i < 2 ^ 30) (hn : n < 2 ^ 30) (h : ¬ nI n - 1 ≤ nI i) : i + 1 < n := by
  have h1 := Int32.lt_iff_toInt_lt.mp (Int32.not_le.mp h)
  rw [show (1 : Int32) = nI 1 from rfl, pk_sub_toInt (by omega) (by omega), nI_toInt (by omega)] at h1
  omega
theorem tz_m1_neg : (nI 0 - 1 : Int32) < 0 := by decide
theorem tz_at_m1 {n : Nat} {g : Nat → Int32} : tz_at n g (nI 0 - 1) = tz_LO := tz_at_neg tz_m1_neg
theorem tz_at_p1 {n k : Nat} {g : Nat → Int32} (h : n ≤ k + 1) (hk : k < 2 ^ 30) : tz_at n g (nI k + 1) = tz_LO := by rw [nI_1]; exact tz_at_out h (by omega)
theorem tz_click_0 {n : Nat} {g : Nat → Int32} {v : Int32} : tz_ct (fun k => decide (tz_click n g (nI k) v)) 1 = 0 := by
  rw [tz_ct_s]
  have h : ¬ tz_click n g (nI 0) v := fun z => z.1 tz_at_m1
  simp only [tz_ct, decide_eq_true_eq, if_neg h]
theorem tz_click_last {n : Nat} {g : Nat → Int32} {v : Int32} (hn : n ≤ 120) : ∀ i, 1 ≤ i → (n - 1 ≤ i ∧ (i ≤ n ∨ i = 1)) → tz_ct (fun k => decide (tz_click n g (nI k) v)) n = tz_ct (fun k => decide (tz_click n g (nI k) v)) i := by
  intro i h1 h2
  rcases Nat.lt_or_ge i n with h | h
  · have e : n = i + 1 := by omega
    subst e
    have h3 : ¬ tz_click (i + 1) g (nI i) v := fun z => z.2.2.1 (tz_at_p1 (by omega) (by omega))
    rw [tz_ct_s]
    simp only [decide_eq_true_eq, if_neg h3, Nat.add_zero]
  · rcases Nat.lt_or_ge n i with h3 | h3
    · have e : i = 1 := by omega
      have e2 : n = 0 := by omega
      subst e; subst e2
      exact tz_click_0.symm
    · have e : n = i := by omega
      rw [e]

abbrev rm_R_clicks : Room := { frames := 2, cells := 0, slots := 0, locals := 44 }
set_option maxHeartbeats 4000000 in
set_option maxRecDepth 100000 in
theorem ct_R_clicks {l : Launch} {A : Nat → Prop} {D : va_G} {cs : Nat → ClassId} {sz : Nat} {f : tz_PH} {a n : Nat} {g : Nat → Int32} (hR : tz_Row cs f a n g) (hn : n ≤ 120) {v : Int32} : tz_CN l tyR_clicks prog_7_method_13_code 4 (some (.int)) rm_R_clicks 0 0 A D cs sz [.ref a, .int v] f (some (.int (nI (tz_ct (fun k => decide (tz_click n g (nI k) v)) n)))) (fun f' => f' = f) := by
  refine tz_C.ofB (lv0 := [(0, .ref a), (1, .int v)]) (plainFor_of_name (by decide)) (Nat.le_of_ble_eq_true rfl) rfl ?_
  intro p_ e_ s_ m_ ar_ be_ me_ c_ Q_ C_ hr_ hk_ hnm_ hz_ hQ_
  have e0 : tz_ct (fun k => decide (tz_click n g (nI k) v)) 1 = 0 := tz_click_0
  have e1 := tz_click_last (n := n) (g := g) (v := v) hn
  refine tz_iconst C_ (v := 0) (by decide) td_R_clicks_0 ?_
  refine tz_istore_n C_ (lv' := [(0, .ref a), (1, .int v), (2, .int 0)]) [1, 2, 0] rfl (by decide) rfl td_R_clicks_1 ?_
  refine tz_iconst C_ (v := 1) (by decide) td_R_clicks_2 ?_
  refine tz_istore_n C_ (lv' := [(0, .ref a), (1, .int v), (2, .int 0), (3, .int 1)]) [1, 2, 3, 0] rfl (by decide) rfl td_R_clicks_3 ?_
  have loop4 : ∀ (kk4 : Nat) (x : Nat) (i : Nat), (1 ≤ i ∧ (i ≤ n ∨ i = 1)) → (x = tz_ct (fun k => decide (tz_click n g (nI k) v)) i) → (n - i) < kk4 → tz_V p_ l e_ rm_R_clicks s_ m_ ar_ be_ me_ c_ Q_ A D 4 f sz 0 0 4 [(0, .ref a), (1, .int v), (2, .int (nI x)), (3, .int (nI i))] [] := by
    intro kk4
    induction kk4 with
    | zero => intro x i hi hc hm4; omega
    | succ kk4 ih4 =>
      intro x i hi hc hm4
      refine tz_iload_n C_ 3 rfl rfl td_R_clicks_4 ?_
      refine tz_aload_n C_ 0 rfl rfl td_R_clicks_5 ?_
      refine tz_get C_ tci_R 1 (by decide) tw_94 hR.1 rfl td_R_clicks_6 ?_
      refine tz_iconst C_ (v := 1) (by decide) td_R_clicks_9 ?_
      refine tz_isub C_ td_R_clicks_10 ?_
      refine tz_icmp_ge C_ td_R_clicks_11 (fun h11 => ?_) (fun h11 => ?_)
      · skip
        have h11b : n - 1 ≤ i := tz_sub1 (by omega) h11
        refine tz_iload_n C_ 2 rfl rfl td_R_clicks_32 ?_
        refine tz_riret C_ hr_ hk_ hQ_ rfl td_R_clicks_33 ?_
        refine ⟨tz_ri ?_, rfl⟩
        rw [hc]
        exact congrArg nI (e1 i hi.1 (by omega)).symm
      · skip
        have h11b : i + 1 < n := tz_sub1n (by omega) (by omega) h11
        refine tz_aload_n C_ 0 rfl rfl td_R_clicks_14 ?_
        refine tz_iload_n C_ 3 rfl rfl td_R_clicks_15 ?_
        refine tz_iload_n C_ 1 rfl rfl td_R_clicks_16 ?_
        refine tz_rV C_ tmi_R_isClick tw_380 tw_381 tw_379 hR.1 rfl (As := [.int (nI i), .int v]) (by exact (ct_R_isClick (n := n) (g := g) ⟨hR.1, hR.2⟩ (by omega))) rfl (rest := []) rfl (by decide) (Nat.le_of_ble_eq_true rfl) td_R_clicks_17 (st1 := [.int (tz_p (tz_click n g (nI i) v))]) rfl ?_
        refine tz_if_eq C_ td_R_clicks_20 (fun h20 => ?_) (fun h20 => ?_)
        · skip
          replace h20 := tz_p0.mp h20
          refine tz_iinc C_ (k := 1) (v := nI (i + 1)) (lv' := [(0, .ref a), (1, .int v), (2, .int (nI x)), (3, .int (nI (i + 1)))]) 3 rfl (nI_1 i) [1, 2, 3, 0] (by decide) rfl td_R_clicks_26 ?_
          refine tz_goto C_ td_R_clicks_29 ?_
          exact ih4 x (i + 1) (⟨by omega, by omega⟩) (by rw [tz_ct_s, hc]; simp [h20]) (by omega)
        · skip
          replace h20 := tz_p1.mp h20
          refine tz_iinc C_ (k := 1) (v := nI (x + 1)) (lv' := [(0, .ref a), (1, .int v), (2, .int (nI (x + 1))), (3, .int (nI i))]) 2 rfl (nI_1 x) [1, 2, 0, 3] (by decide) rfl td_R_clicks_23 ?_
          refine tz_iinc C_ (k := 1) (v := nI (i + 1)) (lv' := [(0, .ref a), (1, .int v), (2, .int (nI (x + 1))), (3, .int (nI (i + 1)))]) 3 rfl (nI_1 i) [1, 2, 3, 0] (by decide) rfl td_R_clicks_26 ?_
          refine tz_goto C_ td_R_clicks_29 ?_
          exact ih4 (x + 1) (i + 1) (⟨by omega, by omega⟩) (by rw [tz_ct_s, hc]; simp [h20]) (by omega)
  exact loop4 _ 0 1 (⟨by omega, by omega⟩) e0.symm (Nat.lt_succ_self _)


theorem tz_nlt_of {i n : Nat} (h : nI i < nI n) (hi : i < 2 ^ 31) (hn : n < 2 ^ 31) : i < n := (nI_ltI hi hn).mp h
theorem tz_has_iff {i n : Nat} (hi : i < 2 ^ 31) (hn : n < 2 ^ 31) : (0 ≤ nI i ∧ nI i < nI n) ↔ i < n := ⟨fun z => (nI_ltI hi hn).mp z.2, fun z => ⟨nI_pos' hi, (nI_ltI hi hn).mpr z⟩⟩

abbrev rm_R_placesUnlike : Room := { frames := 1, cells := 0, slots := 0, locals := 21 }
set_option maxHeartbeats 4000000 in
set_option maxRecDepth 100000 in
theorem ct_R_placesUnlike {l : Launch} {A : Nat → Prop} {D : va_G} {cs : Nat → ClassId} {sz : Nat} {f : tz_PH} {a n : Nat} {g : Nat → Int32} (hR : tz_Row cs f a n g) (hn : n ≤ 120) {b n2 : Nat} {g2 : Nat → Int32} (hR2 : tz_Row cs f b n2 g2) (hn2 : n2 ≤ 120) : tz_CN l tyR_placesUnlike prog_7_method_16_code 4 (some (.int)) rm_R_placesUnlike 0 0 A D cs sz [.ref a, .ref b] f (some (.int (nI (tz_ct (fun k => decide (¬ (k < n2 ∧ g k = g2 k))) n)))) (fun f' => f' = f) := by
  refine tz_C.ofB (lv0 := [(0, .ref a), (1, .ref b)]) (plainFor_of_name (by decide)) (Nat.le_of_ble_eq_true rfl) rfl ?_
  intro p_ e_ s_ m_ ar_ be_ me_ c_ Q_ C_ hr_ hk_ hnm_ hz_ hQ_
  refine tz_iconst C_ (v := 0) (by decide) td_R_placesUnlike_0 ?_
  refine tz_istore_n C_ (lv' := [(0, .ref a), (1, .ref b), (2, .int 0)]) [1, 2, 0] rfl (by decide) rfl td_R_placesUnlike_1 ?_
  refine tz_iconst C_ (v := 0) (by decide) td_R_placesUnlike_2 ?_
  refine tz_istore_n C_ (lv' := [(0, .ref a), (1, .ref b), (2, .int 0), (3, .int 0)]) [1, 2, 3, 0] rfl (by decide) rfl td_R_placesUnlike_3 ?_
  have loop4 : ∀ (kk4 : Nat) (x : Nat) (i : Nat), (i ≤ n) → (x = tz_ct (fun k => decide (¬ (k < n2 ∧ g k = g2 k))) i) → (n - i) < kk4 → tz_V p_ l e_ rm_R_placesUnlike s_ m_ ar_ be_ me_ c_ Q_ A D 4 f sz 0 0 4 [(0, .ref a), (1, .ref b), (2, .int (nI x)), (3, .int (nI i))] [] := by
    intro kk4
    induction kk4 with
    | zero => intro x i hi hc hm4; omega
    | succ kk4 ih4 =>
      intro x i hi hc hm4
      refine tz_iload_n C_ 3 rfl rfl td_R_placesUnlike_4 ?_
      refine tz_aload_n C_ 0 rfl rfl td_R_placesUnlike_5 ?_
      refine tz_get C_ tci_R 1 (by decide) tw_94 hR.1 rfl td_R_placesUnlike_6 ?_
      refine tz_icmp_ge C_ td_R_placesUnlike_9 (fun h9 => ?_) (fun h9 => ?_)
      · skip
        replace h9 := (nI_leI (a := n) (b := i) (by omega) (by omega)).mp h9
        refine tz_iload_n C_ 2 rfl rfl td_R_placesUnlike_42 ?_
        refine tz_riret C_ hr_ hk_ hQ_ rfl td_R_placesUnlike_43 ?_
        have e9 : i = n := by omega
        subst e9
        exact ⟨tz_ri (by rw [hc]), rfl⟩
      · skip
        replace h9 := mt (nI_leI (a := n) (b := i) (by omega) (by omega)).mpr h9
        refine tz_aload_n C_ 1 rfl rfl td_R_placesUnlike_12 ?_
        refine tz_iload_n C_ 3 rfl rfl td_R_placesUnlike_13 ?_
        refine tz_rV C_ tmi_R_has tw_325 tw_326 tw_341 hR2.1 rfl (As := [.int (nI i)]) (by exact (ct_R_has (n := n2) (g := g2) ⟨hR2.1, hR2.2⟩ (by omega))) rfl (rest := []) rfl (by decide) (Nat.le_of_ble_eq_true rfl) td_R_placesUnlike_14 (st1 := [.int (tz_p (0 ≤ (nI i) ∧ (nI i) < nI n2))]) rfl ?_
        refine tz_if_eq C_ td_R_placesUnlike_17 (fun h17 => ?_) (fun h17 => ?_)
        · skip
          replace h17 := tz_p0.mp h17
          refine tz_iinc C_ (k := 1) (v := nI (x + 1)) (lv' := [(0, .ref a), (1, .ref b), (2, .int (nI (x + 1))), (3, .int (nI i))]) 2 rfl (nI_1 x) [1, 2, 0, 3] (by decide) rfl td_R_placesUnlike_33 ?_
          refine tz_iinc C_ (k := 1) (v := nI (i + 1)) (lv' := [(0, .ref a), (1, .ref b), (2, .int (nI (x + 1))), (3, .int (nI (i + 1)))]) 3 rfl (nI_1 i) [1, 2, 3, 0] (by decide) rfl td_R_placesUnlike_36 ?_
          refine tz_goto C_ td_R_placesUnlike_39 ?_
          exact ih4 (x + 1) (i + 1) (by omega) (by rw [tz_ct_s, hc]; have h17c := tz_has_iff (i := i) (n := n2) (by omega) (by omega); simp_all) (by omega)
        · skip
          replace h17 := tz_p1.mp h17
          refine tz_aload_n C_ 0 rfl rfl td_R_placesUnlike_20 ?_
          refine tz_iload_n C_ 3 rfl rfl td_R_placesUnlike_21 ?_
          refine tz_rV C_ tmi_R_at tw_332 tw_333 tw_353 hR.1 rfl (As := [.int (nI i)]) (by exact (ct_R_atN (n := n) (g := g) ⟨hR.1, hR.2⟩ (by omega) (by omega))) rfl (rest := []) rfl (by decide) (Nat.le_of_ble_eq_true rfl) td_R_placesUnlike_22 (st1 := [.int (g i)]) rfl ?_
          refine tz_aload_n C_ 1 rfl rfl td_R_placesUnlike_25 ?_
          refine tz_iload_n C_ 3 rfl rfl td_R_placesUnlike_26 ?_
          refine tz_rV C_ tmi_R_at tw_332 tw_333 tw_353 hR2.1 rfl (As := [.int (nI i)]) (by exact (ct_R_atN (n := n2) (g := g2) ⟨hR2.1, hR2.2⟩ (by omega) (tz_nlt_of h17.2 (by omega) (by omega)))) rfl (rest := [.int (g i)]) rfl (by decide) (Nat.le_of_ble_eq_true rfl) td_R_placesUnlike_27 (st1 := [.int (g2 i), .int (g i)]) rfl ?_
          refine tz_icmp_eq C_ td_R_placesUnlike_30 (fun h30 => ?_) (fun h30 => ?_)
          · skip
            refine tz_iinc C_ (k := 1) (v := nI (i + 1)) (lv' := [(0, .ref a), (1, .ref b), (2, .int (nI x)), (3, .int (nI (i + 1)))]) 3 rfl (nI_1 i) [1, 2, 3, 0] (by decide) rfl td_R_placesUnlike_36 ?_
            refine tz_goto C_ td_R_placesUnlike_39 ?_
            exact ih4 x (i + 1) (by omega) (by rw [tz_ct_s, hc]; have h17c := tz_has_iff (i := i) (n := n2) (by omega) (by omega); simp_all) (by omega)
          · skip
            refine tz_iinc C_ (k := 1) (v := nI (x + 1)) (lv' := [(0, .ref a), (1, .ref b), (2, .int (nI (x + 1))), (3, .int (nI i))]) 2 rfl (nI_1 x) [1, 2, 0, 3] (by decide) rfl td_R_placesUnlike_33 ?_
            refine tz_iinc C_ (k := 1) (v := nI (i + 1)) (lv' := [(0, .ref a), (1, .ref b), (2, .int (nI (x + 1))), (3, .int (nI (i + 1)))]) 3 rfl (nI_1 i) [1, 2, 3, 0] (by decide) rfl td_R_placesUnlike_36 ?_
            refine tz_goto C_ td_R_placesUnlike_39 ?_
            exact ih4 (x + 1) (i + 1) (by omega) (by rw [tz_ct_s, hc]; have h17c := tz_has_iff (i := i) (n := n2) (by omega) (by omega); simp_all) (by omega)
  exact loop4 _ 0 0 (Nat.zero_le _) rfl (Nat.lt_succ_self _)
