
theorem tz_cpr {cs : Nat → ClassId} {F : Option va_E} {N a i : Nat} {h g : Nat → Int32} {v : Int32} (h1 : F = some (tz_ints cs N (upd (tz_cpf h g a i) (a + i) v))) (hv : v = h i) : F = some (tz_ints cs N (tz_cpf h g a (i + 1))) := by rw [h1, tz_cpf_s hv]
theorem tz_flN {cs : Nat → ClassId} {F : Option va_E} {N i : Nat} {h g : Nat → Int32} {v : Int32} (h1 : F = some (tz_ints cs N (upd (tz_fl h g i) i v))) (hv : v = h i) : F = some (tz_ints cs N (tz_fl h g (i + 1))) := by rw [h1, tz_fl_s h g i hv]
theorem tz_en.cg {b b' : Nat → Int32} {t : tz_TS} (h : tz_en b t) (hW : tz_WT t) (hb : ∀ i, i < 532 → b' i = b i) : tz_en b' t := by
  obtain ⟨h1, h2, h3, h4, h5⟩ := h
  have hl := hW.2.1
  refine ⟨fun p hp => (hb _ (by omega)).trans (h1 p hp), fun p hp j hj => ?_, (hb _ (by omega)).trans h3, fun k hk => ?_, fun k hk => ?_⟩
  · have := (hW.1 p hp).1
    exact (hb _ (by omega)).trans (h2 p hp j hj)
  · obtain ⟨a, b, c, d⟩ := h4 k hk
    exact ⟨(hb _ (by omega)).trans a, (hb _ (by omega)).trans b, (hb _ (by omega)).trans c, (hb _ (by omega)).trans d⟩
  · obtain ⟨a, b⟩ := h5 k hk
    exact ⟨(hb _ (by omega)).trans a, (hb _ (by omega)).trans b⟩
theorem tz_enH_keep {pa nw : Nat → Int32} {kp : Nat} {ts : Nat → tz_TS} (hH : tz_enH pa kp ts) (hE : tz_en nw (ts kp)) (hW : ∀ j, j ≤ kp → tz_WT (ts j)) (h : kp < 20) : ∀ t', tz_enH (tz_cpf nw pa (kp * 532) 532) (min (kp + 1) 20) (tz_psh ts kp t') := by
  intro t' j hj
  unfold tz_psh
  rw [if_pos h]
  have e : va_up ts (kp + 1) t' j = ts j := by unfold va_up; rw [if_neg (by omega)]
  rw [e]
  by_cases h1 : j = kp
  · subst h1
    refine hE.cg (hW j (Nat.le_refl _)) (fun i hi => ?_)
    rw [show 532 * j + i = j * 532 + i by omega, tz_cpf_in hi]
  · refine (hH j (by omega)).cg (hW j (by omega)) (fun i hi => ?_)
    rw [tz_cpf_out (by omega)]
theorem tz_enH_keep20 {pa nw : Nat → Int32} {ts : Nat → tz_TS} (hH : tz_enH pa 20 ts) (hE : tz_en nw (ts 20)) (hW : ∀ j, j ≤ 20 → tz_WT (ts j)) : ∀ t', tz_enH (tz_cpf nw (tz_fl (fun q => pa (q + 532)) pa 10108) ((20 - 1) * 532) 532) (min (20 + 1) 20) (tz_psh ts 20 t') := by
  intro t' j hj
  unfold tz_psh
  rw [if_neg (by omega)]
  have hj2 : j < 20 := by omega
  simp only [if_pos hj2]
  by_cases h1 : j = 19
  · subst h1
    refine hE.cg (hW 20 (Nat.le_refl _)) (fun i hi => ?_)
    rw [show 532 * 19 + i = (20 - 1) * 532 + i by omega, tz_cpf_in hi]
  · refine (hH (j + 1) (by omega)).cg (hW (j + 1) (by omega)) (fun i hi => ?_)
    rw [tz_cpf_out (by omega), tz_fl_in (by omega), show 532 * j + i + 532 = 532 * (j + 1) + i by omega]
theorem tz_en_row {nw ro : Nat → Int32} {t : tz_TS} {k n : Nat} {g : Nat → Int32} (hE : tz_en nw t) (hW : tz_WT t) (hk : k < 4) (hr : tz_er ro n g) (hn : n ≤ 120) : tz_en (tz_cpf ro (upd nw k (nI n)) (4 + 120 * k) n) (tz_sr t k (n, g)) := by
  obtain ⟨h1, h2, h3, h4, h5⟩ := hE
  have hl := hW.2.1
  have hu : ∀ q, (q < 4 + 120 * k ∨ 4 + 120 * k + n ≤ q) ∧ ¬ q = k → tz_cpf ro (upd nw k (nI n)) (4 + 120 * k) n q = nw q := by
    intro q hq
    rw [tz_cpf_out hq.1]
    simp only [upd, if_neg hq.2]
  have e1 : ∀ p, (tz_sr t k (n, g)).1 p = if p = k then (n, g) else t.1 p := fun p => rfl
  refine ⟨fun p hp => ?_, fun p hp j hj => ?_, ?_, ?_, ?_⟩
  · rw [e1]
    by_cases e : p = k
    · subst e
      rw [if_pos rfl, tz_cpf_out (by omega)]
      simp only [upd, if_true]
    · rw [if_neg e, hu p (by omega)]
      exact h1 p hp
  · rw [e1] at hj ⊢
    by_cases e : p = k
    · subst e
      rw [if_pos rfl] at hj ⊢
      rw [tz_cpf_in hj]
      exact hr j hj
    · rw [if_neg e] at hj ⊢
      have := (hW.1 p hp).1
      rw [hu _ (by omega)]
      exact h2 p hp j hj
  · rw [hu _ (by omega)]; exact h3
  · intro q hq
    have hq8 : q < 8 := Nat.lt_of_lt_of_le hq hl
    rw [hu _ (by omega), hu _ (by omega), hu _ (by omega), hu _ (by omega)]
    exact h4 q hq
  · intro q hq
    rw [hu _ (by omega), hu _ (by omega)]
    exact h5 q hq

abbrev rm_M_keep : Room := { frames := 0, cells := 0, slots := 0, locals := 0 }
set_option maxHeartbeats 4000000 in
set_option maxRecDepth 100000 in
theorem ct_M_keepA {l : Launch} {A : Nat → Prop} {D : va_G} {cs : Nat → ClassId} {sz : Nat} {f : tz_PH} {M kp : Nat} {fn ms ns tg : Int32} {nw pa bi nu sh ro ma ca : Nat → Int32} (hM : tz_MB cs f M kp fn ms ns tg nw pa bi nu sh ro ma ca) {ts : Nat → tz_TS} (hH : tz_enH pa kp ts) (hE : tz_en nw (ts kp)) (hW : ∀ j, j ≤ kp → tz_WT (ts j)) (hk : kp < 20) : tz_CN l tyM_keep prog_13_method_7_code 2 (none) rm_M_keep 0 0 A D cs sz [.ref M] f (none) (fun f' => (∃ pa' : Nat → Int32, tz_MB cs f' M (min (kp + 1) 20) fn ms ns tg nw (pa') bi nu sh ro ma ca ∧ ∀ t', tz_enH pa' (min (kp + 1) 20) (tz_psh ts kp t')) ∧ ∀ q, (q < M ∨ M + 9 ≤ q) → f' q = f q) := by
  refine tz_C.ofB (lv0 := [(0, .ref M)]) (plainFor_of_name (by decide)) (Nat.le_of_ble_eq_true rfl) rfl ?_
  intro p_ e_ s_ m_ ar_ be_ me_ c_ Q_ C_ hr_ hk_ hnm_ hz_ hQ_
  refine tz_aload_n C_ 0 rfl rfl td_M_keep_0 ?_
  refine tz_get C_ tci_M 2 (by decide) tw_755 hM.1 rfl td_M_keep_1 ?_
  refine tz_bipush C_ (v := 20) (by decide) td_M_keep_4 ?_
  refine tz_icmp_ne C_ td_M_keep_6 (fun h6 => ?_) (fun h6 => ?_)
  · skip
    replace h6 := mt (nI_eq (a := kp) (b := 20) (by omega) (by omega)).mpr h6
    refine tz_iconst C_ (v := 0) (by decide) td_M_keep_50 ?_
    refine tz_istore_n C_ (lv' := [(0, .ref M), (1, .int 0)]) [1, 0] rfl (by decide) rfl td_M_keep_51 ?_
    have loop52 : ∀ (kk52 : Nat) (i : Nat) (fL : tz_PH), (tz_MB cs fL M kp fn ms ns tg nw ((tz_cpf nw pa (kp * 532) i)) bi nu sh ro ma ca) → (∀ q, (q < M ∨ M + 9 ≤ q) → fL q = f q) → (i ≤ 532) → (532 - i) < kk52 → tz_V p_ l e_ rm_M_keep s_ m_ ar_ be_ me_ c_ Q_ A D 2 fL sz 0 0 52 [(0, .ref M), (1, .int (nI i))] [] := by
      intro kk52
      induction kk52 with
      | zero => intro i fL hM1 hfr hi hm52; omega
      | succ kk52 ih52 =>
        intro i fL hM1 hfr hi hm52
        refine tz_iload_n C_ 1 rfl rfl td_M_keep_52 ?_
        refine tz_sipush C_ (v := 532) (by decide) td_M_keep_53 ?_
        refine tz_icmp_ge C_ td_M_keep_56 (fun h56 => ?_) (fun h56 => ?_)
        · skip
          replace h56 := (nI_leI (a := 532) (b := i) (by omega) (by omega)).mp h56
          refine tz_aload_n C_ 0 rfl rfl td_M_keep_86 ?_
          refine tz_dup C_ rfl td_M_keep_87 ?_
          refine tz_get C_ tci_M 2 (by decide) tw_755 hM1.1 rfl td_M_keep_88 ?_
          refine tz_iconst C_ (v := 1) (by decide) td_M_keep_91 ?_
          refine tz_iadd C_ td_M_keep_92 ?_
          rw [show ((nI kp) + 1 : Int32) = nI (kp + 1) from nI_add (kp) (1)]
          refine tz_wput C_ tci_M 2 (by decide) tw_755 rfl hM1.1 (Nat.le_of_ble_eq_true rfl) ⟨rfl, rfl⟩ (fs' := [.ref (M + 1), .ref (M + 2), .int (nI (kp + 1)), .int fn, .ref (M + 3), .ref (M + 4), .ref (M + 5), .int ms, .ref (M + 6), .int ns, .ref (M + 7), .ref (M + 8), .int tg]) rfl td_M_keep_93 (fun f1 hs1 hq1 => ?_)
          refine tz_rvret C_ hr_ hk_ hQ_ rfl td_M_keep_96 ?_
          have k2 : f1 (M + 1) = some (tz_ints cs 532 nw) := ((hq1 _ (by omega)).trans hM1.2.1)
          have k3 : f1 (M + 2) = some (tz_ints cs 10640 ((tz_cpf nw pa (kp * 532) i))) := ((hq1 _ (by omega)).trans hM1.2.2.1)
          have k4 : f1 (M + 3) = some (tz_ints cs 4 bi) := ((hq1 _ (by omega)).trans hM1.2.2.2.1)
          have k5 : f1 (M + 4) = some (tz_ints cs 4 nu) := ((hq1 _ (by omega)).trans hM1.2.2.2.2.1)
          have k6 : f1 (M + 5) = some (tz_ints cs 480 sh) := ((hq1 _ (by omega)).trans hM1.2.2.2.2.2.1)
          have k7 : f1 (M + 6) = some (tz_ints cs 120 ro) := ((hq1 _ (by omega)).trans hM1.2.2.2.2.2.2.1)
          have k8 : f1 (M + 7) = some (tz_ints cs 120 ma) := ((hq1 _ (by omega)).trans hM1.2.2.2.2.2.2.2.1)
          have k9 : f1 (M + 8) = some (tz_ints cs 120 ca) := ((hq1 _ (by omega)).trans hM1.2.2.2.2.2.2.2.2)
          have e9 : i = 532 := by omega
          subst e9
          exact ⟨rfl, ⟨_, by rw [show min (kp + 1) 20 = kp + 1 by omega]; exact ⟨hs1, k2, k3, k4, k5, k6, k7, k8, k9⟩, tz_enH_keep hH hE hW hk⟩, (fun q hh => by rw [hq1 q (by omega), hfr q (by omega)])⟩
        · skip
          replace h56 := mt (nI_leI (a := 532) (b := i) (by omega) (by omega)).mpr h56
          refine tz_aload_n C_ 0 rfl rfl td_M_keep_59 ?_
          refine tz_get C_ tci_M 1 (by decide) tw_754 hM1.1 rfl td_M_keep_60 ?_
          refine tz_aload_n C_ 0 rfl rfl td_M_keep_63 ?_
          refine tz_get C_ tci_M 2 (by decide) tw_755 hM1.1 rfl td_M_keep_64 ?_
          refine tz_sipush C_ (v := 532) (by decide) td_M_keep_67 ?_
          refine tz_imul C_ td_M_keep_70 ?_
          rw [show ((nI kp) * 532 : Int32) = nI (kp * 532) from pk_mul (kp) (532)]
          refine tz_iload_n C_ 1 rfl rfl td_M_keep_71 ?_
          refine tz_iadd C_ td_M_keep_72 ?_
          rw [show ((nI (kp * 532)) + (nI i) : Int32) = nI (kp * 532 + i) from nI_add (kp * 532) (i)]
          refine tz_aload_n C_ 0 rfl rfl td_M_keep_73 ?_
          refine tz_get C_ tci_M 0 (by decide) tw_753 hM1.1 rfl td_M_keep_74 ?_
          refine tz_iload_n C_ 1 rfl rfl td_M_keep_77 ?_
          refine tz_ialdN C_ hM1.2.1 (by omega) (by decide) td_M_keep_78 ?_
          refine tz_wiastN C_ hM1.2.2.1 (by omega) (by decide) (g' := upd ((tz_cpf nw pa (kp * 532) i)) ((kp * 532 + i)) (nw i)) rfl td_M_keep_79 (fun f10 hs10 hq10 => ?_)
          refine tz_iinc C_ (k := 1) (v := nI (i + 1)) (lv' := [(0, .ref M), (1, .int (nI (i + 1)))]) 1 rfl (nI_1 i) [1, 0] (by decide) rfl td_M_keep_80 ?_
          refine tz_goto C_ td_M_keep_83 ?_
          have k11 : f10 M = some (tz_obj 11 [.ref (M + 1), .ref (M + 2), .int (nI kp), .int fn, .ref (M + 3), .ref (M + 4), .ref (M + 5), .int ms, .ref (M + 6), .int ns, .ref (M + 7), .ref (M + 8), .int tg]) := ((hq10 _ (by omega)).trans hM1.1)
          have k12 : f10 (M + 1) = some (tz_ints cs 532 nw) := ((hq10 _ (by omega)).trans hM1.2.1)
          have k13 : f10 (M + 3) = some (tz_ints cs 4 bi) := ((hq10 _ (by omega)).trans hM1.2.2.2.1)
          have k14 : f10 (M + 4) = some (tz_ints cs 4 nu) := ((hq10 _ (by omega)).trans hM1.2.2.2.2.1)
          have k15 : f10 (M + 5) = some (tz_ints cs 480 sh) := ((hq10 _ (by omega)).trans hM1.2.2.2.2.2.1)
          have k16 : f10 (M + 6) = some (tz_ints cs 120 ro) := ((hq10 _ (by omega)).trans hM1.2.2.2.2.2.2.1)
          have k17 : f10 (M + 7) = some (tz_ints cs 120 ma) := ((hq10 _ (by omega)).trans hM1.2.2.2.2.2.2.2.1)
          have k18 : f10 (M + 8) = some (tz_ints cs 120 ca) := ((hq10 _ (by omega)).trans hM1.2.2.2.2.2.2.2.2)
          exact ih52 (i + 1) f10 (⟨k11, k12, tz_cpr hs10 rfl, k13, k14, k15, k16, k17, k18⟩) (fun q hh => by rw [hq10 q (by omega), hfr q (by omega)]) (by omega) (by omega)
    exact loop52 _ 0 f (⟨hM.1, hM.2.1, by rw [tz_cpf_0]; exact hM.2.2.1, hM.2.2.2.1, hM.2.2.2.2.1, hM.2.2.2.2.2.1, hM.2.2.2.2.2.2.1, hM.2.2.2.2.2.2.2.1, hM.2.2.2.2.2.2.2.2⟩) (fun q hh => rfl) (Nat.zero_le _) (Nat.lt_succ_self _)
  · skip
    replace h6 := (nI_eq (a := kp) (b := 20) (by omega) (by omega)).mp h6
    omega

set_option maxHeartbeats 4000000 in
set_option maxRecDepth 100000 in
theorem ct_M_keepB {l : Launch} {A : Nat → Prop} {D : va_G} {cs : Nat → ClassId} {sz : Nat} {f : tz_PH} {M : Nat} {fn ms ns tg : Int32} {nw pa bi nu sh ro ma ca : Nat → Int32} (hM : tz_MB cs f M 20 fn ms ns tg nw pa bi nu sh ro ma ca) {ts : Nat → tz_TS} (hH : tz_enH pa 20 ts) (hE : tz_en nw (ts 20)) (hW : ∀ j, j ≤ 20 → tz_WT (ts j)) : tz_CN l tyM_keep prog_13_method_7_code 2 (none) rm_M_keep 0 0 A D cs sz [.ref M] f (none) (fun f' => (∃ pa' : Nat → Int32, tz_MB cs f' M (min (20 + 1) 20) fn ms ns tg nw (pa') bi nu sh ro ma ca ∧ ∀ t', tz_enH pa' (min (20 + 1) 20) (tz_psh ts 20 t')) ∧ ∀ q, (q < M ∨ M + 9 ≤ q) → f' q = f q) := by
  refine tz_C.ofB (lv0 := [(0, .ref M)]) (plainFor_of_name (by decide)) (Nat.le_of_ble_eq_true rfl) rfl ?_
  intro p_ e_ s_ m_ ar_ be_ me_ c_ Q_ C_ hr_ hk_ hnm_ hz_ hQ_
  refine tz_aload_n C_ 0 rfl rfl td_M_keep_0 ?_
  refine tz_get C_ tci_M 2 (by decide) tw_755 hM.1 rfl td_M_keep_1 ?_
  refine tz_bipush C_ (v := 20) (by decide) td_M_keep_4 ?_
  refine tz_icmp_ne C_ td_M_keep_6 (fun h6 => ?_) (fun h6 => ?_)
  · skip
    replace h6 := mt (nI_eq (a := 20) (b := 20) (by omega) (by omega)).mpr h6
    omega
  · skip
    replace h6 := (nI_eq (a := 20) (b := 20) (by omega) (by omega)).mp h6
    refine tz_iconst C_ (v := 0) (by decide) td_M_keep_9 ?_
    refine tz_istore_n C_ (lv' := [(0, .ref M), (1, .int 0)]) [1, 0] rfl (by decide) rfl td_M_keep_10 ?_
    have loop11 : ∀ (kk11 : Nat) (i : Nat) (fI : tz_PH), (tz_MB cs fI M 20 fn ms ns tg nw ((tz_fl (fun q => pa (q + 532)) pa i)) bi nu sh ro ma ca) → (∀ q, (q < M ∨ M + 9 ≤ q) → fI q = f q) → (i ≤ 10108) → (10108 - i) < kk11 → tz_V p_ l e_ rm_M_keep s_ m_ ar_ be_ me_ c_ Q_ A D 2 fI sz 0 0 11 [(0, .ref M), (1, .int (nI i))] [] := by
      intro kk11
      induction kk11 with
      | zero => intro i fI hM0 hfr hi hm11; omega
      | succ kk11 ih11 =>
        intro i fI hM0 hfr hi hm11
        refine tz_iload_n C_ 1 rfl rfl td_M_keep_11 ?_
        refine tz_sipush C_ (v := 10108) (by decide) td_M_keep_12 ?_
        refine tz_icmp_ge C_ td_M_keep_15 (fun h15 => ?_) (fun h15 => ?_)
        · skip
          replace h15 := (nI_leI (a := 10108) (b := i) (by omega) (by omega)).mp h15
          refine tz_aload_n C_ 0 rfl rfl td_M_keep_40 ?_
          refine tz_dup C_ rfl td_M_keep_41 ?_
          refine tz_get C_ tci_M 2 (by decide) tw_755 hM0.1 rfl td_M_keep_42 ?_
          refine tz_iconst C_ (v := 1) (by decide) td_M_keep_45 ?_
          refine tz_isub C_ td_M_keep_46 ?_
          rw [show ((nI 20) - 1 : Int32) = nI (20 - 1) from pk_sub (a := 20) (b := 1) (by omega)]
          refine tz_wput C_ tci_M 2 (by decide) tw_755 rfl hM0.1 (Nat.le_of_ble_eq_true rfl) ⟨rfl, rfl⟩ (fs' := [.ref (M + 1), .ref (M + 2), .int (nI (20 - 1)), .int fn, .ref (M + 3), .ref (M + 4), .ref (M + 5), .int ms, .ref (M + 6), .int ns, .ref (M + 7), .ref (M + 8), .int tg]) rfl td_M_keep_47 (fun f1 hs1 hq1 => ?_)
          refine tz_iconst C_ (v := 0) (by decide) td_M_keep_50 ?_
          refine tz_istore_n C_ (lv' := [(0, .ref M), (1, .int 0)]) [1, 0] rfl (by decide) rfl td_M_keep_51 ?_
          have e8 : i = 10108 := by omega
          have k2 : f1 (M + 1) = some (tz_ints cs 532 nw) := ((hq1 _ (by omega)).trans hM0.2.1)
          have k3 : f1 (M + 2) = some (tz_ints cs 10640 ((tz_fl (fun q => pa (q + 532)) pa i))) := ((hq1 _ (by omega)).trans hM0.2.2.1)
          have k4 : f1 (M + 3) = some (tz_ints cs 4 bi) := ((hq1 _ (by omega)).trans hM0.2.2.2.1)
          have k5 : f1 (M + 4) = some (tz_ints cs 4 nu) := ((hq1 _ (by omega)).trans hM0.2.2.2.2.1)
          have k6 : f1 (M + 5) = some (tz_ints cs 480 sh) := ((hq1 _ (by omega)).trans hM0.2.2.2.2.2.1)
          have k7 : f1 (M + 6) = some (tz_ints cs 120 ro) := ((hq1 _ (by omega)).trans hM0.2.2.2.2.2.2.1)
          have k8 : f1 (M + 7) = some (tz_ints cs 120 ma) := ((hq1 _ (by omega)).trans hM0.2.2.2.2.2.2.2.1)
          have k9 : f1 (M + 8) = some (tz_ints cs 120 ca) := ((hq1 _ (by omega)).trans hM0.2.2.2.2.2.2.2.2)
          have loop52 : ∀ (kk52 : Nat) (i : Nat) (fL : tz_PH), (tz_MB cs fL M ((20 - 1)) fn ms ns tg nw ((tz_cpf nw (tz_fl (fun q => pa (q + 532)) pa 10108) ((20 - 1) * 532) i)) bi nu sh ro ma ca) → (∀ q, (q < M ∨ M + 9 ≤ q) → fL q = f q) → (i ≤ 532) → (532 - i) < kk52 → tz_V p_ l e_ rm_M_keep s_ m_ ar_ be_ me_ c_ Q_ A D 2 fL sz 0 0 52 [(0, .ref M), (1, .int (nI i))] [] := by
            intro kk52
            induction kk52 with
            | zero => intro i fL hM1 hfr hi hm52; omega
            | succ kk52 ih52 =>
              intro i fL hM1 hfr hi hm52
              refine tz_iload_n C_ 1 rfl rfl td_M_keep_52 ?_
              refine tz_sipush C_ (v := 532) (by decide) td_M_keep_53 ?_
              refine tz_icmp_ge C_ td_M_keep_56 (fun h56 => ?_) (fun h56 => ?_)
              · skip
                replace h56 := (nI_leI (a := 532) (b := i) (by omega) (by omega)).mp h56
                refine tz_aload_n C_ 0 rfl rfl td_M_keep_86 ?_
                refine tz_dup C_ rfl td_M_keep_87 ?_
                refine tz_get C_ tci_M 2 (by decide) tw_755 hM1.1 rfl td_M_keep_88 ?_
                refine tz_iconst C_ (v := 1) (by decide) td_M_keep_91 ?_
                refine tz_iadd C_ td_M_keep_92 ?_
                rw [show ((nI ((20 - 1))) + 1 : Int32) = nI ((20 - 1) + 1) from nI_add ((20 - 1)) (1)]
                refine tz_wput C_ tci_M 2 (by decide) tw_755 rfl hM1.1 (Nat.le_of_ble_eq_true rfl) ⟨rfl, rfl⟩ (fs' := [.ref (M + 1), .ref (M + 2), .int (nI ((20 - 1) + 1)), .int fn, .ref (M + 3), .ref (M + 4), .ref (M + 5), .int ms, .ref (M + 6), .int ns, .ref (M + 7), .ref (M + 8), .int tg]) rfl td_M_keep_93 (fun f10 hs10 hq10 => ?_)
                refine tz_rvret C_ hr_ hk_ hQ_ rfl td_M_keep_96 ?_
                have k11 : f10 (M + 1) = some (tz_ints cs 532 nw) := ((hq10 _ (by omega)).trans hM1.2.1)
                have k12 : f10 (M + 2) = some (tz_ints cs 10640 ((tz_cpf nw (tz_fl (fun q => pa (q + 532)) pa 10108) ((20 - 1) * 532) i))) := ((hq10 _ (by omega)).trans hM1.2.2.1)
                have k13 : f10 (M + 3) = some (tz_ints cs 4 bi) := ((hq10 _ (by omega)).trans hM1.2.2.2.1)
                have k14 : f10 (M + 4) = some (tz_ints cs 4 nu) := ((hq10 _ (by omega)).trans hM1.2.2.2.2.1)
                have k15 : f10 (M + 5) = some (tz_ints cs 480 sh) := ((hq10 _ (by omega)).trans hM1.2.2.2.2.2.1)
                have k16 : f10 (M + 6) = some (tz_ints cs 120 ro) := ((hq10 _ (by omega)).trans hM1.2.2.2.2.2.2.1)
                have k17 : f10 (M + 7) = some (tz_ints cs 120 ma) := ((hq10 _ (by omega)).trans hM1.2.2.2.2.2.2.2.1)
                have k18 : f10 (M + 8) = some (tz_ints cs 120 ca) := ((hq10 _ (by omega)).trans hM1.2.2.2.2.2.2.2.2)
                have e9 : i = 532 := by omega
                subst e9
                exact ⟨rfl, ⟨_, ⟨hs10, k11, k12, k13, k14, k15, k16, k17, k18⟩, tz_enH_keep20 hH hE hW⟩, (fun q hh => by rw [hq10 q (by omega), hfr q (by omega)])⟩
              · skip
                replace h56 := mt (nI_leI (a := 532) (b := i) (by omega) (by omega)).mpr h56
                refine tz_aload_n C_ 0 rfl rfl td_M_keep_59 ?_
                refine tz_get C_ tci_M 1 (by decide) tw_754 hM1.1 rfl td_M_keep_60 ?_
                refine tz_aload_n C_ 0 rfl rfl td_M_keep_63 ?_
                refine tz_get C_ tci_M 2 (by decide) tw_755 hM1.1 rfl td_M_keep_64 ?_
                refine tz_sipush C_ (v := 532) (by decide) td_M_keep_67 ?_
                refine tz_imul C_ td_M_keep_70 ?_
                rw [show ((nI ((20 - 1))) * 532 : Int32) = nI (((20 - 1)) * 532) from pk_mul ((20 - 1)) (532)]
                refine tz_iload_n C_ 1 rfl rfl td_M_keep_71 ?_
                refine tz_iadd C_ td_M_keep_72 ?_
                rw [show ((nI (((20 - 1)) * 532)) + (nI i) : Int32) = nI (((20 - 1)) * 532 + i) from nI_add (((20 - 1)) * 532) (i)]
                refine tz_aload_n C_ 0 rfl rfl td_M_keep_73 ?_
                refine tz_get C_ tci_M 0 (by decide) tw_753 hM1.1 rfl td_M_keep_74 ?_
                refine tz_iload_n C_ 1 rfl rfl td_M_keep_77 ?_
                refine tz_ialdN C_ hM1.2.1 (by omega) (by decide) td_M_keep_78 ?_
                refine tz_wiastN C_ hM1.2.2.1 (by omega) (by decide) (g' := upd ((tz_cpf nw (tz_fl (fun q => pa (q + 532)) pa 10108) ((20 - 1) * 532) i)) ((((20 - 1)) * 532 + i)) (nw i)) rfl td_M_keep_79 (fun f19 hs19 hq19 => ?_)
                refine tz_iinc C_ (k := 1) (v := nI (i + 1)) (lv' := [(0, .ref M), (1, .int (nI (i + 1)))]) 1 rfl (nI_1 i) [1, 0] (by decide) rfl td_M_keep_80 ?_
                refine tz_goto C_ td_M_keep_83 ?_
                have k20 : f19 M = some (tz_obj 11 [.ref (M + 1), .ref (M + 2), .int (nI ((20 - 1))), .int fn, .ref (M + 3), .ref (M + 4), .ref (M + 5), .int ms, .ref (M + 6), .int ns, .ref (M + 7), .ref (M + 8), .int tg]) := ((hq19 _ (by omega)).trans hM1.1)
                have k21 : f19 (M + 1) = some (tz_ints cs 532 nw) := ((hq19 _ (by omega)).trans hM1.2.1)
                have k22 : f19 (M + 3) = some (tz_ints cs 4 bi) := ((hq19 _ (by omega)).trans hM1.2.2.2.1)
                have k23 : f19 (M + 4) = some (tz_ints cs 4 nu) := ((hq19 _ (by omega)).trans hM1.2.2.2.2.1)
                have k24 : f19 (M + 5) = some (tz_ints cs 480 sh) := ((hq19 _ (by omega)).trans hM1.2.2.2.2.2.1)
                have k25 : f19 (M + 6) = some (tz_ints cs 120 ro) := ((hq19 _ (by omega)).trans hM1.2.2.2.2.2.2.1)
                have k26 : f19 (M + 7) = some (tz_ints cs 120 ma) := ((hq19 _ (by omega)).trans hM1.2.2.2.2.2.2.2.1)
                have k27 : f19 (M + 8) = some (tz_ints cs 120 ca) := ((hq19 _ (by omega)).trans hM1.2.2.2.2.2.2.2.2)
                exact ih52 (i + 1) f19 (⟨k20, k21, tz_cpr hs19 rfl, k22, k23, k24, k25, k26, k27⟩) (fun q hh => by rw [hq19 q (by omega), hfr q (by omega)]) (by omega) (by omega)
          exact loop52 _ 0 f1 (⟨hs1, k2, by rw [tz_cpf_0, ← e8]; exact k3, k4, k5, k6, k7, k8, k9⟩) (fun q hh => by rw [hq1 q (by omega), hfr q (by omega)]) (Nat.zero_le _) (Nat.lt_succ_self _)
        · skip
          replace h15 := mt (nI_leI (a := 10108) (b := i) (by omega) (by omega)).mpr h15
          refine tz_aload_n C_ 0 rfl rfl td_M_keep_18 ?_
          refine tz_get C_ tci_M 1 (by decide) tw_754 hM0.1 rfl td_M_keep_19 ?_
          refine tz_iload_n C_ 1 rfl rfl td_M_keep_22 ?_
          refine tz_aload_n C_ 0 rfl rfl td_M_keep_23 ?_
          refine tz_get C_ tci_M 1 (by decide) tw_754 hM0.1 rfl td_M_keep_24 ?_
          refine tz_iload_n C_ 1 rfl rfl td_M_keep_27 ?_
          refine tz_sipush C_ (v := 532) (by decide) td_M_keep_28 ?_
          refine tz_iadd C_ td_M_keep_31 ?_
          rw [show ((nI i) + 532 : Int32) = nI (i + 532) from nI_add (i) (532)]
          refine tz_ialdN C_ hM0.2.2.1 (by omega) (by decide) td_M_keep_32 ?_
          refine tz_wiastN C_ hM0.2.2.1 (by omega) (by decide) (g' := upd ((tz_fl (fun q => pa (q + 532)) pa i)) i (((tz_fl (fun q => pa (q + 532)) pa i)) ((i + 532)))) rfl td_M_keep_33 (fun f28 hs28 hq28 => ?_)
          refine tz_iinc C_ (k := 1) (v := nI (i + 1)) (lv' := [(0, .ref M), (1, .int (nI (i + 1)))]) 1 rfl (nI_1 i) [1, 0] (by decide) rfl td_M_keep_34 ?_
          refine tz_goto C_ td_M_keep_37 ?_
          have k29 : f28 M = some (tz_obj 11 [.ref (M + 1), .ref (M + 2), .int (nI 20), .int fn, .ref (M + 3), .ref (M + 4), .ref (M + 5), .int ms, .ref (M + 6), .int ns, .ref (M + 7), .ref (M + 8), .int tg]) := ((hq28 _ (by omega)).trans hM0.1)
          have k30 : f28 (M + 1) = some (tz_ints cs 532 nw) := ((hq28 _ (by omega)).trans hM0.2.1)
          have k31 : f28 (M + 3) = some (tz_ints cs 4 bi) := ((hq28 _ (by omega)).trans hM0.2.2.2.1)
          have k32 : f28 (M + 4) = some (tz_ints cs 4 nu) := ((hq28 _ (by omega)).trans hM0.2.2.2.2.1)
          have k33 : f28 (M + 5) = some (tz_ints cs 480 sh) := ((hq28 _ (by omega)).trans hM0.2.2.2.2.2.1)
          have k34 : f28 (M + 6) = some (tz_ints cs 120 ro) := ((hq28 _ (by omega)).trans hM0.2.2.2.2.2.2.1)
          have k35 : f28 (M + 7) = some (tz_ints cs 120 ma) := ((hq28 _ (by omega)).trans hM0.2.2.2.2.2.2.2.1)
          have k36 : f28 (M + 8) = some (tz_ints cs 120 ca) := ((hq28 _ (by omega)).trans hM0.2.2.2.2.2.2.2.2)
          exact ih11 (i + 1) f28 (⟨k29, k30, tz_flN hs28 (by unfold tz_fl; rw [if_neg (by omega)]), k31, k32, k33, k34, k35, k36⟩) (fun q hh => by rw [hq28 q (by omega), hfr q (by omega)]) (by omega) (by omega)
    exact loop11 _ 0 f (⟨hM.1, hM.2.1, by rw [tz_fl_0]; exact hM.2.2.1, hM.2.2.2.1, hM.2.2.2.2.1, hM.2.2.2.2.2.1, hM.2.2.2.2.2.2.1, hM.2.2.2.2.2.2.2.1, hM.2.2.2.2.2.2.2.2⟩) (fun q hh => rfl) (Nat.zero_le _) (Nat.lt_succ_self _)

theorem ct_M_keep {l : Launch} {A : Nat → Prop} {D : va_G} {cs : Nat → ClassId} {sz : Nat} {f : tz_PH} {M kp : Nat} {fn ms ns tg : Int32} {nw pa bi nu sh ro ma ca : Nat → Int32} (hM : tz_MB cs f M kp fn ms ns tg nw pa bi nu sh ro ma ca) {ts : Nat → tz_TS} (hH : tz_enH pa kp ts) (hE : tz_en nw (ts kp)) (hW : ∀ j, j ≤ kp → tz_WT (ts j)) (hk : kp ≤ 20) : tz_CN l tyM_keep prog_13_method_7_code 2 (none) rm_M_keep 0 0 A D cs sz [.ref M] f (none) (fun f' => (∃ pa' : Nat → Int32, tz_MB cs f' M (min (kp + 1) 20) fn ms ns tg nw (pa') bi nu sh ro ma ca ∧ ∀ t', tz_enH pa' (min (kp + 1) 20) (tz_psh ts kp t')) ∧ ∀ q, (q < M ∨ M + 9 ≤ q) → f' q = f q) := by
  rcases Nat.lt_or_ge kp 20 with h | h
  · exact ct_M_keepA hM hH hE hW h
  · have e : kp = 20 := by omega
    subst e
    exact ct_M_keepB hM hH hE hW

abbrev rm_M_takePass : Room := { frames := 1, cells := 0, slots := 0, locals := 22 }
set_option maxHeartbeats 4000000 in
set_option maxRecDepth 100000 in
theorem ct_M_takePass {l : Launch} {A : Nat → Prop} {D : va_G} {cs : Nat → ClassId} {sz : Nat} {f : tz_PH} {M kp : Nat} {fn ms ns tg : Int32} {nw pa bi nu sh ro ma ca : Nat → Int32} (hM : tz_MB cs f M kp fn ms ns tg nw pa bi nu sh ro ma ca) {t : tz_TS} (hE : tz_en nw t) (hW : tz_WT t) {k : Nat} (hk : k < 4) : tz_CN l tyM_takePass prog_13_method_9_code 3 (none) rm_M_takePass 0 0 A D cs sz [.ref M, .int (nI k)] f (none) (fun f' => (∃ ro' : Nat → Int32, tz_MB cs f' M kp fn (nI (t.1 k).1) ns tg nw pa bi nu sh (ro') ma ca ∧ tz_er ro' (t.1 k).1 (t.1 k).2) ∧ ∀ q, (q < M ∨ M + 9 ≤ q) → f' q = f q) := by
  refine tz_C.ofB (lv0 := [(0, .ref M), (1, .int (nI k))]) (plainFor_of_name (by decide)) (Nat.le_of_ble_eq_true rfl) rfl ?_
  intro p_ e_ s_ m_ ar_ be_ me_ c_ Q_ C_ hr_ hk_ hnm_ hz_ hQ_
  have hn9 := (hW.1 k hk).1
  refine tz_aload_n C_ 0 rfl rfl td_M_takePass_0 ?_
  refine tz_aload_n C_ 0 rfl rfl td_M_takePass_1 ?_
  refine tz_get C_ tci_M 0 (by decide) tw_753 hM.1 rfl td_M_takePass_2 ?_
  refine tz_iconst C_ (v := 0) (by decide) td_M_takePass_5 ?_
  refine tz_iload_n C_ 1 rfl rfl td_M_takePass_6 ?_
  refine tz_iadd C_ td_M_takePass_7 ?_
  rw [show (0 + (nI k) : Int32) = nI k from Int32.zero_add _]
  refine tz_ialdN C_ hM.2.1 (by omega) (by decide) td_M_takePass_8 ?_
  rw [hE.1 k hk]
  refine tz_wput C_ tci_M 7 (by decide) tw_760 rfl hM.1 (Nat.le_of_ble_eq_true rfl) ⟨rfl, rfl⟩ (fs' := [.ref (M + 1), .ref (M + 2), .int (nI kp), .int fn, .ref (M + 3), .ref (M + 4), .ref (M + 5), .int (nI (t.1 k).1), .ref (M + 6), .int ns, .ref (M + 7), .ref (M + 8), .int tg]) rfl td_M_takePass_9 (fun f1 hs1 hq1 => ?_)
  refine tz_iconst C_ (v := 0) (by decide) td_M_takePass_12 ?_
  refine tz_istore_n C_ (lv' := [(0, .ref M), (1, .int (nI k)), (2, .int 0)]) [1, 2, 0] rfl (by decide) rfl td_M_takePass_13 ?_
  have k2 : f1 (M + 1) = some (tz_ints cs 532 nw) := ((hq1 _ (by omega)).trans hM.2.1)
  have k3 : f1 (M + 2) = some (tz_ints cs 10640 pa) := ((hq1 _ (by omega)).trans hM.2.2.1)
  have k4 : f1 (M + 3) = some (tz_ints cs 4 bi) := ((hq1 _ (by omega)).trans hM.2.2.2.1)
  have k5 : f1 (M + 4) = some (tz_ints cs 4 nu) := ((hq1 _ (by omega)).trans hM.2.2.2.2.1)
  have k6 : f1 (M + 5) = some (tz_ints cs 480 sh) := ((hq1 _ (by omega)).trans hM.2.2.2.2.2.1)
  have k7 : f1 (M + 6) = some (tz_ints cs 120 ro) := ((hq1 _ (by omega)).trans hM.2.2.2.2.2.2.1)
  have k8 : f1 (M + 7) = some (tz_ints cs 120 ma) := ((hq1 _ (by omega)).trans hM.2.2.2.2.2.2.2.1)
  have k9 : f1 (M + 8) = some (tz_ints cs 120 ca) := ((hq1 _ (by omega)).trans hM.2.2.2.2.2.2.2.2)
  have loop14 : ∀ (kk14 : Nat) (i : Nat) (fL : tz_PH), (tz_MB cs fL M kp fn (nI (t.1 k).1) ns tg nw pa bi nu sh ((tz_fl (fun j => tz_mo ((t.1 k).2 j)) ro i)) ma ca) → (∀ q, (q < M ∨ M + 9 ≤ q) → fL q = f q) → (i ≤ (t.1 k).1) → ((t.1 k).1 - i) < kk14 → tz_V p_ l e_ rm_M_takePass s_ m_ ar_ be_ me_ c_ Q_ A D 3 fL sz 0 0 14 [(0, .ref M), (1, .int (nI k)), (2, .int (nI i))] [] := by
    intro kk14
    induction kk14 with
    | zero => intro i fL hM1 hfr hi hm14; omega
    | succ kk14 ih14 =>
      intro i fL hM1 hfr hi hm14
      refine tz_iload_n C_ 2 rfl rfl td_M_takePass_14 ?_
      refine tz_aload_n C_ 0 rfl rfl td_M_takePass_15 ?_
      refine tz_get C_ tci_M 7 (by decide) tw_760 hM1.1 rfl td_M_takePass_16 ?_
      refine tz_icmp_ge C_ td_M_takePass_19 (fun h19 => ?_) (fun h19 => ?_)
      · skip
        replace h19 := (nI_leI (a := (t.1 k).1) (b := i) (by omega) (by omega)).mp h19
        refine tz_rvret C_ hr_ hk_ hQ_ rfl td_M_takePass_40 ?_
        have e9 : i = (t.1 k).1 := by omega
        subst e9
        exact ⟨rfl, ⟨_, ⟨hM1.1, hM1.2.1, hM1.2.2.1, hM1.2.2.2.1, hM1.2.2.2.2.1, hM1.2.2.2.2.2.1, hM1.2.2.2.2.2.2.1, hM1.2.2.2.2.2.2.2.1, hM1.2.2.2.2.2.2.2.2⟩, fun j hj => tz_fl_in hj⟩, (fun q hh => by rw [hfr q (by omega)])⟩
      · skip
        replace h19 := mt (nI_leI (a := (t.1 k).1) (b := i) (by omega) (by omega)).mpr h19
        refine tz_aload_n C_ 0 rfl rfl td_M_takePass_22 ?_
        refine tz_get C_ tci_M 8 (by decide) tw_761 hM1.1 rfl td_M_takePass_23 ?_
        refine tz_iload_n C_ 2 rfl rfl td_M_takePass_26 ?_
        refine tz_aload_n C_ 0 rfl rfl td_M_takePass_27 ?_
        refine tz_iload_n C_ 1 rfl rfl td_M_takePass_28 ?_
        refine tz_iload_n C_ 2 rfl rfl td_M_takePass_29 ?_
        refine tz_rV C_ tmi_M_at tw_827 tw_17 tw_825 hM1.1 rfl (As := [.int (nI k), .int (nI i)]) (by exact (ct_M_at ⟨hM1.1, hM1.2.1, hM1.2.2.1, hM1.2.2.2.1, hM1.2.2.2.2.1, hM1.2.2.2.2.2.1, hM1.2.2.2.2.2.2.1, hM1.2.2.2.2.2.2.2.1, hM1.2.2.2.2.2.2.2.2⟩ hE hW (k := k) (j := i) (by omega) (by omega))) rfl (rest := [.int (nI i), .ref (M + 6)]) rfl (by decide) (Nat.le_of_ble_eq_true rfl) td_M_takePass_30 (st1 := [.int (tz_mo ((t.1 k).2 i)), .int (nI i), .ref (M + 6)]) rfl ?_
        refine tz_wiastN C_ hM1.2.2.2.2.2.2.1 (by omega) (by decide) (g' := upd ((tz_fl (fun j => tz_mo ((t.1 k).2 j)) ro i)) i (tz_mo ((t.1 k).2 i))) rfl td_M_takePass_33 (fun f10 hs10 hq10 => ?_)
        refine tz_iinc C_ (k := 1) (v := nI (i + 1)) (lv' := [(0, .ref M), (1, .int (nI k)), (2, .int (nI (i + 1)))]) 2 rfl (nI_1 i) [1, 2, 0] (by decide) rfl td_M_takePass_34 ?_
        refine tz_goto C_ td_M_takePass_37 ?_
        have k11 : f10 M = some (tz_obj 11 [.ref (M + 1), .ref (M + 2), .int (nI kp), .int fn, .ref (M + 3), .ref (M + 4), .ref (M + 5), .int (nI (t.1 k).1), .ref (M + 6), .int ns, .ref (M + 7), .ref (M + 8), .int tg]) := ((hq10 _ (by omega)).trans hM1.1)
        have k12 : f10 (M + 1) = some (tz_ints cs 532 nw) := ((hq10 _ (by omega)).trans hM1.2.1)
        have k13 : f10 (M + 2) = some (tz_ints cs 10640 pa) := ((hq10 _ (by omega)).trans hM1.2.2.1)
        have k14 : f10 (M + 3) = some (tz_ints cs 4 bi) := ((hq10 _ (by omega)).trans hM1.2.2.2.1)
        have k15 : f10 (M + 4) = some (tz_ints cs 4 nu) := ((hq10 _ (by omega)).trans hM1.2.2.2.2.1)
        have k16 : f10 (M + 5) = some (tz_ints cs 480 sh) := ((hq10 _ (by omega)).trans hM1.2.2.2.2.2.1)
        have k17 : f10 (M + 7) = some (tz_ints cs 120 ma) := ((hq10 _ (by omega)).trans hM1.2.2.2.2.2.2.2.1)
        have k18 : f10 (M + 8) = some (tz_ints cs 120 ca) := ((hq10 _ (by omega)).trans hM1.2.2.2.2.2.2.2.2)
        exact ih14 (i + 1) f10 (⟨k11, k12, k13, k14, k15, k16, tz_flN hs10 rfl, k17, k18⟩) (fun q hh => by rw [hq10 q (by omega), hfr q (by omega)]) (by omega) (by omega)
  exact loop14 _ 0 f1 (⟨hs1, k2, k3, k4, k5, k6, by rw [tz_fl_0]; exact k7, k8, k9⟩) (fun q hh => by rw [hq1 q (by omega)]) (Nat.zero_le _) (Nat.lt_succ_self _)

abbrev rm_M_laysDown : Room := { frames := 0, cells := 0, slots := 0, locals := 0 }
set_option maxHeartbeats 4000000 in
set_option maxRecDepth 100000 in
theorem ct_M_laysDown {l : Launch} {A : Nat → Prop} {D : va_G} {cs : Nat → ClassId} {sz : Nat} {f : tz_PH} {M kp n : Nat} {fn ns tg : Int32} {nw pa bi nu sh ro ma ca : Nat → Int32} (hM : tz_MB cs f M kp fn (nI n) ns tg nw pa bi nu sh ro ma ca) {k : Nat} (hk : k < 4) (hn : n ≤ 120) : tz_CN l tyM_laysDown prog_13_method_10_code 3 (none) rm_M_laysDown 0 0 A D cs sz [.ref M, .int (nI k)] f (none) (fun f' => tz_MB cs f' M kp fn (nI n) ns tg ((tz_cpf ro (upd nw k (nI n)) (4 + 120 * k) n)) pa bi nu sh ro ma ca ∧ ∀ q, (q < M ∨ M + 9 ≤ q) → f' q = f q) := by
  refine tz_C.ofB (lv0 := [(0, .ref M), (1, .int (nI k))]) (plainFor_of_name (by decide)) (Nat.le_of_ble_eq_true rfl) rfl ?_
  intro p_ e_ s_ m_ ar_ be_ me_ c_ Q_ C_ hr_ hk_ hnm_ hz_ hQ_
  refine tz_aload_n C_ 0 rfl rfl td_M_laysDown_0 ?_
  refine tz_get C_ tci_M 0 (by decide) tw_753 hM.1 rfl td_M_laysDown_1 ?_
  refine tz_iconst C_ (v := 0) (by decide) td_M_laysDown_4 ?_
  refine tz_iload_n C_ 1 rfl rfl td_M_laysDown_5 ?_
  refine tz_iadd C_ td_M_laysDown_6 ?_
  rw [show (0 + (nI k) : Int32) = nI k from Int32.zero_add _]
  refine tz_aload_n C_ 0 rfl rfl td_M_laysDown_7 ?_
  refine tz_get C_ tci_M 7 (by decide) tw_760 hM.1 rfl td_M_laysDown_8 ?_
  refine tz_wiastN C_ hM.2.1 (by omega) (by decide) (g' := upd nw k (nI n)) rfl td_M_laysDown_11 (fun f1 hs1 hq1 => ?_)
  refine tz_iconst C_ (v := 0) (by decide) td_M_laysDown_12 ?_
  refine tz_istore_n C_ (lv' := [(0, .ref M), (1, .int (nI k)), (2, .int 0)]) [1, 2, 0] rfl (by decide) rfl td_M_laysDown_13 ?_
  have k2 : f1 M = some (tz_obj 11 [.ref (M + 1), .ref (M + 2), .int (nI kp), .int fn, .ref (M + 3), .ref (M + 4), .ref (M + 5), .int (nI n), .ref (M + 6), .int ns, .ref (M + 7), .ref (M + 8), .int tg]) := ((hq1 _ (by omega)).trans hM.1)
  have k3 : f1 (M + 2) = some (tz_ints cs 10640 pa) := ((hq1 _ (by omega)).trans hM.2.2.1)
  have k4 : f1 (M + 3) = some (tz_ints cs 4 bi) := ((hq1 _ (by omega)).trans hM.2.2.2.1)
  have k5 : f1 (M + 4) = some (tz_ints cs 4 nu) := ((hq1 _ (by omega)).trans hM.2.2.2.2.1)
  have k6 : f1 (M + 5) = some (tz_ints cs 480 sh) := ((hq1 _ (by omega)).trans hM.2.2.2.2.2.1)
  have k7 : f1 (M + 6) = some (tz_ints cs 120 ro) := ((hq1 _ (by omega)).trans hM.2.2.2.2.2.2.1)
  have k8 : f1 (M + 7) = some (tz_ints cs 120 ma) := ((hq1 _ (by omega)).trans hM.2.2.2.2.2.2.2.1)
  have k9 : f1 (M + 8) = some (tz_ints cs 120 ca) := ((hq1 _ (by omega)).trans hM.2.2.2.2.2.2.2.2)
  have loop14 : ∀ (kk14 : Nat) (i : Nat) (fL : tz_PH), (tz_MB cs fL M kp fn (nI n) ns tg ((tz_cpf ro (upd nw k (nI n)) (4 + 120 * k) i)) pa bi nu sh ro ma ca) → (∀ q, (q < M ∨ M + 9 ≤ q) → fL q = f q) → (i ≤ n) → (n - i) < kk14 → tz_V p_ l e_ rm_M_laysDown s_ m_ ar_ be_ me_ c_ Q_ A D 3 fL sz 0 0 14 [(0, .ref M), (1, .int (nI k)), (2, .int (nI i))] [] := by
    intro kk14
    induction kk14 with
    | zero => intro i fL hM1 hfr hi hm14; omega
    | succ kk14 ih14 =>
      intro i fL hM1 hfr hi hm14
      refine tz_iload_n C_ 2 rfl rfl td_M_laysDown_14 ?_
      refine tz_aload_n C_ 0 rfl rfl td_M_laysDown_15 ?_
      refine tz_get C_ tci_M 7 (by decide) tw_760 hM1.1 rfl td_M_laysDown_16 ?_
      refine tz_icmp_ge C_ td_M_laysDown_19 (fun h19 => ?_) (fun h19 => ?_)
      · skip
        replace h19 := (nI_leI (a := n) (b := i) (by omega) (by omega)).mp h19
        refine tz_rvret C_ hr_ hk_ hQ_ rfl td_M_laysDown_47 ?_
        have e9 : i = n := by omega
        subst e9
        exact ⟨rfl, ⟨hM1.1, hM1.2.1, hM1.2.2.1, hM1.2.2.2.1, hM1.2.2.2.2.1, hM1.2.2.2.2.2.1, hM1.2.2.2.2.2.2.1, hM1.2.2.2.2.2.2.2.1, hM1.2.2.2.2.2.2.2.2⟩, (fun q hh => by rw [hfr q (by omega)])⟩
      · skip
        replace h19 := mt (nI_leI (a := n) (b := i) (by omega) (by omega)).mpr h19
        refine tz_aload_n C_ 0 rfl rfl td_M_laysDown_22 ?_
        refine tz_get C_ tci_M 0 (by decide) tw_753 hM1.1 rfl td_M_laysDown_23 ?_
        refine tz_iconst C_ (v := 4) (by decide) td_M_laysDown_26 ?_
        refine tz_bipush C_ (v := 120) (by decide) td_M_laysDown_27 ?_
        refine tz_iload_n C_ 1 rfl rfl td_M_laysDown_29 ?_
        refine tz_imul C_ td_M_laysDown_30 ?_
        rw [show (120 * (nI k) : Int32) = nI (120 * k) from pk_mul (120) (k)]
        refine tz_iadd C_ td_M_laysDown_31 ?_
        rw [show (4 + (nI (120 * k)) : Int32) = nI (4 + (120 * k)) from nI_add (4) (120 * k)]
        refine tz_iload_n C_ 2 rfl rfl td_M_laysDown_32 ?_
        refine tz_iadd C_ td_M_laysDown_33 ?_
        rw [show ((nI (4 + (120 * k))) + (nI i) : Int32) = nI (4 + (120 * k) + i) from nI_add (4 + (120 * k)) (i)]
        refine tz_aload_n C_ 0 rfl rfl td_M_laysDown_34 ?_
        refine tz_get C_ tci_M 8 (by decide) tw_761 hM1.1 rfl td_M_laysDown_35 ?_
        refine tz_iload_n C_ 2 rfl rfl td_M_laysDown_38 ?_
        refine tz_ialdN C_ hM1.2.2.2.2.2.2.1 (by omega) (by decide) td_M_laysDown_39 ?_
        refine tz_wiastN C_ hM1.2.1 (by omega) (by decide) (g' := upd ((tz_cpf ro (upd nw k (nI n)) (4 + 120 * k) i)) ((4 + (120 * k) + i)) (ro i)) rfl td_M_laysDown_40 (fun f10 hs10 hq10 => ?_)
        refine tz_iinc C_ (k := 1) (v := nI (i + 1)) (lv' := [(0, .ref M), (1, .int (nI k)), (2, .int (nI (i + 1)))]) 2 rfl (nI_1 i) [1, 2, 0] (by decide) rfl td_M_laysDown_41 ?_
        refine tz_goto C_ td_M_laysDown_44 ?_
        have k11 : f10 M = some (tz_obj 11 [.ref (M + 1), .ref (M + 2), .int (nI kp), .int fn, .ref (M + 3), .ref (M + 4), .ref (M + 5), .int (nI n), .ref (M + 6), .int ns, .ref (M + 7), .ref (M + 8), .int tg]) := ((hq10 _ (by omega)).trans hM1.1)
        have k12 : f10 (M + 2) = some (tz_ints cs 10640 pa) := ((hq10 _ (by omega)).trans hM1.2.2.1)
        have k13 : f10 (M + 3) = some (tz_ints cs 4 bi) := ((hq10 _ (by omega)).trans hM1.2.2.2.1)
        have k14 : f10 (M + 4) = some (tz_ints cs 4 nu) := ((hq10 _ (by omega)).trans hM1.2.2.2.2.1)
        have k15 : f10 (M + 5) = some (tz_ints cs 480 sh) := ((hq10 _ (by omega)).trans hM1.2.2.2.2.2.1)
        have k16 : f10 (M + 6) = some (tz_ints cs 120 ro) := ((hq10 _ (by omega)).trans hM1.2.2.2.2.2.2.1)
        have k17 : f10 (M + 7) = some (tz_ints cs 120 ma) := ((hq10 _ (by omega)).trans hM1.2.2.2.2.2.2.2.1)
        have k18 : f10 (M + 8) = some (tz_ints cs 120 ca) := ((hq10 _ (by omega)).trans hM1.2.2.2.2.2.2.2.2)
        exact ih14 (i + 1) f10 (⟨k11, tz_cpr hs10 rfl, k12, k13, k14, k15, k16, k17, k18⟩) (fun q hh => by rw [hq10 q (by omega), hfr q (by omega)]) (by omega) (by omega)
  exact loop14 _ 0 f1 (⟨k2, by rw [tz_cpf_0]; exact hs1, k3, k4, k5, k6, k7, k8, k9⟩) (fun q hh => by rw [hq1 q (by omega)]) (Nat.zero_le _) (Nat.lt_succ_self _)
