
theorem tz_sh_ne {g q : Nat → Int32} {n m : Nat} : ∀ j, j ≤ 19 → ¬ (tz_sh g n m q j).1 = 100 := by
  intro j
  induction j with
  | zero => intro _; unfold tz_sh; decide
  | succ j ih =>
    intro hj
    simp only [tz_sh]
    split
    · exact (tz_sd_ne j (by omega)).1.1
    · exact ih (by omega)
theorem tz_fl_k {h g : Nat → Int32} {i : Nat} (he : g i = h i) : tz_fl h g i = tz_fl h g (i + 1) := by
  funext k
  unfold tz_fl
  by_cases h1 : k < i
  · rw [if_pos h1, if_pos (by omega)]
  · rw [if_neg h1]
    by_cases h2 : k < i + 1
    · rw [if_pos h2, show k = i by omega]; exact he
    · rw [if_neg h2]
section
variable {ro g q H : Nat → Int32} {n m w i : Nat}
theorem tz_fiA (hr : tz_er ro n g) (hi : i < n) (hD : ¬ (tz_sh g n m q (2 * w + 1)).1 = tz_NO) (h : ¬ g i = tz_LO) : ro i = (fun j => tz_mo (tz_fi g n m q w j)) i := by
  dsimp only
  unfold tz_fi
  rw [if_neg hD, if_neg h]; exact hr i hi
theorem tz_fiB (hr : tz_er ro n g) (hi : i < n) (hD : ¬ (tz_sh g n m q (2 * w + 1)).1 = tz_NO) (h : g i = tz_LO) (h2 : tz_at m q (nI i + (tz_sh g n m q (2 * w + 1)).1) = tz_LO) : ro i = (fun j => tz_mo (tz_fi g n m q w j)) i := by
  dsimp only
  unfold tz_fi
  rw [if_neg hD, if_pos h, h2, hr i hi, h]
theorem tz_fiC (hD : ¬ (tz_sh g n m q (2 * w + 1)).1 = tz_NO) (h : g i = tz_LO) {x : Int32} (h2 : tz_at m q (nI i + (tz_sh g n m q (2 * w + 1)).1) = x) : tz_mo x = (fun j => tz_mo (tz_fi g n m q w j)) i := by
  dsimp only
  unfold tz_fi
  rw [if_neg hD, if_pos h, h2]
theorem tz_fiE (hr : tz_er ro n g) (h : n ≤ i ∨ (tz_sh g n m q (2 * w + 1)).1 = tz_NO) : tz_er (tz_fl (fun j => tz_mo (tz_fi g n m q w j)) ro i) n (tz_fi g n m q w) := by
  intro j hj
  by_cases e : j < i
  · rw [tz_fl_in e]
  · rw [tz_fl_ge (by omega), hr j hj]
    rcases h with h | h
    · omega
    · unfold tz_fi
      rw [if_pos h]
end

abbrev rm_M_fill : Room := { frames := 5, cells := 0, slots := 0, locals := 121 }
set_option maxHeartbeats 4000000 in
set_option maxRecDepth 100000 in
theorem ct_M_fill {l : Launch} {A : Nat → Prop} {D : va_G} {cs : Nat → ClassId} {sz : Nat} {f : tz_PH} {M kp n : Nat} {fn ns tg : Int32} {nw pa bi nu sh ro ma ca : Nat → Int32} (hM : tz_MB cs f M kp fn (nI n) ns tg nw pa bi nu sh ro ma ca) {g : Nat → Int32} (hr : tz_er ro n g) (hk : tz_okr n g) (hn : n ≤ 120) {t : tz_TS} (hE : tz_en nw t) (hW : tz_WT t) {k : Nat} (hk4 : k < 4) {w : Nat} (hw : w ≤ 9) : tz_CN l tyM_fill prog_13_method_45_code 5 (none) rm_M_fill 0 0 A D cs sz [.ref M, .int (nI k), .int (nI w)] f (none) (fun f' => (∃ (ro' ma' : Nat → Int32) (ns' tg' : Int32), tz_MB cs f' M kp fn (nI n) (ns') (tg') nw pa bi nu sh (ro') (ma') ca ∧ tz_er ro' n ((tz_fi g n (t.1 k).1 (t.1 k).2 w))) ∧ ∀ q, (q < M ∨ M + 9 ≤ q) → f' q = f q) := by
  refine tz_C.ofB (lv0 := [(0, .ref M), (1, .int (nI k)), (2, .int (nI w))]) (plainFor_of_name (by decide)) (Nat.le_of_ble_eq_true rfl) rfl ?_
  intro p_ e_ s_ m_ ar_ be_ me_ c_ Q_ C_ hr_ hk_ hnm_ hz_ hQ_
  have hn9 := (hW.1 k hk4).1
  refine tz_aload_n C_ 0 rfl rfl td_M_fill_0 ?_
  refine tz_iload_n C_ 1 rfl rfl td_M_fill_1 ?_
  refine tz_iload_n C_ 2 rfl rfl td_M_fill_2 ?_
  refine tz_cV C_ tmi_M_aligned tw_977 tw_34 tw_975 hM.1 rfl (As := [.int (nI k), .int (nI w)]) (by exact (ct_M_aligned ⟨hM.1, hM.2.1, hM.2.2.1, hM.2.2.2.1, hM.2.2.2.2.1, hM.2.2.2.2.2.1, hM.2.2.2.2.2.2.1, hM.2.2.2.2.2.2.2.1, hM.2.2.2.2.2.2.2.2⟩ hr hk hn hE hW (k := k) (by omega) (w := w) (by omega))) rfl (rest := []) rfl (by decide) (Nat.le_of_ble_eq_true rfl) td_M_fill_3 (st1 := [.int (tz_b1 (tz_sh g n (t.1 k).1 (t.1 k).2 (2 * w + 1)).1)]) rfl (fun f1 hF1 => ?_)
  obtain ⟨⟨tg2, hD2⟩, hq2⟩ := hF1
  refine tz_istore_n C_ (lv' := [(0, .ref M), (1, .int (nI k)), (2, .int (nI w)), (3, .int (tz_b1 (tz_sh g n (t.1 k).1 (t.1 k).2 (2 * w + 1)).1))]) [1, 2, 3, 0] rfl (by decide) rfl td_M_fill_6 ?_
  refine tz_iconst C_ (v := 0) (by decide) td_M_fill_7 ?_
  refine tz_istore C_ (lv' := [(0, .ref M), (1, .int (nI k)), (2, .int (nI w)), (3, .int (tz_b1 (tz_sh g n (t.1 k).1 (t.1 k).2 (2 * w + 1)).1)), (4, .int 0)]) [1, 2, 3, 4, 0] (by decide) rfl td_M_fill_8 ?_
  have loop10 : ∀ (kk10 : Nat) (dd : Int32) (tgv : Int32) (i : Nat) (fL : tz_PH), (tz_MB cs fL M kp fn (nI n) ns tgv nw pa bi nu sh ((tz_fl (fun j => tz_mo (tz_fi g n (t.1 k).1 (t.1 k).2 w j)) ro i)) ma ca) → (∀ q, (q < M ∨ M + 9 ≤ q) → fL q = f q) → (i ≤ n) → (dd = tz_b1 (tz_sh g n (t.1 k).1 (t.1 k).2 (2 * w + 1)).1) → (n - i) < kk10 → tz_V p_ l e_ rm_M_fill s_ m_ ar_ be_ me_ c_ Q_ A D 5 fL sz 0 0 10 [(0, .ref M), (1, .int (nI k)), (2, .int (nI w)), (3, .int dd), (4, .int (nI i))] [] := by
    intro kk10
    induction kk10 with
    | zero => intro dd tgv i fL hM1 hfr hi hd0 hm10; omega
    | succ kk10 ih10 =>
      intro dd tgv i fL hM1 hfr hi hd0 hm10
      refine tz_iload C_ 4 rfl td_M_fill_10 ?_
      refine tz_aload_n C_ 0 rfl rfl td_M_fill_12 ?_
      refine tz_get C_ tci_M 7 (by decide) tw_760 hM1.1 rfl td_M_fill_13 ?_
      refine tz_icmp_ge C_ td_M_fill_16 (fun h16 => ?_) (fun h16 => ?_)
      · skip
        replace h16 := (nI_leI (a := n) (b := i) (by omega) (by omega)).mp h16
        refine tz_rvret C_ hr_ hk_ hQ_ rfl td_M_fill_71 ?_
        exact ⟨rfl, ⟨_, _, _, _, ⟨hM1.1, hM1.2.1, hM1.2.2.1, hM1.2.2.2.1, hM1.2.2.2.2.1, hM1.2.2.2.2.2.1, hM1.2.2.2.2.2.2.1, hM1.2.2.2.2.2.2.2.1, hM1.2.2.2.2.2.2.2.2⟩, tz_fiE hr (Or.inl h16)⟩, (fun q hh => by rw [hfr q (by omega)])⟩
      · skip
        replace h16 := mt (nI_leI (a := n) (b := i) (by omega) (by omega)).mpr h16
        refine tz_iload_n C_ 3 rfl rfl td_M_fill_19 ?_
        refine tz_bipush C_ (v := 100) (by decide) td_M_fill_20 ?_
        refine tz_icmp_eq C_ td_M_fill_22 (fun h22 => ?_) (fun h22 => ?_)
        · skip
          rw [hd0] at h22
          replace h22 := (tz_b1_iff (tz_sh_ne _ (by omega))).mp h22
          refine tz_rvret C_ hr_ hk_ hQ_ rfl td_M_fill_71 ?_
          exact ⟨rfl, ⟨_, _, _, _, ⟨hM1.1, hM1.2.1, hM1.2.2.1, hM1.2.2.2.1, hM1.2.2.2.2.1, hM1.2.2.2.2.2.1, hM1.2.2.2.2.2.2.1, hM1.2.2.2.2.2.2.2.1, hM1.2.2.2.2.2.2.2.2⟩, tz_fiE hr (Or.inr h22)⟩, (fun q hh => by rw [hfr q (by omega)])⟩
        · skip
          rw [hd0] at h22
          replace h22 := mt (tz_b1_iff (tz_sh_ne _ (by omega))).mpr h22
          have hdd := hd0
          rw [← tz_b1_id h22] at hdd
          refine tz_aload_n C_ 0 rfl rfl td_M_fill_25 ?_
          refine tz_get C_ tci_M 8 (by decide) tw_761 hM1.1 rfl td_M_fill_26 ?_
          refine tz_iload C_ 4 rfl td_M_fill_29 ?_
          refine tz_ialdN C_ hM1.2.2.2.2.2.2.1 (by omega) (by decide) td_M_fill_31 ?_
          refine tz_ldc C_ tw_829 td_M_fill_32 ?_
          refine tz_icmp_ne C_ td_M_fill_34 (fun h34 => ?_) (fun h34 => ?_)
          · skip
            refine tz_iinc C_ (k := 1) (v := nI (i + 1)) (lv' := [(0, .ref M), (1, .int (nI k)), (2, .int (nI w)), (3, .int dd), (4, .int (nI (i + 1)))]) 4 rfl (nI_1 i) [1, 2, 3, 4, 0] (by decide) rfl td_M_fill_65 ?_
            refine tz_goto C_ td_M_fill_68 ?_
            have a1 : ¬ ro i = 1000000 := by rw [tz_fl_ge (Nat.le_refl _)] at h34; exact h34
            have a2 := mt (tz_er_lo hr hk (show i < n by omega)).mpr a1
            exact ih10 dd tgv (i + 1) fL (⟨hM1.1, hM1.2.1, hM1.2.2.1, hM1.2.2.2.1, hM1.2.2.2.2.1, hM1.2.2.2.2.2.1, by rw [← tz_fl_k (tz_fiA hr (by omega) h22 a2)]; exact hM1.2.2.2.2.2.2.1, hM1.2.2.2.2.2.2.2.1, hM1.2.2.2.2.2.2.2.2⟩) (fun q hh => by rw [hfr q (by omega)]) (by omega) hd0 (by omega)
          · skip
            refine tz_aload_n C_ 0 rfl rfl td_M_fill_37 ?_
            refine tz_iload_n C_ 1 rfl rfl td_M_fill_38 ?_
            refine tz_iload C_ 4 rfl td_M_fill_39 ?_
            refine tz_iload_n C_ 3 rfl rfl td_M_fill_41 ?_
            refine tz_iadd C_ td_M_fill_42 ?_
            refine tz_rV C_ tmi_M_isSample tw_823 tw_16 tw_821 hM1.1 rfl (As := [.int (nI k), .int ((nI i) + dd)]) (by exact (ct_M_isSample ⟨hM1.1, hM1.2.1, hM1.2.2.1, hM1.2.2.2.1, hM1.2.2.2.2.1, hM1.2.2.2.2.2.1, hM1.2.2.2.2.2.2.1, hM1.2.2.2.2.2.2.2.1, hM1.2.2.2.2.2.2.2.2⟩ hE hW)) rfl (rest := []) rfl (by decide) (Nat.le_of_ble_eq_true rfl) td_M_fill_43 (st1 := [.int (tz_p (tz_has t (nI k) ((nI i) + dd)))]) rfl ?_
            refine tz_if_eq C_ td_M_fill_46 (fun h46 => ?_) (fun h46 => ?_)
            · skip
              replace h46 := tz_p0.mp h46
              refine tz_iinc C_ (k := 1) (v := nI (i + 1)) (lv' := [(0, .ref M), (1, .int (nI k)), (2, .int (nI w)), (3, .int dd), (4, .int (nI (i + 1)))]) 4 rfl (nI_1 i) [1, 2, 3, 4, 0] (by decide) rfl td_M_fill_65 ?_
              refine tz_goto C_ td_M_fill_68 ?_
              have a1 : ro i = 1000000 := by rw [tz_fl_ge (Nat.le_refl _)] at h34; exact h34
              have a2 := (tz_er_lo hr hk (show i < n by omega)).mp a1
              rw [tz_hasN hk4, hdd] at h46
              have a3 := tz_at_oo (g := (t.1 k).2) h46
              exact ih10 dd tgv (i + 1) fL (⟨hM1.1, hM1.2.1, hM1.2.2.1, hM1.2.2.2.1, hM1.2.2.2.2.1, hM1.2.2.2.2.2.1, by rw [← tz_fl_k (tz_fiB hr (by omega) h22 a2 a3)]; exact hM1.2.2.2.2.2.2.1, hM1.2.2.2.2.2.2.2.1, hM1.2.2.2.2.2.2.2.2⟩) (fun q hh => by rw [hfr q (by omega)]) (by omega) hd0 (by omega)
            · skip
              replace h46 := tz_p1.mp h46
              rw [tz_hasN hk4] at h46
              obtain ⟨j, hj, ej⟩ := vp_in_of (x := (nI i) + dd) (n := (t.1 k).1) (tz_inI (tz_le_nlt h46.1) h46.2 (by omega)) (by omega)
              have ea := tz_at_N (g := (t.1 k).2) hn9 hj
              rw [← ej] at ea
              refine tz_aload_n C_ 0 rfl rfl td_M_fill_49 ?_
              refine tz_get C_ tci_M 8 (by decide) tw_761 hM1.1 rfl td_M_fill_50 ?_
              refine tz_iload C_ 4 rfl td_M_fill_53 ?_
              refine tz_aload_n C_ 0 rfl rfl td_M_fill_55 ?_
              refine tz_iload_n C_ 1 rfl rfl td_M_fill_56 ?_
              refine tz_iload C_ 4 rfl td_M_fill_57 ?_
              refine tz_iload_n C_ 3 rfl rfl td_M_fill_59 ?_
              refine tz_iadd C_ td_M_fill_60 ?_
              rw [ej]
              refine tz_rV C_ tmi_M_at tw_827 tw_17 tw_825 hM1.1 rfl (As := [.int (nI k), .int (nI j)]) (by exact (ct_M_at ⟨hM1.1, hM1.2.1, hM1.2.2.1, hM1.2.2.2.1, hM1.2.2.2.2.1, hM1.2.2.2.2.2.1, hM1.2.2.2.2.2.2.1, hM1.2.2.2.2.2.2.2.1, hM1.2.2.2.2.2.2.2.2⟩ hE hW (k := k) (j := j) (by omega) (by omega))) rfl (rest := [.int (nI i), .ref (M + 6)]) rfl (by decide) (Nat.le_of_ble_eq_true rfl) td_M_fill_61 (st1 := [.int (tz_mo ((t.1 k).2 j)), .int (nI i), .ref (M + 6)]) rfl ?_
              refine tz_wiastN C_ hM1.2.2.2.2.2.2.1 (by omega) (by decide) (g' := upd ((tz_fl (fun j => tz_mo (tz_fi g n (t.1 k).1 (t.1 k).2 w j)) ro i)) i (tz_mo ((t.1 k).2 j))) rfl td_M_fill_64 (fun f3 hs3 hq3 => ?_)
              refine tz_iinc C_ (k := 1) (v := nI (i + 1)) (lv' := [(0, .ref M), (1, .int (nI k)), (2, .int (nI w)), (3, .int dd), (4, .int (nI (i + 1)))]) 4 rfl (nI_1 i) [1, 2, 3, 4, 0] (by decide) rfl td_M_fill_65 ?_
              refine tz_goto C_ td_M_fill_68 ?_
              have k4 : f3 M = some (tz_obj 11 [.ref (M + 1), .ref (M + 2), .int (nI kp), .int fn, .ref (M + 3), .ref (M + 4), .ref (M + 5), .int (nI n), .ref (M + 6), .int ns, .ref (M + 7), .ref (M + 8), .int tgv]) := ((hq3 _ (by omega)).trans hM1.1)
              have a1 : ro i = 1000000 := by rw [tz_fl_ge (Nat.le_refl _)] at h34; exact h34
              have a2 := (tz_er_lo hr hk (show i < n by omega)).mp a1
              rw [hdd] at ea
              have k5 : f3 (M + 1) = some (tz_ints cs 532 nw) := ((hq3 _ (by omega)).trans hM1.2.1)
              have k6 : f3 (M + 2) = some (tz_ints cs 10640 pa) := ((hq3 _ (by omega)).trans hM1.2.2.1)
              have k7 : f3 (M + 3) = some (tz_ints cs 4 bi) := ((hq3 _ (by omega)).trans hM1.2.2.2.1)
              have k8 : f3 (M + 4) = some (tz_ints cs 4 nu) := ((hq3 _ (by omega)).trans hM1.2.2.2.2.1)
              have k9 : f3 (M + 5) = some (tz_ints cs 480 sh) := ((hq3 _ (by omega)).trans hM1.2.2.2.2.2.1)
              have k10 : f3 (M + 7) = some (tz_ints cs 120 ma) := ((hq3 _ (by omega)).trans hM1.2.2.2.2.2.2.2.1)
              have k11 : f3 (M + 8) = some (tz_ints cs 120 ca) := ((hq3 _ (by omega)).trans hM1.2.2.2.2.2.2.2.2)
              exact ih10 dd tgv (i + 1) f3 (⟨k4, k5, k6, k7, k8, k9, tz_flN hs3 (tz_fiC h22 a2 ea), k10, k11⟩) (fun q hh => by rw [hq3 q (by omega), hfr q (by omega)]) (by omega) hd0 (by omega)
  exact loop10 _ (tz_b1 (tz_sh g n (t.1 k).1 (t.1 k).2 (2 * w + 1)).1) tg2 0 f1 (⟨hD2.1, hD2.2.1, hD2.2.2.1, hD2.2.2.2.1, hD2.2.2.2.2.1, hD2.2.2.2.2.2.1, by rw [tz_fl_0]; exact hD2.2.2.2.2.2.2.1, hD2.2.2.2.2.2.2.2.1, hD2.2.2.2.2.2.2.2.2⟩) (fun q hh => by rw [hq2 q (by omega)]) (Nat.zero_le _) rfl (Nat.lt_succ_self _)
