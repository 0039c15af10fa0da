
theorem tz_sd_ne : ∀ j, j < 19 → (¬ tz_sd (nI j) = 100 ∧ ¬ tz_sd (nI j) = tz_NO) ∧ -9 ≤ tz_sd (nI j) ∧ tz_sd (nI j) ≤ 9 := by decide
def tz_b1 (b : Int32) : Int32 := if b = tz_NO then 100 else b
theorem tz_b1_iff {b : Int32} (h : ¬ b = 100) : tz_b1 b = 100 ↔ b = tz_NO := by
  unfold tz_b1
  split
  · rename_i e; exact ⟨fun _ => e, fun _ => rfl⟩
  · rename_i e; exact ⟨fun z => absurd z h, fun z => absurd z e⟩
theorem tz_b1_id {b : Int32} (h : ¬ b = tz_NO) : b = tz_b1 b := by unfold tz_b1; rw [if_neg h]
theorem tz_odd {j : Nat} (hj : j < 100000) : nI j - nI j / 2 * 2 = 1 ↔ ¬ nI j - nI j / 2 * 2 = 0 := by
  rw [show (nI j - nI j / 2 * 2 : Int32) = nI (j % 2) from pk_rem (a := j) (d := 2) (by omega) (by omega) (by omega)]
  rcases (show j % 2 = 0 ∨ j % 2 = 1 by omega) with h | h <;> rw [h] <;> decide
theorem tz_at_oo {n : Nat} {g : Nat → Int32} {x : Int32} (h : ¬ (0 ≤ x ∧ x < nI n)) : tz_at n g x = tz_LO := by unfold tz_at; rw [if_neg h]
theorem tz_hasN {t : tz_TS} {k : Nat} {x : Int32} (hk : k < 4) : tz_has t (nI k) x ↔ 0 ≤ x ∧ x < nI (t.1 k).1 := by
  unfold tz_has
  rw [nI_clamp (by omega)]
  exact ⟨fun z => z.2, fun z => ⟨⟨nI_pos' (by omega), show nI k < nI 4 from nI_lt hk (by omega)⟩, z⟩⟩
theorem tz_long4 {y : Nat} (hy : y < 1000) : lg_cmp (Int32.toInt64 (nI y)) 4 < 0 ↔ y < 4 := by
  rw [lg_cmp_lt, Int64.lt_iff_toInt_lt, Int32.toInt_toInt64, nI_toInt (by omega)]
  have z : (4 : Int64).toInt = 4 := rfl
  rw [z]; omega

abbrev rm_M_differs : Room := { frames := 3, cells := 0, slots := 0, locals := 64 }
set_option maxHeartbeats 4000000 in
set_option maxRecDepth 100000 in
theorem ct_M_differs {l : Launch} {A : Nat → Prop} {D : va_G} {cs : Nat → ClassId} {sz : Nat} {f : tz_PH} {M kp n : Nat} {fn ns tg : Int32} {nw pa bi nu sh ro ma ca : Nat → Int32} (hM : tz_MB cs f M kp fn (nI n) ns tg nw pa bi nu sh ro ma ca) {g : Nat → Int32} (hr : tz_er ro n g) (hk : tz_okr n g) (hn : n ≤ 120) {t : tz_TS} (hE : tz_en nw t) (hW : tz_WT t) {k : Nat} (hk4 : k < 4) {d : Int32} : tz_CN l tyM_differs prog_13_method_41_code 5 (some (.int)) rm_M_differs 0 0 A D cs sz [.ref M, .int (nI k), .int d] f (some (.int (tz_ds g (t.1 k).1 (t.1 k).2 d n))) (fun f' => tz_MB cs f' M kp fn (nI n) ns (nI (tz_dn g (t.1 k).1 (t.1 k).2 d n)) nw pa bi nu sh ro ma ca ∧ ∀ q, (q < M ∨ M + 9 ≤ q) → f' q = f q) := by
  refine tz_C.ofB (lv0 := [(0, .ref M), (1, .int (nI k)), (2, .int d)]) (plainFor_of_name (by decide)) (Nat.le_of_ble_eq_true rfl) rfl ?_
  intro p_ e_ s_ m_ ar_ be_ me_ c_ Q_ C_ hr_ hk_ hnm_ hz_ hQ_
  have hn9 := (hW.1 k hk4).1
  refine tz_aload_n C_ 0 rfl rfl td_M_differs_0 ?_
  refine tz_iconst C_ (v := 0) (by decide) td_M_differs_1 ?_
  refine tz_wput C_ tci_M 12 (by decide) tw_765 rfl hM.1 (Nat.le_of_ble_eq_true rfl) ⟨rfl, rfl⟩ (fs' := [.ref (M + 1), .ref (M + 2), .int (nI kp), .int fn, .ref (M + 3), .ref (M + 4), .ref (M + 5), .int (nI n), .ref (M + 6), .int ns, .ref (M + 7), .ref (M + 8), .int 0]) rfl td_M_differs_2 (fun f1 hs1 hq1 => ?_)
  refine tz_iconst C_ (v := 0) (by decide) td_M_differs_5 ?_
  refine tz_istore_n C_ (lv' := [(0, .ref M), (1, .int (nI k)), (2, .int d), (3, .int 0)]) [1, 2, 3, 0] rfl (by decide) rfl td_M_differs_6 ?_
  refine tz_iconst C_ (v := 0) (by decide) td_M_differs_7 ?_
  refine tz_istore C_ (lv' := [(0, .ref M), (1, .int (nI k)), (2, .int d), (3, .int 0), (4, .int 0)]) [1, 2, 3, 4, 0] (by decide) rfl td_M_differs_8 ?_
  have k2 : f1 (M + 1) = some (tz_ints cs 532 nw) := ((hq1 _ (by omega)).trans hM.2.1)
  have k3 : f1 (M + 2) = some (tz_ints cs 10640 pa) := ((hq1 _ (by omega)).trans hM.2.2.1)
  have k4 : f1 (M + 3) = some (tz_ints cs 4 bi) := ((hq1 _ (by omega)).trans hM.2.2.2.1)
  have k5 : f1 (M + 4) = some (tz_ints cs 4 nu) := ((hq1 _ (by omega)).trans hM.2.2.2.2.1)
  have k6 : f1 (M + 5) = some (tz_ints cs 480 sh) := ((hq1 _ (by omega)).trans hM.2.2.2.2.2.1)
  have k7 : f1 (M + 6) = some (tz_ints cs 120 ro) := ((hq1 _ (by omega)).trans hM.2.2.2.2.2.2.1)
  have k8 : f1 (M + 7) = some (tz_ints cs 120 ma) := ((hq1 _ (by omega)).trans hM.2.2.2.2.2.2.2.1)
  have k9 : f1 (M + 8) = some (tz_ints cs 120 ca) := ((hq1 _ (by omega)).trans hM.2.2.2.2.2.2.2.2)
  have loop10 : ∀ (kk10 : Nat) (x : Int32) (y : Nat) (i : Nat) (fL : tz_PH), (tz_MB cs fL M kp fn (nI n) ns (nI y) nw pa bi nu sh ro ma ca) → (∀ q, (q < M ∨ M + 9 ≤ q) → fL q = f q) → (i ≤ n) → (x = tz_ds g (t.1 k).1 (t.1 k).2 d i) → (y = tz_dn g (t.1 k).1 (t.1 k).2 d i) → (n - i) < kk10 → tz_V p_ l e_ rm_M_differs s_ m_ ar_ be_ me_ c_ Q_ A D 5 fL sz 0 0 10 [(0, .ref M), (1, .int (nI k)), (2, .int d), (3, .int x), (4, .int (nI i))] [] := by
    intro kk10
    induction kk10 with
    | zero => intro x y i fL hM1 hfr hi hx hy hm10; omega
    | succ kk10 ih10 =>
      intro x y i fL hM1 hfr hi hx hy hm10
      refine tz_iload C_ 4 rfl td_M_differs_10 ?_
      refine tz_aload_n C_ 0 rfl rfl td_M_differs_12 ?_
      refine tz_get C_ tci_M 7 (by decide) tw_760 hM1.1 rfl td_M_differs_13 ?_
      refine tz_icmp_ge C_ td_M_differs_16 (fun h16 => ?_) (fun h16 => ?_)
      · skip
        replace h16 := (nI_leI (a := n) (b := i) (by omega) (by omega)).mp h16
        refine tz_iload_n C_ 3 rfl rfl td_M_differs_99 ?_
        refine tz_riret C_ hr_ hk_ hQ_ rfl td_M_differs_100 ?_
        have e9 : i = n := by omega
        subst e9
        rw [← hx, ← hy]
        exact ⟨rfl, ⟨hM1.1, hM1.2.1, hM1.2.2.1, hM1.2.2.2.1, hM1.2.2.2.2.1, hM1.2.2.2.2.2.1, hM1.2.2.2.2.2.2.1, hM1.2.2.2.2.2.2.2.1, hM1.2.2.2.2.2.2.2.2⟩, (fun q hh => by rw [hfr q (by omega)])⟩
      · skip
        replace h16 := mt (nI_leI (a := n) (b := i) (by omega) (by omega)).mpr h16
        refine tz_aload_n C_ 0 rfl rfl td_M_differs_19 ?_
        refine tz_get C_ tci_M 8 (by decide) tw_761 hM1.1 rfl td_M_differs_20 ?_
        refine tz_iload C_ 4 rfl td_M_differs_23 ?_
        refine tz_ialdN C_ hM1.2.2.2.2.2.2.1 (by omega) (by decide) td_M_differs_25 ?_
        refine tz_ldc C_ tw_829 td_M_differs_26 ?_
        refine tz_icmp_eq C_ td_M_differs_28 (fun h28 => ?_) (fun h28 => ?_)
        · skip
          refine tz_iinc C_ (k := 1) (v := nI (i + 1)) (lv' := [(0, .ref M), (1, .int (nI k)), (2, .int d), (3, .int x), (4, .int (nI (i + 1)))]) 4 rfl (nI_1 i) [1, 2, 3, 4, 0] (by decide) rfl td_M_differs_93 ?_
          refine tz_goto C_ td_M_differs_96 ?_
          exact ih10 x y (i + 1) fL (⟨hM1.1, hM1.2.1, hM1.2.2.1, hM1.2.2.2.1, hM1.2.2.2.2.1, hM1.2.2.2.2.2.1, hM1.2.2.2.2.2.2.1, hM1.2.2.2.2.2.2.2.1, hM1.2.2.2.2.2.2.2.2⟩) (fun q hh => by rw [hfr q (by omega)]) (by omega) (by have a1 := (tz_er_lo hr hk (show i < n by omega)).mp h28; rw [tz_ds, if_neg (by grind), hx]) (by have a1 := (tz_er_lo hr hk (show i < n by omega)).mp h28; rw [tz_dn, tz_ct_n (by simp only [decide_eq_false_iff_not]; grind), hy]; rfl) (by omega)
        · skip
          refine tz_aload_n C_ 0 rfl rfl td_M_differs_31 ?_
          refine tz_iload_n C_ 1 rfl rfl td_M_differs_32 ?_
          refine tz_iload C_ 4 rfl td_M_differs_33 ?_
          refine tz_iload_n C_ 2 rfl rfl td_M_differs_35 ?_
          refine tz_iadd C_ td_M_differs_36 ?_
          refine tz_rV C_ tmi_M_isSample tw_823 tw_16 tw_821 hM1.1 rfl (As := [.int (nI k), .int ((nI i) + d)]) (by exact (ct_M_isSample ⟨hM1.1, hM1.2.1, hM1.2.2.1, hM1.2.2.2.1, hM1.2.2.2.2.1, hM1.2.2.2.2.2.1, hM1.2.2.2.2.2.2.1, hM1.2.2.2.2.2.2.2.1, hM1.2.2.2.2.2.2.2.2⟩ hE hW)) rfl (rest := []) rfl (by decide) (Nat.le_of_ble_eq_true rfl) td_M_differs_37 (st1 := [.int (tz_p (tz_has t (nI k) ((nI i) + d)))]) rfl ?_
          refine tz_if_eq C_ td_M_differs_40 (fun h40 => ?_) (fun h40 => ?_)
          · skip
            replace h40 := tz_p0.mp h40
            refine tz_iinc C_ (k := 1) (v := nI (i + 1)) (lv' := [(0, .ref M), (1, .int (nI k)), (2, .int d), (3, .int x), (4, .int (nI (i + 1)))]) 4 rfl (nI_1 i) [1, 2, 3, 4, 0] (by decide) rfl td_M_differs_93 ?_
            refine tz_goto C_ td_M_differs_96 ?_
            exact ih10 x y (i + 1) fL (⟨hM1.1, hM1.2.1, hM1.2.2.1, hM1.2.2.2.1, hM1.2.2.2.2.1, hM1.2.2.2.2.2.1, hM1.2.2.2.2.2.2.1, hM1.2.2.2.2.2.2.2.1, hM1.2.2.2.2.2.2.2.2⟩) (fun q hh => by rw [hfr q (by omega)]) (by omega) (by rw [tz_hasN hk4] at h40; have a1 := tz_at_oo (g := (t.1 k).2) h40; rw [tz_ds, if_neg (by grind), hx]) (by rw [tz_hasN hk4] at h40; have a1 := tz_at_oo (g := (t.1 k).2) h40; rw [tz_dn, tz_ct_n (by simp only [decide_eq_false_iff_not]; grind), hy]; rfl) (by omega)
          · skip
            replace h40 := tz_p1.mp h40
            rw [tz_hasN hk4] at h40
            obtain ⟨j, hj, ej⟩ := vp_in_of (x := (nI i) + d) (n := (t.1 k).1) (tz_inI (tz_le_nlt h40.1) h40.2 (by omega)) (by omega)
            have ea := tz_at_N (g := (t.1 k).2) hn9 hj
            rw [← ej] at ea
            refine tz_aload_n C_ 0 rfl rfl td_M_differs_43 ?_
            refine tz_iload_n C_ 1 rfl rfl td_M_differs_44 ?_
            refine tz_iload C_ 4 rfl td_M_differs_45 ?_
            refine tz_iload_n C_ 2 rfl rfl td_M_differs_47 ?_
            refine tz_iadd C_ td_M_differs_48 ?_
            rw [ej]
            refine tz_rV C_ tmi_M_at tw_827 tw_17 tw_825 hM1.1 rfl (As := [.int (nI k), .int (nI j)]) (by exact (ct_M_at ⟨hM1.1, hM1.2.1, hM1.2.2.1, hM1.2.2.2.1, hM1.2.2.2.2.1, hM1.2.2.2.2.2.1, hM1.2.2.2.2.2.2.1, hM1.2.2.2.2.2.2.2.1, hM1.2.2.2.2.2.2.2.2⟩ hE hW (k := k) (j := j) (by omega) (by omega))) rfl (rest := []) rfl (by decide) (Nat.le_of_ble_eq_true rfl) td_M_differs_49 (st1 := [.int (tz_mo ((t.1 k).2 j))]) rfl ?_
            refine tz_ldc C_ tw_829 td_M_differs_52 ?_
            refine tz_icmp_ne C_ td_M_differs_54 (fun h54 => ?_) (fun h54 => ?_)
            · skip
              refine tz_aload_n C_ 0 rfl rfl td_M_differs_60 ?_
              refine tz_dup C_ rfl td_M_differs_61 ?_
              refine tz_get C_ tci_M 12 (by decide) tw_765 hM1.1 rfl td_M_differs_62 ?_
              refine tz_iconst C_ (v := 1) (by decide) td_M_differs_65 ?_
              refine tz_iadd C_ td_M_differs_66 ?_
              rw [show ((nI y) + 1 : Int32) = nI (y + 1) from nI_add (y) (1)]
              refine tz_wput C_ tci_M 12 (by decide) tw_765 rfl hM1.1 (Nat.le_of_ble_eq_true rfl) ⟨rfl, rfl⟩ (fs' := [.ref (M + 1), .ref (M + 2), .int (nI kp), .int fn, .ref (M + 3), .ref (M + 4), .ref (M + 5), .int (nI n), .ref (M + 6), .int ns, .ref (M + 7), .ref (M + 8), .int (nI (y + 1))]) rfl td_M_differs_67 (fun f10 hs10 hq10 => ?_)
              refine tz_iload_n C_ 3 rfl rfl td_M_differs_70 ?_
              refine tz_aload_n C_ 0 rfl rfl td_M_differs_71 ?_
              refine tz_get C_ tci_M 8 (by decide) tw_761 hs10 rfl td_M_differs_72 ?_
              refine tz_iload C_ 4 rfl td_M_differs_75 ?_
              have k11 : f10 (M + 6) = some (tz_ints cs 120 ro) := ((hq10 _ (by omega)).trans hM1.2.2.2.2.2.2.1)
              refine tz_ialdN C_ k11 (by omega) (by decide) td_M_differs_77 ?_
              refine tz_aload_n C_ 0 rfl rfl td_M_differs_78 ?_
              refine tz_iload_n C_ 1 rfl rfl td_M_differs_79 ?_
              refine tz_iload C_ 4 rfl td_M_differs_80 ?_
              refine tz_iload_n C_ 2 rfl rfl td_M_differs_82 ?_
              refine tz_iadd C_ td_M_differs_83 ?_
              rw [ej]
              have k12 : f10 (M + 1) = some (tz_ints cs 532 nw) := ((hq10 _ (by omega)).trans hM1.2.1)
              have k13 : f10 (M + 2) = some (tz_ints cs 10640 pa) := ((hq10 _ (by omega)).trans hM1.2.2.1)
              have k14 : f10 (M + 3) = some (tz_ints cs 4 bi) := ((hq10 _ (by omega)).trans hM1.2.2.2.1)
              have k15 : f10 (M + 4) = some (tz_ints cs 4 nu) := ((hq10 _ (by omega)).trans hM1.2.2.2.2.1)
              have k16 : f10 (M + 5) = some (tz_ints cs 480 sh) := ((hq10 _ (by omega)).trans hM1.2.2.2.2.2.1)
              have k17 : f10 (M + 7) = some (tz_ints cs 120 ma) := ((hq10 _ (by omega)).trans hM1.2.2.2.2.2.2.2.1)
              have k18 : f10 (M + 8) = some (tz_ints cs 120 ca) := ((hq10 _ (by omega)).trans hM1.2.2.2.2.2.2.2.2)
              refine tz_rV C_ tmi_M_at tw_827 tw_17 tw_825 hs10 rfl (As := [.int (nI k), .int (nI j)]) (by exact (ct_M_at ⟨hs10, k12, k13, k14, k15, k16, k11, k17, k18⟩ hE hW (k := k) (j := j) (by omega) (by omega))) rfl (rest := [.int (ro i), .int x]) rfl (by decide) (Nat.le_of_ble_eq_true rfl) td_M_differs_84 (st1 := [.int (tz_mo ((t.1 k).2 j)), .int (ro i), .int x]) rfl ?_
              refine tz_isub C_ td_M_differs_87 ?_
              refine tz_rS C_ tmi_J_abs tw_605 tw_983 (As := [.int ((ro i) - (tz_mo ((t.1 k).2 j)))]) (by exact ct_J_abs) rfl (rest := [.int x]) rfl (by decide) (Nat.le_of_ble_eq_true rfl) td_M_differs_88 (st1 := [.int (tz_ab ((ro i) - (tz_mo ((t.1 k).2 j)))), .int x]) rfl ?_
              refine tz_iadd C_ td_M_differs_91 ?_
              refine tz_istore_n C_ (lv' := [(0, .ref M), (1, .int (nI k)), (2, .int d), (3, .int (x + (tz_ab ((ro i) - (tz_mo ((t.1 k).2 j)))))), (4, .int (nI i))]) [1, 2, 3, 0, 4] rfl (by decide) rfl td_M_differs_92 ?_
              refine tz_iinc C_ (k := 1) (v := nI (i + 1)) (lv' := [(0, .ref M), (1, .int (nI k)), (2, .int d), (3, .int (x + (tz_ab ((ro i) - (tz_mo ((t.1 k).2 j)))))), (4, .int (nI (i + 1)))]) 4 rfl (nI_1 i) [1, 2, 3, 4, 0] (by decide) rfl td_M_differs_93 ?_
              refine tz_goto C_ td_M_differs_96 ?_
              exact ih10 (x + (tz_ab ((ro i) - (tz_mo ((t.1 k).2 j))))) (y + 1) (i + 1) f10 (⟨hs10, k12, k13, k14, k15, k16, k11, k17, k18⟩) (fun q hh => by rw [hq10 q (by omega), hfr q (by omega)]) (by omega) (by have a1 := mt (tz_er_lo hr hk (show i < n by omega)).mpr h28; have a2 := mt (tz_mo_lo ((hW.1 k hk4).2 j hj)).mpr h54; have a3 := a2; rw [← ea] at a3; rw [tz_ds, if_pos ⟨a1, a3⟩, hx, ea, tz_er_v hr (by omega) a1, tz_mo_id a2]) (by have a1 := mt (tz_er_lo hr hk (show i < n by omega)).mpr h28; have a2 := mt (tz_mo_lo ((hW.1 k hk4).2 j hj)).mpr h54; have a3 := a2; rw [← ea] at a3; rw [tz_dn, tz_ct_y (by simp only [decide_eq_true_eq]; exact ⟨a1, a3⟩), hy]; rfl) (by omega)
            · skip
              refine tz_goto C_ td_M_differs_57 ?_
              refine tz_iinc C_ (k := 1) (v := nI (i + 1)) (lv' := [(0, .ref M), (1, .int (nI k)), (2, .int d), (3, .int x), (4, .int (nI (i + 1)))]) 4 rfl (nI_1 i) [1, 2, 3, 4, 0] (by decide) rfl td_M_differs_93 ?_
              refine tz_goto C_ td_M_differs_96 ?_
              exact ih10 x y (i + 1) fL (⟨hM1.1, hM1.2.1, hM1.2.2.1, hM1.2.2.2.1, hM1.2.2.2.2.1, hM1.2.2.2.2.2.1, hM1.2.2.2.2.2.2.1, hM1.2.2.2.2.2.2.2.1, hM1.2.2.2.2.2.2.2.2⟩) (fun q hh => by rw [hfr q (by omega)]) (by omega) (by have a1 := (tz_mo_lo ((hW.1 k hk4).2 j hj)).mp h54; rw [← ea] at a1; rw [tz_ds, if_neg (by grind), hx]) (by have a1 := (tz_mo_lo ((hW.1 k hk4).2 j hj)).mp h54; rw [← ea] at a1; rw [tz_dn, tz_ct_n (by simp only [decide_eq_false_iff_not]; grind), hy]; rfl) (by omega)
  exact loop10 _ 0 0 0 f1 (⟨hs1, k2, k3, k4, k5, k6, k7, k8, k9⟩) (fun q hh => by rw [hq1 q (by omega)]) (Nat.zero_le _) rfl rfl (Nat.lt_succ_self _)

abbrev rm_M_aligned : Room := { frames := 4, cells := 0, slots := 0, locals := 88 }
set_option maxHeartbeats 4000000 in
set_option maxRecDepth 100000 in
theorem ct_M_aligned {l : Launch} {A : Nat → Prop} {D : va_G} {cs : Nat → ClassId} {sz : Nat} {f : tz_PH} {M kp n : Nat} {fn ns tg : Int32} {nw pa bi nu sh ro ma ca : Nat → Int32} (hM : tz_MB cs f M kp fn (nI n) ns tg nw pa bi nu sh ro ma ca) {g : Nat → Int32} (hr : tz_er ro n g) (hk : tz_okr n g) (hn : n ≤ 120) {t : tz_TS} (hE : tz_en nw t) (hW : tz_WT t) {k : Nat} (hk4 : k < 4) {w : Nat} (hw : w ≤ 9) : tz_CN l tyM_aligned prog_13_method_40_code 14 (some (.int)) rm_M_aligned 0 0 A D cs sz [.ref M, .int (nI k), .int (nI w)] f (some (.int (tz_b1 (tz_sh g n (t.1 k).1 (t.1 k).2 (2 * w + 1)).1))) (fun f' => (∃ tg' : Int32, tz_MB cs f' M kp fn (nI n) ns (tg') nw pa bi nu sh ro ma ca) ∧ ∀ q, (q < M ∨ M + 9 ≤ q) → f' q = f q) := by
  refine tz_C.ofB (lv0 := [(0, .ref M), (1, .int (nI k)), (2, .int (nI w))]) (plainFor_of_name (by decide)) (Nat.le_of_ble_eq_true rfl) rfl ?_
  intro p_ e_ s_ m_ ar_ be_ me_ c_ Q_ C_ hr_ hk_ hnm_ hz_ hQ_
  have e2w : (2 : Int32) * nI w = nI (2 * w) := pk_mul 2 w
  have hn9 := (hW.1 k hk4).1
  refine tz_bipush C_ (v := 100) (by decide) td_M_aligned_0 ?_
  refine tz_istore_n C_ (lv' := [(0, .ref M), (1, .int (nI k)), (2, .int (nI w)), (3, .int 100)]) [1, 2, 3, 0] rfl (by decide) rfl td_M_aligned_2 ?_
  refine tz_lconst C_ (v := 0) (by decide) td_M_aligned_3 ?_
  refine tz_lstore C_ (lv' := [(0, .ref M), (1, .int (nI k)), (2, .int (nI w)), (3, .int 100), (4, .long 0)]) [1, 2, 3, 4, 0] (by decide) rfl td_M_aligned_4 ?_
  refine tz_lconst C_ (v := 1) (by decide) td_M_aligned_6 ?_
  refine tz_lstore C_ (lv' := [(0, .ref M), (1, .int (nI k)), (2, .int (nI w)), (3, .int 100), (4, .long 0), (6, .long 1)]) [1, 2, 3, 4, 5, 0] (by decide) rfl td_M_aligned_7 ?_
  refine tz_iconst C_ (v := 0) (by decide) td_M_aligned_9 ?_
  refine tz_istore C_ (lv' := [(0, .ref M), (1, .int (nI k)), (2, .int (nI w)), (3, .int 100), (4, .long 0), (6, .long 1), (8, .int 0)]) [1, 2, 3, 4, 5, 6, 0] (by decide) rfl td_M_aligned_10 ?_
  have loop12 : ∀ (kk12 : Nat) (bm : Int32) (be : Int32) (bs : Int64) (bp : Int64) (tt : Nat) (tgv : Int32) (fL : tz_PH), (tz_MB cs fL M kp fn (nI n) ns tgv nw pa bi nu sh ro ma ca) → (∀ q, (q < M ∨ M + 9 ≤ q) → fL q = f q) → (tt ≤ 2 * w + 1) → (¬ be = 100) → (bm = tz_b1 be) → ((be, bs, bp) = tz_sh g n (t.1 k).1 (t.1 k).2 tt) → (2 * w + 1 - tt) < kk12 → tz_V p_ l e_ rm_M_aligned s_ m_ ar_ be_ me_ c_ Q_ A D 14 fL sz 0 0 12 [(0, .ref M), (1, .int (nI k)), (2, .int (nI w)), (3, .int bm), (4, .long bs), (6, .long bp), (8, .int (nI tt))] [] := by
    intro kk12
    induction kk12 with
    | zero => intro bm be bs bp tt tgv fL hM1 hfr hi hb1 hbm hs hm12; omega
    | succ kk12 ih12 =>
      intro bm be bs bp tt tgv fL hM1 hfr hi hb1 hbm hs hm12
      have hdn := tz_dn_le (g := g) (g2 := (t.1 k).2) (n2 := (t.1 k).1) (n := n) (d := tz_sd (nI tt))
      refine tz_iload C_ 6 rfl td_M_aligned_12 ?_
      refine tz_iconst C_ (v := 2) (by decide) td_M_aligned_14 ?_
      refine tz_iload_n C_ 2 rfl rfl td_M_aligned_15 ?_
      refine tz_imul C_ td_M_aligned_16 ?_
      refine tz_icmp_gt C_ td_M_aligned_17 (fun h17 => ?_) (fun h17 => ?_)
      · skip
        rw [e2w] at h17
        replace h17 := (nI_ltI (by omega) (by omega)).mp h17
        refine tz_iload_n C_ 3 rfl rfl td_M_aligned_107 ?_
        refine tz_riret C_ hr_ hk_ hQ_ rfl td_M_aligned_108 ?_
        have e9 : tt = 2 * w + 1 := by omega
        subst e9
        exact ⟨tz_ri (by rw [← hs, hbm]), ⟨_, ⟨hM1.1, hM1.2.1, hM1.2.2.1, hM1.2.2.2.1, hM1.2.2.2.2.1, hM1.2.2.2.2.2.1, hM1.2.2.2.2.2.2.1, hM1.2.2.2.2.2.2.2.1, hM1.2.2.2.2.2.2.2.2⟩⟩, (fun q hh => by rw [hfr q (by omega)])⟩
      · skip
        rw [e2w] at h17
        replace h17 := mt (nI_ltI (by omega) (by omega)).mpr h17
        refine tz_iload C_ 6 rfl td_M_aligned_20 ?_
        refine tz_iconst C_ (v := 2) (by decide) td_M_aligned_22 ?_
        refine tz_irem C_ (by decide) td_M_aligned_23 ?_
        refine tz_iconst C_ (v := 1) (by decide) td_M_aligned_24 ?_
        refine tz_icmp_ne C_ td_M_aligned_25 (fun h25 => ?_) (fun h25 => ?_)
        · skip
          refine tz_iload C_ 6 rfl td_M_aligned_38 ?_
          refine tz_iconst C_ (v := 2) (by decide) td_M_aligned_40 ?_
          refine tz_idiv C_ (by decide) td_M_aligned_41 ?_
          rw [← tz_sd_e (Classical.not_not.mp (fun z => h25 ((tz_odd (by omega)).mpr z)))]
          refine tz_istore C_ (lv' := [(0, .ref M), (1, .int (nI k)), (2, .int (nI w)), (3, .int bm), (4, .long bs), (6, .long bp), (8, .int (nI tt)), (9, .int (tz_sd (nI tt)))]) [1, 2, 3, 4, 5, 6, 7, 0] (by decide) rfl td_M_aligned_42 ?_
          refine tz_aload_n C_ 0 rfl rfl td_M_aligned_44 ?_
          refine tz_iload_n C_ 1 rfl rfl td_M_aligned_45 ?_
          refine tz_iload C_ 7 rfl td_M_aligned_46 ?_
          refine tz_cV C_ tmi_M_differs tw_981 tw_35 tw_979 hM1.1 rfl (As := [.int (nI k), .int (tz_sd (nI tt))]) (by exact (ct_M_differs ⟨hM1.1, hM1.2.1, hM1.2.2.1, hM1.2.2.2.1, hM1.2.2.2.2.1, hM1.2.2.2.2.2.1, hM1.2.2.2.2.2.2.1, hM1.2.2.2.2.2.2.2.1, hM1.2.2.2.2.2.2.2.2⟩ hr hk hn hE hW (k := k) (by omega))) rfl (rest := []) rfl (by decide) (Nat.le_of_ble_eq_true rfl) td_M_aligned_48 (st1 := [.int (tz_ds g (t.1 k).1 (t.1 k).2 (tz_sd (nI tt)) n)]) rfl (fun f1 hF1 => ?_)
          obtain ⟨hD2, hq2⟩ := hF1
          refine tz_i2l C_ td_M_aligned_51 ?_
          refine tz_lstore C_ (lv' := [(0, .ref M), (1, .int (nI k)), (2, .int (nI w)), (3, .int bm), (4, .long bs), (6, .long bp), (8, .int (nI tt)), (9, .int (tz_sd (nI tt))), (10, .long (Int32.toInt64 (tz_ds g (t.1 k).1 (t.1 k).2 (tz_sd (nI tt)) n)))]) [1, 2, 3, 4, 5, 6, 7, 8, 0] (by decide) rfl td_M_aligned_52 ?_
          refine tz_aload_n C_ 0 rfl rfl td_M_aligned_54 ?_
          refine tz_get C_ tci_M 12 (by decide) tw_765 hD2.1 rfl td_M_aligned_55 ?_
          refine tz_i2l C_ td_M_aligned_58 ?_
          refine tz_lstore C_ (lv' := [(0, .ref M), (1, .int (nI k)), (2, .int (nI w)), (3, .int bm), (4, .long bs), (6, .long bp), (8, .int (nI tt)), (9, .int (tz_sd (nI tt))), (10, .long (Int32.toInt64 (tz_ds g (t.1 k).1 (t.1 k).2 (tz_sd (nI tt)) n))), (12, .long (Int32.toInt64 (nI (tz_dn g (t.1 k).1 (t.1 k).2 (tz_sd (nI tt)) n))))]) [1, 2, 3, 4, 5, 6, 7, 8, 9, 0] (by decide) rfl td_M_aligned_59 ?_
          refine tz_lload C_ 9 rfl td_M_aligned_61 ?_
          refine tz_ldc2 C_ tw_984 td_M_aligned_63 ?_
          refine tz_lcmp C_ td_M_aligned_66 ?_
          refine tz_if_lt C_ td_M_aligned_67 (fun h67 => ?_) (fun h67 => ?_)
          · skip
            replace h67 := (tz_long4 (by omega)).mp h67
            refine tz_iinc C_ (k := 1) (v := nI (tt + 1)) (lv' := [(0, .ref M), (1, .int (nI k)), (2, .int (nI w)), (3, .int bm), (4, .long bs), (6, .long bp), (8, .int (nI (tt + 1))), (9, .int (tz_sd (nI tt))), (10, .long (Int32.toInt64 (tz_ds g (t.1 k).1 (t.1 k).2 (tz_sd (nI tt)) n))), (12, .long (Int32.toInt64 (nI (tz_dn g (t.1 k).1 (t.1 k).2 (tz_sd (nI tt)) n))))]) 6 rfl (nI_1 tt) [1, 2, 3, 4, 5, 6, 0, 7, 8, 9] (by decide) rfl td_M_aligned_101 ?_
            refine tz_goto C_ td_M_aligned_104 ?_
            refine tz_lvs [0, 1, 2, 3, 4, 5, 6] rfl ?_
            exact ih12 bm be bs bp (tt + 1) (nI (tz_dn g (t.1 k).1 (t.1 k).2 (tz_sd (nI tt)) n)) f1 (⟨hD2.1, hD2.2.1, hD2.2.2.1, hD2.2.2.2.1, hD2.2.2.2.2.1, hD2.2.2.2.2.2.1, hD2.2.2.2.2.2.2.1, hD2.2.2.2.2.2.2.2.1, hD2.2.2.2.2.2.2.2.2⟩) (fun q hh => by rw [hq2 q (by omega), hfr q (by omega)]) (by omega) hb1 hbm (by rw [tz_sh, ← hs]; simp only []; rw [if_neg (by omega)]) (by omega)
          · skip
            replace h67 := mt (tz_long4 (by omega)).mpr h67
            refine tz_iload_n C_ 3 rfl rfl td_M_aligned_70 ?_
            refine tz_bipush C_ (v := 100) (by decide) td_M_aligned_71 ?_
            refine tz_icmp_eq C_ td_M_aligned_73 (fun h73 => ?_) (fun h73 => ?_)
            · skip
              rw [hbm] at h73
              replace h73 := (tz_b1_iff hb1).mp h73
              refine tz_iload C_ 7 rfl td_M_aligned_90 ?_
              refine tz_istore_n C_ (lv' := [(0, .ref M), (1, .int (nI k)), (2, .int (nI w)), (3, .int (tz_sd (nI tt))), (4, .long bs), (6, .long bp), (8, .int (nI tt)), (9, .int (tz_sd (nI tt))), (10, .long (Int32.toInt64 (tz_ds g (t.1 k).1 (t.1 k).2 (tz_sd (nI tt)) n))), (12, .long (Int32.toInt64 (nI (tz_dn g (t.1 k).1 (t.1 k).2 (tz_sd (nI tt)) n))))]) [1, 2, 3, 0, 4, 5, 6, 7, 8, 9] rfl (by decide) rfl td_M_aligned_92 ?_
              refine tz_lload C_ 8 rfl td_M_aligned_93 ?_
              refine tz_lstore C_ (lv' := [(0, .ref M), (1, .int (nI k)), (2, .int (nI w)), (3, .int (tz_sd (nI tt))), (4, .long (Int32.toInt64 (tz_ds g (t.1 k).1 (t.1 k).2 (tz_sd (nI tt)) n))), (6, .long bp), (8, .int (nI tt)), (9, .int (tz_sd (nI tt))), (10, .long (Int32.toInt64 (tz_ds g (t.1 k).1 (t.1 k).2 (tz_sd (nI tt)) n))), (12, .long (Int32.toInt64 (nI (tz_dn g (t.1 k).1 (t.1 k).2 (tz_sd (nI tt)) n))))]) [1, 2, 3, 4, 0, 5, 6, 7, 8, 9] (by decide) rfl td_M_aligned_95 ?_
              refine tz_lload C_ 9 rfl td_M_aligned_97 ?_
              refine tz_lstore C_ (lv' := [(0, .ref M), (1, .int (nI k)), (2, .int (nI w)), (3, .int (tz_sd (nI tt))), (4, .long (Int32.toInt64 (tz_ds g (t.1 k).1 (t.1 k).2 (tz_sd (nI tt)) n))), (6, .long (Int32.toInt64 (nI (tz_dn g (t.1 k).1 (t.1 k).2 (tz_sd (nI tt)) n)))), (8, .int (nI tt)), (9, .int (tz_sd (nI tt))), (10, .long (Int32.toInt64 (tz_ds g (t.1 k).1 (t.1 k).2 (tz_sd (nI tt)) n))), (12, .long (Int32.toInt64 (nI (tz_dn g (t.1 k).1 (t.1 k).2 (tz_sd (nI tt)) n))))]) [1, 2, 3, 4, 5, 0, 6, 7, 8, 9] (by decide) rfl td_M_aligned_99 ?_
              refine tz_iinc C_ (k := 1) (v := nI (tt + 1)) (lv' := [(0, .ref M), (1, .int (nI k)), (2, .int (nI w)), (3, .int (tz_sd (nI tt))), (4, .long (Int32.toInt64 (tz_ds g (t.1 k).1 (t.1 k).2 (tz_sd (nI tt)) n))), (6, .long (Int32.toInt64 (nI (tz_dn g (t.1 k).1 (t.1 k).2 (tz_sd (nI tt)) n)))), (8, .int (nI (tt + 1))), (9, .int (tz_sd (nI tt))), (10, .long (Int32.toInt64 (tz_ds g (t.1 k).1 (t.1 k).2 (tz_sd (nI tt)) n))), (12, .long (Int32.toInt64 (nI (tz_dn g (t.1 k).1 (t.1 k).2 (tz_sd (nI tt)) n))))]) 6 rfl (nI_1 tt) [1, 2, 3, 4, 5, 6, 0, 7, 8, 9] (by decide) rfl td_M_aligned_101 ?_
              refine tz_goto C_ td_M_aligned_104 ?_
              refine tz_lvs [0, 1, 2, 3, 4, 5, 6] rfl ?_
              exact ih12 (tz_sd (nI tt)) (tz_sd (nI tt)) (Int32.toInt64 (tz_ds g (t.1 k).1 (t.1 k).2 (tz_sd (nI tt)) n)) (Int32.toInt64 (nI (tz_dn g (t.1 k).1 (t.1 k).2 (tz_sd (nI tt)) n))) (tt + 1) (nI (tz_dn g (t.1 k).1 (t.1 k).2 (tz_sd (nI tt)) n)) f1 (⟨hD2.1, hD2.2.1, hD2.2.2.1, hD2.2.2.2.1, hD2.2.2.2.2.1, hD2.2.2.2.2.2.1, hD2.2.2.2.2.2.2.1, hD2.2.2.2.2.2.2.2.1, hD2.2.2.2.2.2.2.2.2⟩) (fun q hh => by rw [hq2 q (by omega), hfr q (by omega)]) (by omega) (tz_sd_ne tt (by omega)).1.1 (tz_b1_id (tz_sd_ne tt (by omega)).1.2) (by rw [tz_sh, ← hs]; simp only []; rw [if_pos ⟨by omega, Or.inl h73⟩]) (by omega)
            · skip
              rw [hbm] at h73
              replace h73 := mt (tz_b1_iff hb1).mpr h73
              refine tz_lload C_ 8 rfl td_M_aligned_76 ?_
              refine tz_lload C_ 5 rfl td_M_aligned_78 ?_
              refine tz_lmul C_ td_M_aligned_80 ?_
              refine tz_lload C_ 4 rfl td_M_aligned_81 ?_
              refine tz_lload C_ 9 rfl td_M_aligned_83 ?_
              refine tz_lmul C_ td_M_aligned_85 ?_
              refine tz_lcmp C_ td_M_aligned_86 ?_
              refine tz_if_ge C_ td_M_aligned_87 (fun h87 => ?_) (fun h87 => ?_)
              · skip
                refine tz_iinc C_ (k := 1) (v := nI (tt + 1)) (lv' := [(0, .ref M), (1, .int (nI k)), (2, .int (nI w)), (3, .int bm), (4, .long bs), (6, .long bp), (8, .int (nI (tt + 1))), (9, .int (tz_sd (nI tt))), (10, .long (Int32.toInt64 (tz_ds g (t.1 k).1 (t.1 k).2 (tz_sd (nI tt)) n))), (12, .long (Int32.toInt64 (nI (tz_dn g (t.1 k).1 (t.1 k).2 (tz_sd (nI tt)) n))))]) 6 rfl (nI_1 tt) [1, 2, 3, 4, 5, 6, 0, 7, 8, 9] (by decide) rfl td_M_aligned_101 ?_
                refine tz_goto C_ td_M_aligned_104 ?_
                refine tz_lvs [0, 1, 2, 3, 4, 5, 6] rfl ?_
                exact ih12 bm be bs bp (tt + 1) (nI (tz_dn g (t.1 k).1 (t.1 k).2 (tz_sd (nI tt)) n)) f1 (⟨hD2.1, hD2.2.1, hD2.2.2.1, hD2.2.2.2.1, hD2.2.2.2.2.1, hD2.2.2.2.2.2.1, hD2.2.2.2.2.2.2.1, hD2.2.2.2.2.2.2.2.1, hD2.2.2.2.2.2.2.2.2⟩) (fun q hh => by rw [hq2 q (by omega), hfr q (by omega)]) (by omega) hb1 hbm (by rw [tz_sh, ← hs]; simp only []; rw [if_neg (by rintro ⟨-, h | h⟩; exact h73 h; exact lg_le_not_lt ((lg_cmp_ge _ _).mp h87) h)]) (by omega)
              · skip
                refine tz_iload C_ 7 rfl td_M_aligned_90 ?_
                refine tz_istore_n C_ (lv' := [(0, .ref M), (1, .int (nI k)), (2, .int (nI w)), (3, .int (tz_sd (nI tt))), (4, .long bs), (6, .long bp), (8, .int (nI tt)), (9, .int (tz_sd (nI tt))), (10, .long (Int32.toInt64 (tz_ds g (t.1 k).1 (t.1 k).2 (tz_sd (nI tt)) n))), (12, .long (Int32.toInt64 (nI (tz_dn g (t.1 k).1 (t.1 k).2 (tz_sd (nI tt)) n))))]) [1, 2, 3, 0, 4, 5, 6, 7, 8, 9] rfl (by decide) rfl td_M_aligned_92 ?_
                refine tz_lload C_ 8 rfl td_M_aligned_93 ?_
                refine tz_lstore C_ (lv' := [(0, .ref M), (1, .int (nI k)), (2, .int (nI w)), (3, .int (tz_sd (nI tt))), (4, .long (Int32.toInt64 (tz_ds g (t.1 k).1 (t.1 k).2 (tz_sd (nI tt)) n))), (6, .long bp), (8, .int (nI tt)), (9, .int (tz_sd (nI tt))), (10, .long (Int32.toInt64 (tz_ds g (t.1 k).1 (t.1 k).2 (tz_sd (nI tt)) n))), (12, .long (Int32.toInt64 (nI (tz_dn g (t.1 k).1 (t.1 k).2 (tz_sd (nI tt)) n))))]) [1, 2, 3, 4, 0, 5, 6, 7, 8, 9] (by decide) rfl td_M_aligned_95 ?_
                refine tz_lload C_ 9 rfl td_M_aligned_97 ?_
                refine tz_lstore C_ (lv' := [(0, .ref M), (1, .int (nI k)), (2, .int (nI w)), (3, .int (tz_sd (nI tt))), (4, .long (Int32.toInt64 (tz_ds g (t.1 k).1 (t.1 k).2 (tz_sd (nI tt)) n))), (6, .long (Int32.toInt64 (nI (tz_dn g (t.1 k).1 (t.1 k).2 (tz_sd (nI tt)) n)))), (8, .int (nI tt)), (9, .int (tz_sd (nI tt))), (10, .long (Int32.toInt64 (tz_ds g (t.1 k).1 (t.1 k).2 (tz_sd (nI tt)) n))), (12, .long (Int32.toInt64 (nI (tz_dn g (t.1 k).1 (t.1 k).2 (tz_sd (nI tt)) n))))]) [1, 2, 3, 4, 5, 0, 6, 7, 8, 9] (by decide) rfl td_M_aligned_99 ?_
                refine tz_iinc C_ (k := 1) (v := nI (tt + 1)) (lv' := [(0, .ref M), (1, .int (nI k)), (2, .int (nI w)), (3, .int (tz_sd (nI tt))), (4, .long (Int32.toInt64 (tz_ds g (t.1 k).1 (t.1 k).2 (tz_sd (nI tt)) n))), (6, .long (Int32.toInt64 (nI (tz_dn g (t.1 k).1 (t.1 k).2 (tz_sd (nI tt)) n)))), (8, .int (nI (tt + 1))), (9, .int (tz_sd (nI tt))), (10, .long (Int32.toInt64 (tz_ds g (t.1 k).1 (t.1 k).2 (tz_sd (nI tt)) n))), (12, .long (Int32.toInt64 (nI (tz_dn g (t.1 k).1 (t.1 k).2 (tz_sd (nI tt)) n))))]) 6 rfl (nI_1 tt) [1, 2, 3, 4, 5, 6, 0, 7, 8, 9] (by decide) rfl td_M_aligned_101 ?_
                refine tz_goto C_ td_M_aligned_104 ?_
                refine tz_lvs [0, 1, 2, 3, 4, 5, 6] rfl ?_
                exact ih12 (tz_sd (nI tt)) (tz_sd (nI tt)) (Int32.toInt64 (tz_ds g (t.1 k).1 (t.1 k).2 (tz_sd (nI tt)) n)) (Int32.toInt64 (nI (tz_dn g (t.1 k).1 (t.1 k).2 (tz_sd (nI tt)) n))) (tt + 1) (nI (tz_dn g (t.1 k).1 (t.1 k).2 (tz_sd (nI tt)) n)) f1 (⟨hD2.1, hD2.2.1, hD2.2.2.1, hD2.2.2.2.1, hD2.2.2.2.2.1, hD2.2.2.2.2.2.1, hD2.2.2.2.2.2.2.1, hD2.2.2.2.2.2.2.2.1, hD2.2.2.2.2.2.2.2.2⟩) (fun q hh => by rw [hq2 q (by omega), hfr q (by omega)]) (by omega) (tz_sd_ne tt (by omega)).1.1 (tz_b1_id (tz_sd_ne tt (by omega)).1.2) (by rw [tz_sh, ← hs]; simp only []; rw [if_pos ⟨by omega, Or.inr ((lg_cmp_lt _ _).mp (Int32.not_le.mp h87))⟩]) (by omega)
        · skip
          refine tz_iload C_ 6 rfl td_M_aligned_28 ?_
          refine tz_iconst C_ (v := 1) (by decide) td_M_aligned_30 ?_
          refine tz_iadd C_ td_M_aligned_31 ?_
          refine tz_ineg C_ td_M_aligned_32 ?_
          refine tz_iconst C_ (v := 2) (by decide) td_M_aligned_33 ?_
          refine tz_idiv C_ (by decide) td_M_aligned_34 ?_
          refine tz_goto C_ td_M_aligned_35 ?_
          rw [← tz_sd_o (tz_odd (by omega) |>.mp h25)]
          refine tz_istore C_ (lv' := [(0, .ref M), (1, .int (nI k)), (2, .int (nI w)), (3, .int bm), (4, .long bs), (6, .long bp), (8, .int (nI tt)), (9, .int (tz_sd (nI tt)))]) [1, 2, 3, 4, 5, 6, 7, 0] (by decide) rfl td_M_aligned_42 ?_
          refine tz_aload_n C_ 0 rfl rfl td_M_aligned_44 ?_
          refine tz_iload_n C_ 1 rfl rfl td_M_aligned_45 ?_
          refine tz_iload C_ 7 rfl td_M_aligned_46 ?_
          refine tz_cV C_ tmi_M_differs tw_981 tw_35 tw_979 hM1.1 rfl (As := [.int (nI k), .int (tz_sd (nI tt))]) (by exact (ct_M_differs ⟨hM1.1, hM1.2.1, hM1.2.2.1, hM1.2.2.2.1, hM1.2.2.2.2.1, hM1.2.2.2.2.2.1, hM1.2.2.2.2.2.2.1, hM1.2.2.2.2.2.2.2.1, hM1.2.2.2.2.2.2.2.2⟩ hr hk hn hE hW (k := k) (by omega))) rfl (rest := []) rfl (by decide) (Nat.le_of_ble_eq_true rfl) td_M_aligned_48 (st1 := [.int (tz_ds g (t.1 k).1 (t.1 k).2 (tz_sd (nI tt)) n)]) rfl (fun f3 hF3 => ?_)
          obtain ⟨hD4, hq4⟩ := hF3
          refine tz_i2l C_ td_M_aligned_51 ?_
          refine tz_lstore C_ (lv' := [(0, .ref M), (1, .int (nI k)), (2, .int (nI w)), (3, .int bm), (4, .long bs), (6, .long bp), (8, .int (nI tt)), (9, .int (tz_sd (nI tt))), (10, .long (Int32.toInt64 (tz_ds g (t.1 k).1 (t.1 k).2 (tz_sd (nI tt)) n)))]) [1, 2, 3, 4, 5, 6, 7, 8, 0] (by decide) rfl td_M_aligned_52 ?_
          refine tz_aload_n C_ 0 rfl rfl td_M_aligned_54 ?_
          refine tz_get C_ tci_M 12 (by decide) tw_765 hD4.1 rfl td_M_aligned_55 ?_
          refine tz_i2l C_ td_M_aligned_58 ?_
          refine tz_lstore C_ (lv' := [(0, .ref M), (1, .int (nI k)), (2, .int (nI w)), (3, .int bm), (4, .long bs), (6, .long bp), (8, .int (nI tt)), (9, .int (tz_sd (nI tt))), (10, .long (Int32.toInt64 (tz_ds g (t.1 k).1 (t.1 k).2 (tz_sd (nI tt)) n))), (12, .long (Int32.toInt64 (nI (tz_dn g (t.1 k).1 (t.1 k).2 (tz_sd (nI tt)) n))))]) [1, 2, 3, 4, 5, 6, 7, 8, 9, 0] (by decide) rfl td_M_aligned_59 ?_
          refine tz_lload C_ 9 rfl td_M_aligned_61 ?_
          refine tz_ldc2 C_ tw_984 td_M_aligned_63 ?_
          refine tz_lcmp C_ td_M_aligned_66 ?_
          refine tz_if_lt C_ td_M_aligned_67 (fun h67 => ?_) (fun h67 => ?_)
          · skip
            replace h67 := (tz_long4 (by omega)).mp h67
            refine tz_iinc C_ (k := 1) (v := nI (tt + 1)) (lv' := [(0, .ref M), (1, .int (nI k)), (2, .int (nI w)), (3, .int bm), (4, .long bs), (6, .long bp), (8, .int (nI (tt + 1))), (9, .int (tz_sd (nI tt))), (10, .long (Int32.toInt64 (tz_ds g (t.1 k).1 (t.1 k).2 (tz_sd (nI tt)) n))), (12, .long (Int32.toInt64 (nI (tz_dn g (t.1 k).1 (t.1 k).2 (tz_sd (nI tt)) n))))]) 6 rfl (nI_1 tt) [1, 2, 3, 4, 5, 6, 0, 7, 8, 9] (by decide) rfl td_M_aligned_101 ?_
            refine tz_goto C_ td_M_aligned_104 ?_
            refine tz_lvs [0, 1, 2, 3, 4, 5, 6] rfl ?_
            exact ih12 bm be bs bp (tt + 1) (nI (tz_dn g (t.1 k).1 (t.1 k).2 (tz_sd (nI tt)) n)) f3 (⟨hD4.1, hD4.2.1, hD4.2.2.1, hD4.2.2.2.1, hD4.2.2.2.2.1, hD4.2.2.2.2.2.1, hD4.2.2.2.2.2.2.1, hD4.2.2.2.2.2.2.2.1, hD4.2.2.2.2.2.2.2.2⟩) (fun q hh => by rw [hq4 q (by omega), hfr q (by omega)]) (by omega) hb1 hbm (by rw [tz_sh, ← hs]; simp only []; rw [if_neg (by omega)]) (by omega)
          · skip
            replace h67 := mt (tz_long4 (by omega)).mpr h67
            refine tz_iload_n C_ 3 rfl rfl td_M_aligned_70 ?_
            refine tz_bipush C_ (v := 100) (by decide) td_M_aligned_71 ?_
            refine tz_icmp_eq C_ td_M_aligned_73 (fun h73 => ?_) (fun h73 => ?_)
            · skip
              rw [hbm] at h73
              replace h73 := (tz_b1_iff hb1).mp h73
              refine tz_iload C_ 7 rfl td_M_aligned_90 ?_
              refine tz_istore_n C_ (lv' := [(0, .ref M), (1, .int (nI k)), (2, .int (nI w)), (3, .int (tz_sd (nI tt))), (4, .long bs), (6, .long bp), (8, .int (nI tt)), (9, .int (tz_sd (nI tt))), (10, .long (Int32.toInt64 (tz_ds g (t.1 k).1 (t.1 k).2 (tz_sd (nI tt)) n))), (12, .long (Int32.toInt64 (nI (tz_dn g (t.1 k).1 (t.1 k).2 (tz_sd (nI tt)) n))))]) [1, 2, 3, 0, 4, 5, 6, 7, 8, 9] rfl (by decide) rfl td_M_aligned_92 ?_
              refine tz_lload C_ 8 rfl td_M_aligned_93 ?_
              refine tz_lstore C_ (lv' := [(0, .ref M), (1, .int (nI k)), (2, .int (nI w)), (3, .int (tz_sd (nI tt))), (4, .long (Int32.toInt64 (tz_ds g (t.1 k).1 (t.1 k).2 (tz_sd (nI tt)) n))), (6, .long bp), (8, .int (nI tt)), (9, .int (tz_sd (nI tt))), (10, .long (Int32.toInt64 (tz_ds g (t.1 k).1 (t.1 k).2 (tz_sd (nI tt)) n))), (12, .long (Int32.toInt64 (nI (tz_dn g (t.1 k).1 (t.1 k).2 (tz_sd (nI tt)) n))))]) [1, 2, 3, 4, 0, 5, 6, 7, 8, 9] (by decide) rfl td_M_aligned_95 ?_
              refine tz_lload C_ 9 rfl td_M_aligned_97 ?_
              refine tz_lstore C_ (lv' := [(0, .ref M), (1, .int (nI k)), (2, .int (nI w)), (3, .int (tz_sd (nI tt))), (4, .long (Int32.toInt64 (tz_ds g (t.1 k).1 (t.1 k).2 (tz_sd (nI tt)) n))), (6, .long (Int32.toInt64 (nI (tz_dn g (t.1 k).1 (t.1 k).2 (tz_sd (nI tt)) n)))), (8, .int (nI tt)), (9, .int (tz_sd (nI tt))), (10, .long (Int32.toInt64 (tz_ds g (t.1 k).1 (t.1 k).2 (tz_sd (nI tt)) n))), (12, .long (Int32.toInt64 (nI (tz_dn g (t.1 k).1 (t.1 k).2 (tz_sd (nI tt)) n))))]) [1, 2, 3, 4, 5, 0, 6, 7, 8, 9] (by decide) rfl td_M_aligned_99 ?_
              refine tz_iinc C_ (k := 1) (v := nI (tt + 1)) (lv' := [(0, .ref M), (1, .int (nI k)), (2, .int (nI w)), (3, .int (tz_sd (nI tt))), (4, .long (Int32.toInt64 (tz_ds g (t.1 k).1 (t.1 k).2 (tz_sd (nI tt)) n))), (6, .long (Int32.toInt64 (nI (tz_dn g (t.1 k).1 (t.1 k).2 (tz_sd (nI tt)) n)))), (8, .int (nI (tt + 1))), (9, .int (tz_sd (nI tt))), (10, .long (Int32.toInt64 (tz_ds g (t.1 k).1 (t.1 k).2 (tz_sd (nI tt)) n))), (12, .long (Int32.toInt64 (nI (tz_dn g (t.1 k).1 (t.1 k).2 (tz_sd (nI tt)) n))))]) 6 rfl (nI_1 tt) [1, 2, 3, 4, 5, 6, 0, 7, 8, 9] (by decide) rfl td_M_aligned_101 ?_
              refine tz_goto C_ td_M_aligned_104 ?_
              refine tz_lvs [0, 1, 2, 3, 4, 5, 6] rfl ?_
              exact ih12 (tz_sd (nI tt)) (tz_sd (nI tt)) (Int32.toInt64 (tz_ds g (t.1 k).1 (t.1 k).2 (tz_sd (nI tt)) n)) (Int32.toInt64 (nI (tz_dn g (t.1 k).1 (t.1 k).2 (tz_sd (nI tt)) n))) (tt + 1) (nI (tz_dn g (t.1 k).1 (t.1 k).2 (tz_sd (nI tt)) n)) f3 (⟨hD4.1, hD4.2.1, hD4.2.2.1, hD4.2.2.2.1, hD4.2.2.2.2.1, hD4.2.2.2.2.2.1, hD4.2.2.2.2.2.2.1, hD4.2.2.2.2.2.2.2.1, hD4.2.2.2.2.2.2.2.2⟩) (fun q hh => by rw [hq4 q (by omega), hfr q (by omega)]) (by omega) (tz_sd_ne tt (by omega)).1.1 (tz_b1_id (tz_sd_ne tt (by omega)).1.2) (by rw [tz_sh, ← hs]; simp only []; rw [if_pos ⟨by omega, Or.inl h73⟩]) (by omega)
            · skip
              rw [hbm] at h73
              replace h73 := mt (tz_b1_iff hb1).mpr h73
              refine tz_lload C_ 8 rfl td_M_aligned_76 ?_
              refine tz_lload C_ 5 rfl td_M_aligned_78 ?_
              refine tz_lmul C_ td_M_aligned_80 ?_
              refine tz_lload C_ 4 rfl td_M_aligned_81 ?_
              refine tz_lload C_ 9 rfl td_M_aligned_83 ?_
              refine tz_lmul C_ td_M_aligned_85 ?_
              refine tz_lcmp C_ td_M_aligned_86 ?_
              refine tz_if_ge C_ td_M_aligned_87 (fun h87 => ?_) (fun h87 => ?_)
              · skip
                refine tz_iinc C_ (k := 1) (v := nI (tt + 1)) (lv' := [(0, .ref M), (1, .int (nI k)), (2, .int (nI w)), (3, .int bm), (4, .long bs), (6, .long bp), (8, .int (nI (tt + 1))), (9, .int (tz_sd (nI tt))), (10, .long (Int32.toInt64 (tz_ds g (t.1 k).1 (t.1 k).2 (tz_sd (nI tt)) n))), (12, .long (Int32.toInt64 (nI (tz_dn g (t.1 k).1 (t.1 k).2 (tz_sd (nI tt)) n))))]) 6 rfl (nI_1 tt) [1, 2, 3, 4, 5, 6, 0, 7, 8, 9] (by decide) rfl td_M_aligned_101 ?_
                refine tz_goto C_ td_M_aligned_104 ?_
                refine tz_lvs [0, 1, 2, 3, 4, 5, 6] rfl ?_
                exact ih12 bm be bs bp (tt + 1) (nI (tz_dn g (t.1 k).1 (t.1 k).2 (tz_sd (nI tt)) n)) f3 (⟨hD4.1, hD4.2.1, hD4.2.2.1, hD4.2.2.2.1, hD4.2.2.2.2.1, hD4.2.2.2.2.2.1, hD4.2.2.2.2.2.2.1, hD4.2.2.2.2.2.2.2.1, hD4.2.2.2.2.2.2.2.2⟩) (fun q hh => by rw [hq4 q (by omega), hfr q (by omega)]) (by omega) hb1 hbm (by rw [tz_sh, ← hs]; simp only []; rw [if_neg (by rintro ⟨-, h | h⟩; exact h73 h; exact lg_le_not_lt ((lg_cmp_ge _ _).mp h87) h)]) (by omega)
              · skip
                refine tz_iload C_ 7 rfl td_M_aligned_90 ?_
                refine tz_istore_n C_ (lv' := [(0, .ref M), (1, .int (nI k)), (2, .int (nI w)), (3, .int (tz_sd (nI tt))), (4, .long bs), (6, .long bp), (8, .int (nI tt)), (9, .int (tz_sd (nI tt))), (10, .long (Int32.toInt64 (tz_ds g (t.1 k).1 (t.1 k).2 (tz_sd (nI tt)) n))), (12, .long (Int32.toInt64 (nI (tz_dn g (t.1 k).1 (t.1 k).2 (tz_sd (nI tt)) n))))]) [1, 2, 3, 0, 4, 5, 6, 7, 8, 9] rfl (by decide) rfl td_M_aligned_92 ?_
                refine tz_lload C_ 8 rfl td_M_aligned_93 ?_
                refine tz_lstore C_ (lv' := [(0, .ref M), (1, .int (nI k)), (2, .int (nI w)), (3, .int (tz_sd (nI tt))), (4, .long (Int32.toInt64 (tz_ds g (t.1 k).1 (t.1 k).2 (tz_sd (nI tt)) n))), (6, .long bp), (8, .int (nI tt)), (9, .int (tz_sd (nI tt))), (10, .long (Int32.toInt64 (tz_ds g (t.1 k).1 (t.1 k).2 (tz_sd (nI tt)) n))), (12, .long (Int32.toInt64 (nI (tz_dn g (t.1 k).1 (t.1 k).2 (tz_sd (nI tt)) n))))]) [1, 2, 3, 4, 0, 5, 6, 7, 8, 9] (by decide) rfl td_M_aligned_95 ?_
                refine tz_lload C_ 9 rfl td_M_aligned_97 ?_
                refine tz_lstore C_ (lv' := [(0, .ref M), (1, .int (nI k)), (2, .int (nI w)), (3, .int (tz_sd (nI tt))), (4, .long (Int32.toInt64 (tz_ds g (t.1 k).1 (t.1 k).2 (tz_sd (nI tt)) n))), (6, .long (Int32.toInt64 (nI (tz_dn g (t.1 k).1 (t.1 k).2 (tz_sd (nI tt)) n)))), (8, .int (nI tt)), (9, .int (tz_sd (nI tt))), (10, .long (Int32.toInt64 (tz_ds g (t.1 k).1 (t.1 k).2 (tz_sd (nI tt)) n))), (12, .long (Int32.toInt64 (nI (tz_dn g (t.1 k).1 (t.1 k).2 (tz_sd (nI tt)) n))))]) [1, 2, 3, 4, 5, 0, 6, 7, 8, 9] (by decide) rfl td_M_aligned_99 ?_
                refine tz_iinc C_ (k := 1) (v := nI (tt + 1)) (lv' := [(0, .ref M), (1, .int (nI k)), (2, .int (nI w)), (3, .int (tz_sd (nI tt))), (4, .long (Int32.toInt64 (tz_ds g (t.1 k).1 (t.1 k).2 (tz_sd (nI tt)) n))), (6, .long (Int32.toInt64 (nI (tz_dn g (t.1 k).1 (t.1 k).2 (tz_sd (nI tt)) n)))), (8, .int (nI (tt + 1))), (9, .int (tz_sd (nI tt))), (10, .long (Int32.toInt64 (tz_ds g (t.1 k).1 (t.1 k).2 (tz_sd (nI tt)) n))), (12, .long (Int32.toInt64 (nI (tz_dn g (t.1 k).1 (t.1 k).2 (tz_sd (nI tt)) n))))]) 6 rfl (nI_1 tt) [1, 2, 3, 4, 5, 6, 0, 7, 8, 9] (by decide) rfl td_M_aligned_101 ?_
                refine tz_goto C_ td_M_aligned_104 ?_
                refine tz_lvs [0, 1, 2, 3, 4, 5, 6] rfl ?_
                exact ih12 (tz_sd (nI tt)) (tz_sd (nI tt)) (Int32.toInt64 (tz_ds g (t.1 k).1 (t.1 k).2 (tz_sd (nI tt)) n)) (Int32.toInt64 (nI (tz_dn g (t.1 k).1 (t.1 k).2 (tz_sd (nI tt)) n))) (tt + 1) (nI (tz_dn g (t.1 k).1 (t.1 k).2 (tz_sd (nI tt)) n)) f3 (⟨hD4.1, hD4.2.1, hD4.2.2.1, hD4.2.2.2.1, hD4.2.2.2.2.1, hD4.2.2.2.2.2.1, hD4.2.2.2.2.2.2.1, hD4.2.2.2.2.2.2.2.1, hD4.2.2.2.2.2.2.2.2⟩) (fun q hh => by rw [hq4 q (by omega), hfr q (by omega)]) (by omega) (tz_sd_ne tt (by omega)).1.1 (tz_b1_id (tz_sd_ne tt (by omega)).1.2) (by rw [tz_sh, ← hs]; simp only []; rw [if_pos ⟨by omega, Or.inr ((lg_cmp_lt _ _).mp (Int32.not_le.mp h87))⟩]) (by omega)
  exact loop12 _ 100 tz_NO 0 1 0 tg f (⟨hM.1, hM.2.1, hM.2.2.1, hM.2.2.2.1, hM.2.2.2.2.1, hM.2.2.2.2.2.1, hM.2.2.2.2.2.2.1, hM.2.2.2.2.2.2.2.1, hM.2.2.2.2.2.2.2.2⟩) (fun q hh => rfl) (by omega) (by decide) rfl rfl (Nat.lt_succ_self _)
