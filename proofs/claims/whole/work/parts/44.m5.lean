
section
variable {ro g H : Nat → Int32} {n i : Nat} {v : Int32}
theorem tz_gA (hr : tz_er ro n g) (hk : tz_okr n g) (hi : i < n) (h : tz_fl H ro i i = 1000000) : (1000000 : Int32) = tz_mo (tz_gn v (g i)) := by
  rw [tz_fl_ge (Nat.le_refl _)] at h
  rw [(tz_er_lo hr hk hi).mp h]
  unfold tz_gn
  rw [if_pos rfl, tz_mo, if_pos rfl]
theorem tz_gB (hr : tz_er ro n g) (hk : tz_okr n g) (hi : i < n) (h : ¬ tz_fl H ro i i = 1000000) : tz_top (tz_fl H ro i i * v / 100) = tz_mo (tz_gn v (g i)) := by
  rw [tz_fl_ge (Nat.le_refl _)] at h ⊢
  have e := mt (tz_er_lo hr hk hi).mpr h
  rw [tz_er_v hr hi e]
  unfold tz_gn
  rw [if_neg e, (tz_top_eq _).1, tz_mo_id (tz_top_eq _).2.1]
theorem tz_mA (hr : tz_er ro n g) (hk : tz_okr n g) (hn : n ≤ 120) (hi : i < n) (h : tz_click n g (nI i) v) : (ro (i - 1) + ro (i + 1)) / 2 = tz_mo (tz_md n g v i) := by
  obtain ⟨⟨c1, c2⟩, c3, c4, c5, -⟩ := (tz_click_N hn hi).mp h
  unfold tz_md
  rw [if_pos h, show (nI i - 1 : Int32) = nI (i - 1) from pk_sub (a := i) (b := 1) (by omega), show (nI i + 1 : Int32) = nI (i + 1) from nI_1 i, tz_at_N hn c2, tz_at_N hn (show i - 1 < n by omega), tz_er_v hr (show i - 1 < n by omega) c3, tz_er_v hr c2 c5, tz_mo_id (tz_avg (hk _ (by omega)) (hk _ c2) c3 c5).2]
theorem tz_mB (hr : tz_er ro n g) (hi : i < n) (h : ¬ tz_click n g (nI i) v) : ro i = tz_mo (tz_md n g v i) := by
  unfold tz_md
  rw [if_neg h]; exact hr i hi
theorem tz_fA (hr : tz_er ro n g) (hk : tz_okr n g) (hi : i < n) (h : tz_fl H ro i i = 1000000) : (1000000 : Int32) = tz_mo (tz_fa g v i) := by
  rw [tz_fl_ge (Nat.le_refl _)] at h
  have e := (tz_er_lo hr hk hi).mp h
  unfold tz_fa
  rw [if_neg (fun z => z.1 e), e, tz_mo, if_pos rfl]
theorem tz_fB (hr : tz_er ro n g) (hk : tz_okr n g) (hn : n ≤ 120) (hi : i < n) (hv : 1 ≤ v ∧ v ≤ 120) (h : ¬ tz_fl H ro i i = 1000000) (h2 : ¬ v ≤ nI i) : tz_fl H ro i i * (nI i + 1) / (v + 1) = tz_mo (tz_fa g v i) := by
  rw [tz_fl_ge (Nat.le_refl _)] at h ⊢
  have e := mt (tz_er_lo hr hk hi).mpr h
  have e2 := Int32.not_le.mp h2
  rw [tz_er_v hr hi e]
  unfold tz_fa
  rw [if_pos ⟨e, e2⟩, tz_mo_id (tz_fade_rg (hk i hi) e hv e2 (by omega)).2]
theorem tz_fE (hr : tz_er ro n g) (hn : n ≤ 120) (h : n ≤ i ∨ v ≤ nI i) (hi : i ≤ n) : tz_er (tz_fl (fun j => tz_mo (tz_fa g v j)) ro i) n (tz_fa g v) := by
  intro j hj
  by_cases e : j < i
  · rw [tz_fl_in e]
  · rw [tz_fl_ge (by omega), hr j hj]
    rcases h with h | h
    · omega
    · unfold tz_fa
      rw [if_neg (fun z => absurd z.2 (Int32.not_lt.mpr (Int32.le_trans h (nI_le (show i ≤ j by omega) (by omega)))))]
end

abbrev rm_M_gain : Room := { frames := 1, cells := 0, slots := 0, locals := 20 }
set_option maxHeartbeats 4000000 in
set_option maxRecDepth 100000 in
theorem ct_M_gain {l : Launch} {A : Nat → Prop} {D : va_G} {cs : Nat → ClassId} {sz : Nat} {f : tz_PH} {M kp n : Nat} {fn ns tg : Int32} {nw pa bi nu sh ro ma ca : Nat → Int32} (hM : tz_MB cs f M kp fn (nI n) ns tg nw pa bi nu sh ro ma ca) {g : Nat → Int32} (hr : tz_er ro n g) (hk : tz_okr n g) (hn : n ≤ 120) {v : Int32} : tz_CN l tyM_gain prog_13_method_42_code 3 (none) rm_M_gain 0 0 A D cs sz [.ref M, .int v] f (none) (fun f' => (∃ (ro' ma' : Nat → Int32) (ns' tg' : Int32), tz_MB cs f' M kp fn (nI n) (ns') (tg') nw pa bi nu sh (ro') (ma') ca ∧ tz_er ro' n ((fun j => tz_gn v (g j)))) ∧ ∀ q, (q < M ∨ M + 9 ≤ q) → f' q = f q) := by
  refine tz_C.ofB (lv0 := [(0, .ref M), (1, .int v)]) (plainFor_of_name (by decide)) (Nat.le_of_ble_eq_true rfl) rfl ?_
  intro p_ e_ s_ m_ ar_ be_ me_ c_ Q_ C_ hr_ hk_ hnm_ hz_ hQ_
  refine tz_iconst C_ (v := 0) (by decide) td_M_gain_0 ?_
  refine tz_istore_n C_ (lv' := [(0, .ref M), (1, .int v), (2, .int 0)]) [1, 2, 0] rfl (by decide) rfl td_M_gain_1 ?_
  have loop2 : ∀ (kk2 : Nat) (i : Nat) (fL : tz_PH), (tz_MB cs fL M kp fn (nI n) ns tg nw pa bi nu sh ((tz_fl (fun j => tz_mo (tz_gn v (g j))) ro i)) ma ca) → (∀ q, (q < M ∨ M + 9 ≤ q) → fL q = f q) → (i ≤ n) → (n - i) < kk2 → tz_V p_ l e_ rm_M_gain s_ m_ ar_ be_ me_ c_ Q_ A D 3 fL sz 0 0 2 [(0, .ref M), (1, .int v), (2, .int (nI i))] [] := by
    intro kk2
    induction kk2 with
    | zero => intro i fL hM1 hfr hi hm2; omega
    | succ kk2 ih2 =>
      intro i fL hM1 hfr hi hm2
      refine tz_iload_n C_ 2 rfl rfl td_M_gain_2 ?_
      refine tz_aload_n C_ 0 rfl rfl td_M_gain_3 ?_
      refine tz_get C_ tci_M 7 (by decide) tw_760 hM1.1 rfl td_M_gain_4 ?_
      refine tz_icmp_ge C_ td_M_gain_7 (fun h7 => ?_) (fun h7 => ?_)
      · skip
        replace h7 := (nI_leI (a := n) (b := i) (by omega) (by omega)).mp h7
        refine tz_rvret C_ hr_ hk_ hQ_ rfl td_M_gain_52 ?_
        have e9 : i = n := by omega
        subst e9
        exact ⟨rfl, ⟨_, _, _, _, ⟨hM1.1, hM1.2.1, hM1.2.2.1, hM1.2.2.2.1, hM1.2.2.2.2.1, hM1.2.2.2.2.2.1, hM1.2.2.2.2.2.2.1, hM1.2.2.2.2.2.2.2.1, hM1.2.2.2.2.2.2.2.2⟩, fun j hj => tz_fl_in hj⟩, (fun q hh => by rw [hfr q (by omega)])⟩
      · skip
        replace h7 := mt (nI_leI (a := n) (b := i) (by omega) (by omega)).mpr h7
        refine tz_aload_n C_ 0 rfl rfl td_M_gain_10 ?_
        refine tz_get C_ tci_M 8 (by decide) tw_761 hM1.1 rfl td_M_gain_11 ?_
        refine tz_iload_n C_ 2 rfl rfl td_M_gain_14 ?_
        refine tz_aload_n C_ 0 rfl rfl td_M_gain_15 ?_
        refine tz_get C_ tci_M 8 (by decide) tw_761 hM1.1 rfl td_M_gain_16 ?_
        refine tz_iload_n C_ 2 rfl rfl td_M_gain_19 ?_
        refine tz_ialdN C_ hM1.2.2.2.2.2.2.1 (by omega) (by decide) td_M_gain_20 ?_
        refine tz_ldc C_ tw_829 td_M_gain_21 ?_
        refine tz_icmp_ne C_ td_M_gain_23 (fun h23 => ?_) (fun h23 => ?_)
        · skip
          refine tz_aload_n C_ 0 rfl rfl td_M_gain_31 ?_
          refine tz_get C_ tci_M 8 (by decide) tw_761 hM1.1 rfl td_M_gain_32 ?_
          refine tz_iload_n C_ 2 rfl rfl td_M_gain_35 ?_
          refine tz_ialdN C_ hM1.2.2.2.2.2.2.1 (by omega) (by decide) td_M_gain_36 ?_
          refine tz_iload_n C_ 1 rfl rfl td_M_gain_37 ?_
          refine tz_imul C_ td_M_gain_38 ?_
          refine tz_bipush C_ (v := 100) (by decide) td_M_gain_39 ?_
          refine tz_idiv C_ (by decide) td_M_gain_41 ?_
          refine tz_rS C_ tmi_M_cutTop tw_961 tw_960 (As := [.int (((((tz_fl (fun j => tz_mo (tz_gn v (g j))) ro i)) i) * v) / 100)]) (by exact ct_M_cutTop) rfl (rest := [.int (nI i), .ref (M + 6)]) rfl (by decide) (Nat.le_of_ble_eq_true rfl) td_M_gain_42 (st1 := [.int (tz_top (((((tz_fl (fun j => tz_mo (tz_gn v (g j))) ro i)) i) * v) / 100)), .int (nI i), .ref (M + 6)]) rfl ?_
          refine tz_wiastN C_ hM1.2.2.2.2.2.2.1 (by omega) (by decide) (g' := upd ((tz_fl (fun j => tz_mo (tz_gn v (g j))) ro i)) i (tz_top (((((tz_fl (fun j => tz_mo (tz_gn v (g j))) ro i)) i) * v) / 100))) rfl td_M_gain_45 (fun f1 hs1 hq1 => ?_)
          refine tz_iinc C_ (k := 1) (v := nI (i + 1)) (lv' := [(0, .ref M), (1, .int v), (2, .int (nI (i + 1)))]) 2 rfl (nI_1 i) [1, 2, 0] (by decide) rfl td_M_gain_46 ?_
          refine tz_goto C_ td_M_gain_49 ?_
          have k2 : f1 M = some (tz_obj 11 [.ref (M + 1), .ref (M + 2), .int (nI kp), .int fn, .ref (M + 3), .ref (M + 4), .ref (M + 5), .int (nI n), .ref (M + 6), .int ns, .ref (M + 7), .ref (M + 8), .int tg]) := ((hq1 _ (by omega)).trans hM1.1)
          have k3 : f1 (M + 1) = some (tz_ints cs 532 nw) := ((hq1 _ (by omega)).trans hM1.2.1)
          have k4 : f1 (M + 2) = some (tz_ints cs 10640 pa) := ((hq1 _ (by omega)).trans hM1.2.2.1)
          have k5 : f1 (M + 3) = some (tz_ints cs 4 bi) := ((hq1 _ (by omega)).trans hM1.2.2.2.1)
          have k6 : f1 (M + 4) = some (tz_ints cs 4 nu) := ((hq1 _ (by omega)).trans hM1.2.2.2.2.1)
          have k7 : f1 (M + 5) = some (tz_ints cs 480 sh) := ((hq1 _ (by omega)).trans hM1.2.2.2.2.2.1)
          have k8 : f1 (M + 7) = some (tz_ints cs 120 ma) := ((hq1 _ (by omega)).trans hM1.2.2.2.2.2.2.2.1)
          have k9 : f1 (M + 8) = some (tz_ints cs 120 ca) := ((hq1 _ (by omega)).trans hM1.2.2.2.2.2.2.2.2)
          exact ih2 (i + 1) f1 (⟨k2, k3, k4, k5, k6, k7, tz_flN hs1 (tz_gB hr hk (by omega) h23), k8, k9⟩) (fun q hh => by rw [hq1 q (by omega), hfr q (by omega)]) (by omega) (by omega)
        · skip
          refine tz_ldc C_ tw_829 td_M_gain_26 ?_
          refine tz_goto C_ td_M_gain_28 ?_
          refine tz_wiastN C_ hM1.2.2.2.2.2.2.1 (by omega) (by decide) (g' := upd ((tz_fl (fun j => tz_mo (tz_gn v (g j))) ro i)) i 1000000) rfl td_M_gain_45 (fun f10 hs10 hq10 => ?_)
          refine tz_iinc C_ (k := 1) (v := nI (i + 1)) (lv' := [(0, .ref M), (1, .int v), (2, .int (nI (i + 1)))]) 2 rfl (nI_1 i) [1, 2, 0] (by decide) rfl td_M_gain_46 ?_
          refine tz_goto C_ td_M_gain_49 ?_
          have k11 : f10 M = some (tz_obj 11 [.ref (M + 1), .ref (M + 2), .int (nI kp), .int fn, .ref (M + 3), .ref (M + 4), .ref (M + 5), .int (nI n), .ref (M + 6), .int ns, .ref (M + 7), .ref (M + 8), .int tg]) := ((hq10 _ (by omega)).trans hM1.1)
          have k12 : f10 (M + 1) = some (tz_ints cs 532 nw) := ((hq10 _ (by omega)).trans hM1.2.1)
          have k13 : f10 (M + 2) = some (tz_ints cs 10640 pa) := ((hq10 _ (by omega)).trans hM1.2.2.1)
          have k14 : f10 (M + 3) = some (tz_ints cs 4 bi) := ((hq10 _ (by omega)).trans hM1.2.2.2.1)
          have k15 : f10 (M + 4) = some (tz_ints cs 4 nu) := ((hq10 _ (by omega)).trans hM1.2.2.2.2.1)
          have k16 : f10 (M + 5) = some (tz_ints cs 480 sh) := ((hq10 _ (by omega)).trans hM1.2.2.2.2.2.1)
          have k17 : f10 (M + 7) = some (tz_ints cs 120 ma) := ((hq10 _ (by omega)).trans hM1.2.2.2.2.2.2.2.1)
          have k18 : f10 (M + 8) = some (tz_ints cs 120 ca) := ((hq10 _ (by omega)).trans hM1.2.2.2.2.2.2.2.2)
          exact ih2 (i + 1) f10 (⟨k11, k12, k13, k14, k15, k16, tz_flN hs10 (tz_gA hr hk (by omega) h23), k17, k18⟩) (fun q hh => by rw [hq10 q (by omega), hfr q (by omega)]) (by omega) (by omega)
  exact loop2 _ 0 f (⟨hM.1, hM.2.1, hM.2.2.1, hM.2.2.2.1, hM.2.2.2.2.1, hM.2.2.2.2.2.1, by rw [tz_fl_0]; exact hM.2.2.2.2.2.2.1, hM.2.2.2.2.2.2.2.1, hM.2.2.2.2.2.2.2.2⟩) (fun q hh => rfl) (Nat.zero_le _) (Nat.lt_succ_self _)

abbrev rm_M_mend : Room := { frames := 1, cells := 0, slots := 0, locals := 23 }
set_option maxHeartbeats 4000000 in
set_option maxRecDepth 100000 in
theorem ct_M_mend {l : Launch} {A : Nat → Prop} {D : va_G} {cs : Nat → ClassId} {sz : Nat} {f : tz_PH} {M kp n : Nat} {fn ns tg : Int32} {nw pa bi nu sh ro ma ca : Nat → Int32} (hM : tz_MB cs f M kp fn (nI n) ns tg nw pa bi nu sh ro ma ca) {g : Nat → Int32} (hr : tz_er ro n g) (hk : tz_okr n g) (hn : n ≤ 120) {v : Int32} : tz_CN l tyM_mend prog_13_method_43_code 3 (none) rm_M_mend 0 0 A D cs sz [.ref M, .int v] f (none) (fun f' => (∃ (ro' ma' : Nat → Int32) (ns' tg' : Int32), tz_MB cs f' M kp fn (nI n) (ns') (tg') nw pa bi nu sh (ro') (ma') ca ∧ tz_er ro' n ((tz_md n g v))) ∧ ∀ q, (q < M ∨ M + 9 ≤ q) → f' q = f q) := by
  refine tz_C.ofB (lv0 := [(0, .ref M), (1, .int v)]) (plainFor_of_name (by decide)) (Nat.le_of_ble_eq_true rfl) rfl ?_
  intro p_ e_ s_ m_ ar_ be_ me_ c_ Q_ C_ hr_ hk_ hnm_ hz_ hQ_
  refine tz_iconst C_ (v := 0) (by decide) td_M_mend_0 ?_
  refine tz_istore_n C_ (lv' := [(0, .ref M), (1, .int v), (2, .int 0)]) [1, 2, 0] rfl (by decide) rfl td_M_mend_1 ?_
  have loop2 : ∀ (kk2 : Nat) (i : Nat) (fL : tz_PH), (tz_MB cs fL M kp fn (nI n) ns tg nw pa bi nu sh ro ((tz_fl (fun j => tz_mo (tz_md n g v j)) ma i)) ca) → (∀ q, (q < M ∨ M + 9 ≤ q) → fL q = f q) → (i ≤ n) → (n - i) < kk2 → tz_V p_ l e_ rm_M_mend s_ m_ ar_ be_ me_ c_ Q_ A D 3 fL sz 0 0 2 [(0, .ref M), (1, .int v), (2, .int (nI i))] [] := by
    intro kk2
    induction kk2 with
    | zero => intro i fL hM1 hfr hi hm2; omega
    | succ kk2 ih2 =>
      intro i fL hM1 hfr hi hm2
      refine tz_iload_n C_ 2 rfl rfl td_M_mend_2 ?_
      refine tz_aload_n C_ 0 rfl rfl td_M_mend_3 ?_
      refine tz_get C_ tci_M 7 (by decide) tw_760 hM1.1 rfl td_M_mend_4 ?_
      refine tz_icmp_ge C_ td_M_mend_7 (fun h7 => ?_) (fun h7 => ?_)
      · skip
        replace h7 := (nI_leI (a := n) (b := i) (by omega) (by omega)).mp h7
        have e9 : i = n := by omega
        refine tz_aload_n C_ 0 rfl rfl td_M_mend_59 ?_
        refine tz_aload_n C_ 0 rfl rfl td_M_mend_60 ?_
        refine tz_get C_ tci_M 7 (by decide) tw_760 hM1.1 rfl td_M_mend_61 ?_
        refine tz_wput C_ tci_M 9 (by decide) tw_762 rfl hM1.1 (Nat.le_of_ble_eq_true rfl) ⟨rfl, rfl⟩ (fs' := [.ref (M + 1), .ref (M + 2), .int (nI kp), .int fn, .ref (M + 3), .ref (M + 4), .ref (M + 5), .int (nI n), .ref (M + 6), .int (nI n), .ref (M + 7), .ref (M + 8), .int tg]) rfl td_M_mend_64 (fun f1 hs1 hq1 => ?_)
        refine tz_aload_n C_ 0 rfl rfl td_M_mend_67 ?_
        have k2 : f1 (M + 1) = some (tz_ints cs 532 nw) := ((hq1 _ (by omega)).trans hM1.2.1)
        have k3 : f1 (M + 2) = some (tz_ints cs 10640 pa) := ((hq1 _ (by omega)).trans hM1.2.2.1)
        have k4 : f1 (M + 3) = some (tz_ints cs 4 bi) := ((hq1 _ (by omega)).trans hM1.2.2.2.1)
        have k5 : f1 (M + 4) = some (tz_ints cs 4 nu) := ((hq1 _ (by omega)).trans hM1.2.2.2.2.1)
        have k6 : f1 (M + 5) = some (tz_ints cs 480 sh) := ((hq1 _ (by omega)).trans hM1.2.2.2.2.2.1)
        have k7 : f1 (M + 6) = some (tz_ints cs 120 ro) := ((hq1 _ (by omega)).trans hM1.2.2.2.2.2.2.1)
        have k8 : f1 (M + 7) = some (tz_ints cs 120 ((tz_fl (fun j => tz_mo (tz_md n g v j)) ma i))) := ((hq1 _ (by omega)).trans hM1.2.2.2.2.2.2.2.1)
        have k9 : f1 (M + 8) = some (tz_ints cs 120 ca) := ((hq1 _ (by omega)).trans hM1.2.2.2.2.2.2.2.2)
        refine tz_cV C_ tmi_M_takeMade tw_969 tw_32 tw_967 hs1 rfl (As := []) (by exact (ct_M_takeMade ⟨hs1, k2, k3, k4, k5, k6, k7, k8, k9⟩ (by omega))) rfl (rest := []) rfl (by decide) (Nat.le_of_ble_eq_true rfl) td_M_mend_68 (st1 := []) rfl (fun f10 hF10 => ?_)
        obtain ⟨hT11, hq11⟩ := hF10
        refine tz_rvret C_ hr_ hk_ hQ_ rfl td_M_mend_71 ?_
        exact ⟨rfl, ⟨_, _, _, _, ⟨hT11.1, hT11.2.1, hT11.2.2.1, hT11.2.2.2.1, hT11.2.2.2.2.1, hT11.2.2.2.2.2.1, hT11.2.2.2.2.2.2.1, hT11.2.2.2.2.2.2.2.1, hT11.2.2.2.2.2.2.2.2⟩, fun j hj => by rw [tz_fl_in hj, tz_fl_in (by omega)]⟩, (fun q hh => by rw [hq11 q (by omega), hq1 q (by omega), hfr q (by omega)])⟩
      · skip
        replace h7 := mt (nI_leI (a := n) (b := i) (by omega) (by omega)).mpr h7
        refine tz_aload_n C_ 0 rfl rfl td_M_mend_10 ?_
        refine tz_get C_ tci_M 10 (by decide) tw_763 hM1.1 rfl td_M_mend_11 ?_
        refine tz_iload_n C_ 2 rfl rfl td_M_mend_14 ?_
        refine tz_aload_n C_ 0 rfl rfl td_M_mend_15 ?_
        refine tz_iload_n C_ 2 rfl rfl td_M_mend_16 ?_
        refine tz_iload_n C_ 1 rfl rfl td_M_mend_17 ?_
        refine tz_rV C_ tmi_M_isClick tw_861 tw_22 tw_859 hM1.1 rfl (As := [.int (nI i), .int v]) (by exact (ct_M_isClick ⟨hM1.1, hM1.2.1, hM1.2.2.1, hM1.2.2.2.1, hM1.2.2.2.2.1, hM1.2.2.2.2.2.1, hM1.2.2.2.2.2.2.1, hM1.2.2.2.2.2.2.2.1, hM1.2.2.2.2.2.2.2.2⟩ hr hk hn (k := i) (by omega))) rfl (rest := [.int (nI i), .ref (M + 7)]) rfl (by decide) (Nat.le_of_ble_eq_true rfl) td_M_mend_18 (st1 := [.int (tz_p (tz_click n g (nI i) v)), .int (nI i), .ref (M + 7)]) rfl ?_
        refine tz_if_eq C_ td_M_mend_21 (fun h21 => ?_) (fun h21 => ?_)
        · skip
          replace h21 := tz_p0.mp h21
          refine tz_aload_n C_ 0 rfl rfl td_M_mend_46 ?_
          refine tz_get C_ tci_M 8 (by decide) tw_761 hM1.1 rfl td_M_mend_47 ?_
          refine tz_iload_n C_ 2 rfl rfl td_M_mend_50 ?_
          refine tz_ialdN C_ hM1.2.2.2.2.2.2.1 (by omega) (by decide) td_M_mend_51 ?_
          refine tz_wiastN C_ hM1.2.2.2.2.2.2.2.1 (by omega) (by decide) (g' := upd ((tz_fl (fun j => tz_mo (tz_md n g v j)) ma i)) i (ro i)) rfl td_M_mend_52 (fun f12 hs12 hq12 => ?_)
          refine tz_iinc C_ (k := 1) (v := nI (i + 1)) (lv' := [(0, .ref M), (1, .int v), (2, .int (nI (i + 1)))]) 2 rfl (nI_1 i) [1, 2, 0] (by decide) rfl td_M_mend_53 ?_
          refine tz_goto C_ td_M_mend_56 ?_
          have k13 : f12 M = some (tz_obj 11 [.ref (M + 1), .ref (M + 2), .int (nI kp), .int fn, .ref (M + 3), .ref (M + 4), .ref (M + 5), .int (nI n), .ref (M + 6), .int ns, .ref (M + 7), .ref (M + 8), .int tg]) := ((hq12 _ (by omega)).trans hM1.1)
          have k14 : f12 (M + 1) = some (tz_ints cs 532 nw) := ((hq12 _ (by omega)).trans hM1.2.1)
          have k15 : f12 (M + 2) = some (tz_ints cs 10640 pa) := ((hq12 _ (by omega)).trans hM1.2.2.1)
          have k16 : f12 (M + 3) = some (tz_ints cs 4 bi) := ((hq12 _ (by omega)).trans hM1.2.2.2.1)
          have k17 : f12 (M + 4) = some (tz_ints cs 4 nu) := ((hq12 _ (by omega)).trans hM1.2.2.2.2.1)
          have k18 : f12 (M + 5) = some (tz_ints cs 480 sh) := ((hq12 _ (by omega)).trans hM1.2.2.2.2.2.1)
          have k19 : f12 (M + 6) = some (tz_ints cs 120 ro) := ((hq12 _ (by omega)).trans hM1.2.2.2.2.2.2.1)
          have k20 : f12 (M + 8) = some (tz_ints cs 120 ca) := ((hq12 _ (by omega)).trans hM1.2.2.2.2.2.2.2.2)
          exact ih2 (i + 1) f12 (⟨k13, k14, k15, k16, k17, k18, k19, tz_flN hs12 (tz_mB hr (by omega) h21), k20⟩) (fun q hh => by rw [hq12 q (by omega), hfr q (by omega)]) (by omega) (by omega)
        · skip
          replace h21 := tz_p1.mp h21
          have c8 := ((tz_click_N (g := g) (a := v) hn (show i < n by omega)).mp h21).1
          refine tz_aload_n C_ 0 rfl rfl td_M_mend_24 ?_
          refine tz_get C_ tci_M 8 (by decide) tw_761 hM1.1 rfl td_M_mend_25 ?_
          refine tz_iload_n C_ 2 rfl rfl td_M_mend_28 ?_
          refine tz_iconst C_ (v := 1) (by decide) td_M_mend_29 ?_
          refine tz_isub C_ td_M_mend_30 ?_
          rw [show ((nI i) - 1 : Int32) = nI (i - 1) from pk_sub (a := i) (b := 1) (by omega)]
          refine tz_ialdN C_ hM1.2.2.2.2.2.2.1 (by omega) (by decide) td_M_mend_31 ?_
          refine tz_aload_n C_ 0 rfl rfl td_M_mend_32 ?_
          refine tz_get C_ tci_M 8 (by decide) tw_761 hM1.1 rfl td_M_mend_33 ?_
          refine tz_iload_n C_ 2 rfl rfl td_M_mend_36 ?_
          refine tz_iconst C_ (v := 1) (by decide) td_M_mend_37 ?_
          refine tz_iadd C_ td_M_mend_38 ?_
          rw [show ((nI i) + 1 : Int32) = nI (i + 1) from nI_add (i) (1)]
          refine tz_ialdN C_ hM1.2.2.2.2.2.2.1 (by omega) (by decide) td_M_mend_39 ?_
          refine tz_iadd C_ td_M_mend_40 ?_
          refine tz_iconst C_ (v := 2) (by decide) td_M_mend_41 ?_
          refine tz_idiv C_ (by decide) td_M_mend_42 ?_
          refine tz_goto C_ td_M_mend_43 ?_
          refine tz_wiastN C_ hM1.2.2.2.2.2.2.2.1 (by omega) (by decide) (g' := upd ((tz_fl (fun j => tz_mo (tz_md n g v j)) ma i)) i (((ro ((i - 1))) + (ro ((i + 1)))) / 2)) rfl td_M_mend_52 (fun f21 hs21 hq21 => ?_)
          refine tz_iinc C_ (k := 1) (v := nI (i + 1)) (lv' := [(0, .ref M), (1, .int v), (2, .int (nI (i + 1)))]) 2 rfl (nI_1 i) [1, 2, 0] (by decide) rfl td_M_mend_53 ?_
          refine tz_goto C_ td_M_mend_56 ?_
          have k22 : f21 M = some (tz_obj 11 [.ref (M + 1), .ref (M + 2), .int (nI kp), .int fn, .ref (M + 3), .ref (M + 4), .ref (M + 5), .int (nI n), .ref (M + 6), .int ns, .ref (M + 7), .ref (M + 8), .int tg]) := ((hq21 _ (by omega)).trans hM1.1)
          have k23 : f21 (M + 1) = some (tz_ints cs 532 nw) := ((hq21 _ (by omega)).trans hM1.2.1)
          have k24 : f21 (M + 2) = some (tz_ints cs 10640 pa) := ((hq21 _ (by omega)).trans hM1.2.2.1)
          have k25 : f21 (M + 3) = some (tz_ints cs 4 bi) := ((hq21 _ (by omega)).trans hM1.2.2.2.1)
          have k26 : f21 (M + 4) = some (tz_ints cs 4 nu) := ((hq21 _ (by omega)).trans hM1.2.2.2.2.1)
          have k27 : f21 (M + 5) = some (tz_ints cs 480 sh) := ((hq21 _ (by omega)).trans hM1.2.2.2.2.2.1)
          have k28 : f21 (M + 6) = some (tz_ints cs 120 ro) := ((hq21 _ (by omega)).trans hM1.2.2.2.2.2.2.1)
          have k29 : f21 (M + 8) = some (tz_ints cs 120 ca) := ((hq21 _ (by omega)).trans hM1.2.2.2.2.2.2.2.2)
          exact ih2 (i + 1) f21 (⟨k22, k23, k24, k25, k26, k27, k28, tz_flN hs21 (tz_mA hr hk hn (by omega) h21), k29⟩) (fun q hh => by rw [hq21 q (by omega), hfr q (by omega)]) (by omega) (by omega)
  exact loop2 _ 0 f (⟨hM.1, hM.2.1, hM.2.2.1, hM.2.2.2.1, hM.2.2.2.2.1, hM.2.2.2.2.2.1, hM.2.2.2.2.2.2.1, by rw [tz_fl_0]; exact hM.2.2.2.2.2.2.2.1, hM.2.2.2.2.2.2.2.2⟩) (fun q hh => rfl) (Nat.zero_le _) (Nat.lt_succ_self _)

abbrev rm_M_fade : Room := { frames := 0, cells := 0, slots := 0, locals := 0 }
set_option maxHeartbeats 4000000 in
set_option maxRecDepth 100000 in
theorem ct_M_fade {l : Launch} {A : Nat → Prop} {D : va_G} {cs : Nat → ClassId} {sz : Nat} {f : tz_PH} {M kp n : Nat} {fn ns tg : Int32} {nw pa bi nu sh ro ma ca : Nat → Int32} (hM : tz_MB cs f M kp fn (nI n) ns tg nw pa bi nu sh ro ma ca) {g : Nat → Int32} (hr : tz_er ro n g) (hk : tz_okr n g) (hn : n ≤ 120) {v : Int32} (hv : 1 ≤ v ∧ v ≤ 120) : tz_CN l tyM_fade prog_13_method_49_code 3 (none) rm_M_fade 0 0 A D cs sz [.ref M, .int v] f (none) (fun f' => (∃ (ro' ma' : Nat → Int32) (ns' tg' : Int32), tz_MB cs f' M kp fn (nI n) (ns') (tg') nw pa bi nu sh (ro') (ma') ca ∧ tz_er ro' n ((tz_fa g v))) ∧ ∀ q, (q < M ∨ M + 9 ≤ q) → f' q = f q) := by
  refine tz_C.ofB (lv0 := [(0, .ref M), (1, .int v)]) (plainFor_of_name (by decide)) (Nat.le_of_ble_eq_true rfl) rfl ?_
  intro p_ e_ s_ m_ ar_ be_ me_ c_ Q_ C_ hr_ hk_ hnm_ hz_ hQ_
  have hv0 := tz_p1_ne hv.1 hv.2
  refine tz_iconst C_ (v := 0) (by decide) td_M_fade_0 ?_
  refine tz_istore_n C_ (lv' := [(0, .ref M), (1, .int v), (2, .int 0)]) [1, 2, 0] rfl (by decide) rfl td_M_fade_1 ?_
  have loop2 : ∀ (kk2 : Nat) (i : Nat) (fL : tz_PH), (tz_MB cs fL M kp fn (nI n) ns tg nw pa bi nu sh ((tz_fl (fun j => tz_mo (tz_fa g v j)) ro i)) ma ca) → (∀ q, (q < M ∨ M + 9 ≤ q) → fL q = f q) → (i ≤ n) → (n - i) < kk2 → tz_V p_ l e_ rm_M_fade s_ m_ ar_ be_ me_ c_ Q_ A D 3 fL sz 0 0 2 [(0, .ref M), (1, .int v), (2, .int (nI i))] [] := by
    intro kk2
    induction kk2 with
    | zero => intro i fL hM1 hfr hi hm2; omega
    | succ kk2 ih2 =>
      intro i fL hM1 hfr hi hm2
      refine tz_iload_n C_ 2 rfl rfl td_M_fade_2 ?_
      refine tz_aload_n C_ 0 rfl rfl td_M_fade_3 ?_
      refine tz_get C_ tci_M 7 (by decide) tw_760 hM1.1 rfl td_M_fade_4 ?_
      refine tz_icmp_ge C_ td_M_fade_7 (fun h7 => ?_) (fun h7 => ?_)
      · skip
        replace h7 := (nI_leI (a := n) (b := i) (by omega) (by omega)).mp h7
        refine tz_rvret C_ hr_ hk_ hQ_ rfl td_M_fade_57 ?_
        exact ⟨rfl, ⟨_, _, _, _, ⟨hM1.1, hM1.2.1, hM1.2.2.1, hM1.2.2.2.1, hM1.2.2.2.2.1, hM1.2.2.2.2.2.1, hM1.2.2.2.2.2.2.1, hM1.2.2.2.2.2.2.2.1, hM1.2.2.2.2.2.2.2.2⟩, tz_fE hr hn (Or.inl h7) hi⟩, (fun q hh => by rw [hfr q (by omega)])⟩
      · skip
        replace h7 := mt (nI_leI (a := n) (b := i) (by omega) (by omega)).mpr h7
        refine tz_iload_n C_ 2 rfl rfl td_M_fade_10 ?_
        refine tz_iload_n C_ 1 rfl rfl td_M_fade_11 ?_
        refine tz_icmp_ge C_ td_M_fade_12 (fun h12 => ?_) (fun h12 => ?_)
        · skip
          refine tz_rvret C_ hr_ hk_ hQ_ rfl td_M_fade_57 ?_
          exact ⟨rfl, ⟨_, _, _, _, ⟨hM1.1, hM1.2.1, hM1.2.2.1, hM1.2.2.2.1, hM1.2.2.2.2.1, hM1.2.2.2.2.2.1, hM1.2.2.2.2.2.2.1, hM1.2.2.2.2.2.2.2.1, hM1.2.2.2.2.2.2.2.2⟩, tz_fE hr hn (Or.inr h12) hi⟩, (fun q hh => by rw [hfr q (by omega)])⟩
        · skip
          refine tz_aload_n C_ 0 rfl rfl td_M_fade_15 ?_
          refine tz_get C_ tci_M 8 (by decide) tw_761 hM1.1 rfl td_M_fade_16 ?_
          refine tz_iload_n C_ 2 rfl rfl td_M_fade_19 ?_
          refine tz_aload_n C_ 0 rfl rfl td_M_fade_20 ?_
          refine tz_get C_ tci_M 8 (by decide) tw_761 hM1.1 rfl td_M_fade_21 ?_
          refine tz_iload_n C_ 2 rfl rfl td_M_fade_24 ?_
          refine tz_ialdN C_ hM1.2.2.2.2.2.2.1 (by omega) (by decide) td_M_fade_25 ?_
          refine tz_ldc C_ tw_829 td_M_fade_26 ?_
          refine tz_icmp_ne C_ td_M_fade_28 (fun h28 => ?_) (fun h28 => ?_)
          · skip
            refine tz_aload_n C_ 0 rfl rfl td_M_fade_36 ?_
            refine tz_get C_ tci_M 8 (by decide) tw_761 hM1.1 rfl td_M_fade_37 ?_
            refine tz_iload_n C_ 2 rfl rfl td_M_fade_40 ?_
            refine tz_ialdN C_ hM1.2.2.2.2.2.2.1 (by omega) (by decide) td_M_fade_41 ?_
            refine tz_iload_n C_ 2 rfl rfl td_M_fade_42 ?_
            refine tz_iconst C_ (v := 1) (by decide) td_M_fade_43 ?_
            refine tz_iadd C_ td_M_fade_44 ?_
            refine tz_imul C_ td_M_fade_45 ?_
            refine tz_iload_n C_ 1 rfl rfl td_M_fade_46 ?_
            refine tz_iconst C_ (v := 1) (by decide) td_M_fade_47 ?_
            refine tz_iadd C_ td_M_fade_48 ?_
            refine tz_idiv C_ hv0 td_M_fade_49 ?_
            refine tz_wiastN C_ hM1.2.2.2.2.2.2.1 (by omega) (by decide) (g' := upd ((tz_fl (fun j => tz_mo (tz_fa g v j)) ro i)) i (((((tz_fl (fun j => tz_mo (tz_fa g v j)) ro i)) i) * ((nI i) + 1)) / (v + 1))) rfl td_M_fade_50 (fun f1 hs1 hq1 => ?_)
            refine tz_iinc C_ (k := 1) (v := nI (i + 1)) (lv' := [(0, .ref M), (1, .int v), (2, .int (nI (i + 1)))]) 2 rfl (nI_1 i) [1, 2, 0] (by decide) rfl td_M_fade_51 ?_
            refine tz_goto C_ td_M_fade_54 ?_
            have k2 : f1 M = some (tz_obj 11 [.ref (M + 1), .ref (M + 2), .int (nI kp), .int fn, .ref (M + 3), .ref (M + 4), .ref (M + 5), .int (nI n), .ref (M + 6), .int ns, .ref (M + 7), .ref (M + 8), .int tg]) := ((hq1 _ (by omega)).trans hM1.1)
            have k3 : f1 (M + 1) = some (tz_ints cs 532 nw) := ((hq1 _ (by omega)).trans hM1.2.1)
            have k4 : f1 (M + 2) = some (tz_ints cs 10640 pa) := ((hq1 _ (by omega)).trans hM1.2.2.1)
            have k5 : f1 (M + 3) = some (tz_ints cs 4 bi) := ((hq1 _ (by omega)).trans hM1.2.2.2.1)
            have k6 : f1 (M + 4) = some (tz_ints cs 4 nu) := ((hq1 _ (by omega)).trans hM1.2.2.2.2.1)
            have k7 : f1 (M + 5) = some (tz_ints cs 480 sh) := ((hq1 _ (by omega)).trans hM1.2.2.2.2.2.1)
            have k8 : f1 (M + 7) = some (tz_ints cs 120 ma) := ((hq1 _ (by omega)).trans hM1.2.2.2.2.2.2.2.1)
            have k9 : f1 (M + 8) = some (tz_ints cs 120 ca) := ((hq1 _ (by omega)).trans hM1.2.2.2.2.2.2.2.2)
            exact ih2 (i + 1) f1 (⟨k2, k3, k4, k5, k6, k7, tz_flN hs1 (tz_fB hr hk hn (by omega) hv h28 h12), k8, k9⟩) (fun q hh => by rw [hq1 q (by omega), hfr q (by omega)]) (by omega) (by omega)
          · skip
            refine tz_ldc C_ tw_829 td_M_fade_31 ?_
            refine tz_goto C_ td_M_fade_33 ?_
            refine tz_wiastN C_ hM1.2.2.2.2.2.2.1 (by omega) (by decide) (g' := upd ((tz_fl (fun j => tz_mo (tz_fa g v j)) ro i)) i 1000000) rfl td_M_fade_50 (fun f10 hs10 hq10 => ?_)
            refine tz_iinc C_ (k := 1) (v := nI (i + 1)) (lv' := [(0, .ref M), (1, .int v), (2, .int (nI (i + 1)))]) 2 rfl (nI_1 i) [1, 2, 0] (by decide) rfl td_M_fade_51 ?_
            refine tz_goto C_ td_M_fade_54 ?_
            have k11 : f10 M = some (tz_obj 11 [.ref (M + 1), .ref (M + 2), .int (nI kp), .int fn, .ref (M + 3), .ref (M + 4), .ref (M + 5), .int (nI n), .ref (M + 6), .int ns, .ref (M + 7), .ref (M + 8), .int tg]) := ((hq10 _ (by omega)).trans hM1.1)
            have k12 : f10 (M + 1) = some (tz_ints cs 532 nw) := ((hq10 _ (by omega)).trans hM1.2.1)
            have k13 : f10 (M + 2) = some (tz_ints cs 10640 pa) := ((hq10 _ (by omega)).trans hM1.2.2.1)
            have k14 : f10 (M + 3) = some (tz_ints cs 4 bi) := ((hq10 _ (by omega)).trans hM1.2.2.2.1)
            have k15 : f10 (M + 4) = some (tz_ints cs 4 nu) := ((hq10 _ (by omega)).trans hM1.2.2.2.2.1)
            have k16 : f10 (M + 5) = some (tz_ints cs 480 sh) := ((hq10 _ (by omega)).trans hM1.2.2.2.2.2.1)
            have k17 : f10 (M + 7) = some (tz_ints cs 120 ma) := ((hq10 _ (by omega)).trans hM1.2.2.2.2.2.2.2.1)
            have k18 : f10 (M + 8) = some (tz_ints cs 120 ca) := ((hq10 _ (by omega)).trans hM1.2.2.2.2.2.2.2.2)
            exact ih2 (i + 1) f10 (⟨k11, k12, k13, k14, k15, k16, tz_flN hs10 (tz_fA hr hk (by omega) h28), k17, k18⟩) (fun q hh => by rw [hq10 q (by omega), hfr q (by omega)]) (by omega) (by omega)
  exact loop2 _ 0 f (⟨hM.1, hM.2.1, hM.2.2.1, hM.2.2.2.1, hM.2.2.2.2.1, hM.2.2.2.2.2.1, by rw [tz_fl_0]; exact hM.2.2.2.2.2.2.1, hM.2.2.2.2.2.2.2.1, hM.2.2.2.2.2.2.2.2⟩) (fun q hh => rfl) (Nat.zero_le _) (Nat.lt_succ_self _)

abbrev rm_M_cut : Room := { frames := 1, cells := 0, slots := 0, locals := 21 }
set_option maxHeartbeats 4000000 in
set_option maxRecDepth 100000 in
theorem ct_M_cut {l : Launch} {A : Nat → Prop} {D : va_G} {cs : Nat → ClassId} {sz : Nat} {f : tz_PH} {M kp n : Nat} {fn ns tg : Int32} {nw pa bi nu sh ro ma ca : Nat → Int32} (hM : tz_MB cs f M kp fn (nI n) ns tg nw pa bi nu sh ro ma ca) {g : Nat → Int32} (hr : tz_er ro n g) (hk : tz_okr n g) (hn : n ≤ 120) {v u : Int32} : tz_CN l tyM_cut prog_13_method_48_code 4 (none) rm_M_cut 0 0 A D cs sz [.ref M, .int v, .int u] f (none) (fun f' => (∃ (ro' ma' : Nat → Int32) (ns' tg' : Int32), tz_MB cs f' M kp fn (nI ((tz_ct (tz_kp v u) n))) (ns') (tg') nw pa bi nu sh (ro') (ma') ca ∧ tz_er ro' ((tz_ct (tz_kp v u) n)) ((fun j => g (tz_nth (tz_kp v u) n j)))) ∧ ∀ q, (q < M ∨ M + 9 ≤ q) → f' q = f q) := by
  refine tz_C.ofB (lv0 := [(0, .ref M), (1, .int v), (2, .int u)]) (plainFor_of_name (by decide)) (Nat.le_of_ble_eq_true rfl) rfl ?_
  intro p_ e_ s_ m_ ar_ be_ me_ c_ Q_ C_ hr_ hk_ hnm_ hz_ hQ_
  refine tz_aload_n C_ 0 rfl rfl td_M_cut_0 ?_
  refine tz_iconst C_ (v := 0) (by decide) td_M_cut_1 ?_
  refine tz_wput C_ tci_M 9 (by decide) tw_762 rfl hM.1 (Nat.le_of_ble_eq_true rfl) ⟨rfl, rfl⟩ (fs' := [.ref (M + 1), .ref (M + 2), .int (nI kp), .int fn, .ref (M + 3), .ref (M + 4), .ref (M + 5), .int (nI n), .ref (M + 6), .int 0, .ref (M + 7), .ref (M + 8), .int tg]) rfl td_M_cut_2 (fun f1 hs1 hq1 => ?_)
  refine tz_iconst C_ (v := 0) (by decide) td_M_cut_5 ?_
  refine tz_istore_n C_ (lv' := [(0, .ref M), (1, .int v), (2, .int u), (3, .int 0)]) [1, 2, 3, 0] rfl (by decide) rfl td_M_cut_6 ?_
  have k2 : f1 (M + 7) = some (tz_ints cs 120 ma) := ((hq1 _ (by omega)).trans hM.2.2.2.2.2.2.2.1)
  have k3 : f1 (M + 1) = some (tz_ints cs 532 nw) := ((hq1 _ (by omega)).trans hM.2.1)
  have k4 : f1 (M + 2) = some (tz_ints cs 10640 pa) := ((hq1 _ (by omega)).trans hM.2.2.1)
  have k5 : f1 (M + 3) = some (tz_ints cs 4 bi) := ((hq1 _ (by omega)).trans hM.2.2.2.1)
  have k6 : f1 (M + 4) = some (tz_ints cs 4 nu) := ((hq1 _ (by omega)).trans hM.2.2.2.2.1)
  have k7 : f1 (M + 5) = some (tz_ints cs 480 sh) := ((hq1 _ (by omega)).trans hM.2.2.2.2.2.1)
  have k8 : f1 (M + 6) = some (tz_ints cs 120 ro) := ((hq1 _ (by omega)).trans hM.2.2.2.2.2.2.1)
  have k9 : f1 (M + 8) = some (tz_ints cs 120 ca) := ((hq1 _ (by omega)).trans hM.2.2.2.2.2.2.2.2)
  have loop7 : ∀ (kk7 : Nat) (x : Nat) (maL : Nat → Int32) (i : Nat) (fL : tz_PH), (tz_MB cs fL M kp fn (nI n) (nI x) tg nw pa bi nu sh ro maL ca) → (∀ q, (q < M ∨ M + 9 ≤ q) → fL q = f q) → (i ≤ n) → (x = tz_ct (tz_kp v u) i) → (∀ j, j < x → maL j = ro (tz_nth (tz_kp v u) i j)) → (n - i) < kk7 → tz_V p_ l e_ rm_M_cut s_ m_ ar_ be_ me_ c_ Q_ A D 4 fL sz 0 0 7 [(0, .ref M), (1, .int v), (2, .int u), (3, .int (nI i))] [] := by
    intro kk7
    induction kk7 with
    | zero => intro x maL i fL hM1 hfr hi hc ht hm7; omega
    | succ kk7 ih7 =>
      intro x maL i fL hM1 hfr hi hc ht hm7
      have hcl := tz_ct_le (tz_kp v u) i
      refine tz_iload_n C_ 3 rfl rfl td_M_cut_7 ?_
      refine tz_aload_n C_ 0 rfl rfl td_M_cut_8 ?_
      refine tz_get C_ tci_M 7 (by decide) tw_760 hM1.1 rfl td_M_cut_9 ?_
      refine tz_icmp_ge C_ td_M_cut_12 (fun h12 => ?_) (fun h12 => ?_)
      · skip
        replace h12 := (nI_leI (a := n) (b := i) (by omega) (by omega)).mp h12
        have e9 : i = n := by omega
        refine tz_aload_n C_ 0 rfl rfl td_M_cut_58 ?_
        refine tz_cV C_ tmi_M_takeMade tw_969 tw_32 tw_967 hM1.1 rfl (As := []) (by exact (ct_M_takeMade ⟨hM1.1, hM1.2.1, hM1.2.2.1, hM1.2.2.2.1, hM1.2.2.2.2.1, hM1.2.2.2.2.2.1, hM1.2.2.2.2.2.2.1, hM1.2.2.2.2.2.2.2.1, hM1.2.2.2.2.2.2.2.2⟩ (by omega))) rfl (rest := []) rfl (by decide) (Nat.le_of_ble_eq_true rfl) td_M_cut_59 (st1 := []) rfl (fun f10 hF10 => ?_)
        obtain ⟨hT11, hq11⟩ := hF10
        refine tz_rvret C_ hr_ hk_ hQ_ rfl td_M_cut_62 ?_
        rw [← e9, ← hc]
        exact ⟨rfl, ⟨_, _, _, _, ⟨hT11.1, hT11.2.1, hT11.2.2.1, hT11.2.2.2.1, hT11.2.2.2.2.1, hT11.2.2.2.2.2.1, hT11.2.2.2.2.2.2.1, hT11.2.2.2.2.2.2.2.1, hT11.2.2.2.2.2.2.2.2⟩, fun j hj => by rw [tz_fl_in hj, ht j hj, e9]; rw [e9] at hc; exact hr _ (tz_nth_in _ (by omega)).1⟩, (fun q hh => by rw [hq11 q (by omega), hfr q (by omega)])⟩
      · skip
        replace h12 := mt (nI_leI (a := n) (b := i) (by omega) (by omega)).mpr h12
        refine tz_iload_n C_ 3 rfl rfl td_M_cut_15 ?_
        refine tz_iload_n C_ 1 rfl rfl td_M_cut_16 ?_
        refine tz_icmp_lt C_ td_M_cut_17 (fun h17 => ?_) (fun h17 => ?_)
        · skip
          refine tz_aload_n C_ 0 rfl rfl td_M_cut_27 ?_
          refine tz_get C_ tci_M 10 (by decide) tw_763 hM1.1 rfl td_M_cut_28 ?_
          refine tz_aload_n C_ 0 rfl rfl td_M_cut_31 ?_
          refine tz_get C_ tci_M 9 (by decide) tw_762 hM1.1 rfl td_M_cut_32 ?_
          refine tz_aload_n C_ 0 rfl rfl td_M_cut_35 ?_
          refine tz_get C_ tci_M 8 (by decide) tw_761 hM1.1 rfl td_M_cut_36 ?_
          refine tz_iload_n C_ 3 rfl rfl td_M_cut_39 ?_
          refine tz_ialdN C_ hM1.2.2.2.2.2.2.1 (by omega) (by decide) td_M_cut_40 ?_
          refine tz_wiastN C_ hM1.2.2.2.2.2.2.2.1 (by omega) (by decide) (g' := upd maL x (ro i)) rfl td_M_cut_41 (fun f12 hs12 hq12 => ?_)
          refine tz_aload_n C_ 0 rfl rfl td_M_cut_42 ?_
          refine tz_dup C_ rfl td_M_cut_43 ?_
          have k13 : f12 M = some (tz_obj 11 [.ref (M + 1), .ref (M + 2), .int (nI kp), .int fn, .ref (M + 3), .ref (M + 4), .ref (M + 5), .int (nI n), .ref (M + 6), .int (nI x), .ref (M + 7), .ref (M + 8), .int tg]) := ((hq12 _ (by omega)).trans hM1.1)
          refine tz_get C_ tci_M 9 (by decide) tw_762 k13 rfl td_M_cut_44 ?_
          refine tz_iconst C_ (v := 1) (by decide) td_M_cut_47 ?_
          refine tz_iadd C_ td_M_cut_48 ?_
          rw [show ((nI x) + 1 : Int32) = nI (x + 1) from nI_add (x) (1)]
          refine tz_wput C_ tci_M 9 (by decide) tw_762 rfl k13 (Nat.le_of_ble_eq_true rfl) ⟨rfl, rfl⟩ (fs' := [.ref (M + 1), .ref (M + 2), .int (nI kp), .int fn, .ref (M + 3), .ref (M + 4), .ref (M + 5), .int (nI n), .ref (M + 6), .int (nI (x + 1)), .ref (M + 7), .ref (M + 8), .int tg]) rfl td_M_cut_49 (fun f14 hs14 hq14 => ?_)
          refine tz_iinc C_ (k := 1) (v := nI (i + 1)) (lv' := [(0, .ref M), (1, .int v), (2, .int u), (3, .int (nI (i + 1)))]) 3 rfl (nI_1 i) [1, 2, 3, 0] (by decide) rfl td_M_cut_52 ?_
          refine tz_goto C_ td_M_cut_55 ?_
          have k15 : f14 (M + 7) = some (tz_ints cs 120 (upd maL x (ro i))) := ((hq14 _ (by omega)).trans hs12)
          have k16 : f14 (M + 1) = some (tz_ints cs 532 nw) := ((hq14 _ (by omega)).trans ((hq12 _ (by omega)).trans hM1.2.1))
          have k17 : f14 (M + 2) = some (tz_ints cs 10640 pa) := ((hq14 _ (by omega)).trans ((hq12 _ (by omega)).trans hM1.2.2.1))
          have k18 : f14 (M + 3) = some (tz_ints cs 4 bi) := ((hq14 _ (by omega)).trans ((hq12 _ (by omega)).trans hM1.2.2.2.1))
          have k19 : f14 (M + 4) = some (tz_ints cs 4 nu) := ((hq14 _ (by omega)).trans ((hq12 _ (by omega)).trans hM1.2.2.2.2.1))
          have k20 : f14 (M + 5) = some (tz_ints cs 480 sh) := ((hq14 _ (by omega)).trans ((hq12 _ (by omega)).trans hM1.2.2.2.2.2.1))
          have k21 : f14 (M + 6) = some (tz_ints cs 120 ro) := ((hq14 _ (by omega)).trans ((hq12 _ (by omega)).trans hM1.2.2.2.2.2.2.1))
          have k22 : f14 (M + 8) = some (tz_ints cs 120 ca) := ((hq14 _ (by omega)).trans ((hq12 _ (by omega)).trans hM1.2.2.2.2.2.2.2.2))
          exact ih7 (x + 1) (upd maL x (ro i)) (i + 1) f14 (⟨hs14, k16, k17, k18, k19, k20, k21, k15, k22⟩) (fun q hh => by rw [hq14 q (by omega), hq12 q (by omega), hfr q (by omega)]) (by omega) (by rw [tz_ct_y (by simp [tz_kp, h17]), hc]) (tz_nth_step hc ht (by simp [tz_kp, h17])) (by omega)
        · skip
          refine tz_iload_n C_ 3 rfl rfl td_M_cut_20 ?_
          refine tz_iload_n C_ 1 rfl rfl td_M_cut_21 ?_
          refine tz_iload_n C_ 2 rfl rfl td_M_cut_22 ?_
          refine tz_iadd C_ td_M_cut_23 ?_
          refine tz_icmp_lt C_ td_M_cut_24 (fun h24 => ?_) (fun h24 => ?_)
          · skip
            refine tz_iinc C_ (k := 1) (v := nI (i + 1)) (lv' := [(0, .ref M), (1, .int v), (2, .int u), (3, .int (nI (i + 1)))]) 3 rfl (nI_1 i) [1, 2, 3, 0] (by decide) rfl td_M_cut_52 ?_
            refine tz_goto C_ td_M_cut_55 ?_
            exact ih7 x maL (i + 1) fL (⟨hM1.1, hM1.2.1, hM1.2.2.1, hM1.2.2.2.1, hM1.2.2.2.2.1, hM1.2.2.2.2.2.1, hM1.2.2.2.2.2.2.1, hM1.2.2.2.2.2.2.2.1, hM1.2.2.2.2.2.2.2.2⟩) (fun q hh => by rw [hfr q (by omega)]) (by omega) (by rw [tz_ct_n (by simp [tz_kp, h17, h24]), hc]) (fun j hj => by rw [tz_nth_s _ (by omega)]; exact ht j hj) (by omega)
          · skip
            refine tz_aload_n C_ 0 rfl rfl td_M_cut_27 ?_
            refine tz_get C_ tci_M 10 (by decide) tw_763 hM1.1 rfl td_M_cut_28 ?_
            refine tz_aload_n C_ 0 rfl rfl td_M_cut_31 ?_
            refine tz_get C_ tci_M 9 (by decide) tw_762 hM1.1 rfl td_M_cut_32 ?_
            refine tz_aload_n C_ 0 rfl rfl td_M_cut_35 ?_
            refine tz_get C_ tci_M 8 (by decide) tw_761 hM1.1 rfl td_M_cut_36 ?_
            refine tz_iload_n C_ 3 rfl rfl td_M_cut_39 ?_
            refine tz_ialdN C_ hM1.2.2.2.2.2.2.1 (by omega) (by decide) td_M_cut_40 ?_
            refine tz_wiastN C_ hM1.2.2.2.2.2.2.2.1 (by omega) (by decide) (g' := upd maL x (ro i)) rfl td_M_cut_41 (fun f23 hs23 hq23 => ?_)
            refine tz_aload_n C_ 0 rfl rfl td_M_cut_42 ?_
            refine tz_dup C_ rfl td_M_cut_43 ?_
            have k24 : f23 M = some (tz_obj 11 [.ref (M + 1), .ref (M + 2), .int (nI kp), .int fn, .ref (M + 3), .ref (M + 4), .ref (M + 5), .int (nI n), .ref (M + 6), .int (nI x), .ref (M + 7), .ref (M + 8), .int tg]) := ((hq23 _ (by omega)).trans hM1.1)
            refine tz_get C_ tci_M 9 (by decide) tw_762 k24 rfl td_M_cut_44 ?_
            refine tz_iconst C_ (v := 1) (by decide) td_M_cut_47 ?_
            refine tz_iadd C_ td_M_cut_48 ?_
            rw [show ((nI x) + 1 : Int32) = nI (x + 1) from nI_add (x) (1)]
            refine tz_wput C_ tci_M 9 (by decide) tw_762 rfl k24 (Nat.le_of_ble_eq_true rfl) ⟨rfl, rfl⟩ (fs' := [.ref (M + 1), .ref (M + 2), .int (nI kp), .int fn, .ref (M + 3), .ref (M + 4), .ref (M + 5), .int (nI n), .ref (M + 6), .int (nI (x + 1)), .ref (M + 7), .ref (M + 8), .int tg]) rfl td_M_cut_49 (fun f25 hs25 hq25 => ?_)
            refine tz_iinc C_ (k := 1) (v := nI (i + 1)) (lv' := [(0, .ref M), (1, .int v), (2, .int u), (3, .int (nI (i + 1)))]) 3 rfl (nI_1 i) [1, 2, 3, 0] (by decide) rfl td_M_cut_52 ?_
            refine tz_goto C_ td_M_cut_55 ?_
            have k26 : f25 (M + 7) = some (tz_ints cs 120 (upd maL x (ro i))) := ((hq25 _ (by omega)).trans hs23)
            have k27 : f25 (M + 1) = some (tz_ints cs 532 nw) := ((hq25 _ (by omega)).trans ((hq23 _ (by omega)).trans hM1.2.1))
            have k28 : f25 (M + 2) = some (tz_ints cs 10640 pa) := ((hq25 _ (by omega)).trans ((hq23 _ (by omega)).trans hM1.2.2.1))
            have k29 : f25 (M + 3) = some (tz_ints cs 4 bi) := ((hq25 _ (by omega)).trans ((hq23 _ (by omega)).trans hM1.2.2.2.1))
            have k30 : f25 (M + 4) = some (tz_ints cs 4 nu) := ((hq25 _ (by omega)).trans ((hq23 _ (by omega)).trans hM1.2.2.2.2.1))
            have k31 : f25 (M + 5) = some (tz_ints cs 480 sh) := ((hq25 _ (by omega)).trans ((hq23 _ (by omega)).trans hM1.2.2.2.2.2.1))
            have k32 : f25 (M + 6) = some (tz_ints cs 120 ro) := ((hq25 _ (by omega)).trans ((hq23 _ (by omega)).trans hM1.2.2.2.2.2.2.1))
            have k33 : f25 (M + 8) = some (tz_ints cs 120 ca) := ((hq25 _ (by omega)).trans ((hq23 _ (by omega)).trans hM1.2.2.2.2.2.2.2.2))
            exact ih7 (x + 1) (upd maL x (ro i)) (i + 1) f25 (⟨hs25, k27, k28, k29, k30, k31, k32, k26, k33⟩) (fun q hh => by rw [hq25 q (by omega), hq23 q (by omega), hfr q (by omega)]) (by omega) (by rw [tz_ct_y (by simp [tz_kp, Int32.not_lt.mp h24]), hc]) (tz_nth_step hc ht (by simp [tz_kp, Int32.not_lt.mp h24])) (by omega)
  exact loop7 _ 0 ma 0 f1 (⟨hs1, k3, k4, k5, k6, k7, k8, k2, k9⟩) (fun q hh => by rw [hq1 q (by omega)]) (Nat.zero_le _) rfl (fun j hj => absurd hj (Nat.not_lt_zero j)) (Nat.lt_succ_self _)
