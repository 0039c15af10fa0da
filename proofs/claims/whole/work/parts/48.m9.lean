
theorem tz_prv_gap {g : Nat → Int32} {i : Nat} (hJ : i = 0 ∨ ¬ g (i - 1) = tz_LO) : ∀ j, i ≤ j → (∀ q, i ≤ q → q < j → g q = tz_LO) → tz_prv g j = i := by
  intro j
  induction j with
  | zero => intro h _; rw [tz_prv]; omega
  | succ j ih =>
    intro h hg
    rw [tz_prv]
    by_cases e : i = j + 1
    · subst e
      rcases hJ with hJ | hJ
      · omega
      · rw [show j + 1 - 1 = j by omega] at hJ
        rw [if_neg hJ]
    · rw [if_pos (hg j (by omega) (by omega))]
      exact ih (by omega) (fun q a b => hg q a (by omega))
theorem tz_nxd_gap {g : Nat → Int32} {n e : Nat} (he : e ≤ n) (hE : e = n ∨ ¬ g e = tz_LO) : ∀ d, d ≤ n → n - d ≤ e → (∀ q, n - d ≤ q → q < e → g q = tz_LO) → tz_nxd g n d = e := by
  intro d
  induction d with
  | zero => intro _ h _; rw [tz_nxd]; omega
  | succ d ih =>
    intro hd h hg
    rw [tz_nxd]
    by_cases q : n - (d + 1) = e
    · rw [q]
      rcases hE with hE | hE
      · omega
      · rw [if_neg hE]
    · rw [if_pos (hg _ (Nat.le_refl _) (by omega))]
      exact ih (by omega) (by omega) (fun q a b => hg q (by omega) b)
theorem tz_br_gap {g : Nat → Int32} {n i e j : Nat} {v : Int32} (hn : n ≤ 120) (hJ : i = 0 ∨ ¬ g (i - 1) = tz_LO) (he : e ≤ n) (hE : e = n ∨ ¬ g e = tz_LO) (hg : ∀ q, i ≤ q → q < e → g q = tz_LO) (hij : i ≤ j) (hj : j < e) : tz_br n g v j = if 0 < i ∧ e < n ∧ nI (e - i) ≤ v then tz_spv g (i - 1) e j else tz_LO := by
  have h1 := tz_prv_gap hJ j hij (fun q a b => hg q a (by omega))
  have h2 : tz_nx g n j = e := tz_nxd_gap he hE (n - j) (by omega) (by omega) (fun q a b => hg q (by omega) b)
  unfold tz_br
  rw [if_pos (hg j hij hj), h1, h2]
  by_cases h0 : 0 < i
  · rw [show (nI e - nI (i - 1) - 1 : Int32) = nI (e - i) from by
      rw [show (nI e - nI (i - 1) : Int32) = nI (e - (i - 1)) from pk_sub (by omega), show (nI (e - (i - 1)) - 1 : Int32) = nI (e - (i - 1) - 1) from pk_sub (a := e - (i - 1)) (b := 1) (by omega)]
      congr 1; omega]
  · rw [if_neg (fun z => h0 z.1), if_neg (fun z => h0 z.1)]
theorem tz_br_keep {g : Nat → Int32} {n j : Nat} {v : Int32} (h : ¬ g j = tz_LO) : tz_br n g v j = g j := by unfold tz_br; rw [if_neg h]
theorem tz_spv_rg {g : Nat → Int32} {n a e j : Nat} (hk : tz_okr n g) (ha : ¬ g a = tz_LO) (he : ¬ g e = tz_LO) (h1 : a ≤ j) (h2 : j ≤ e) (h3 : e < n) (h4 : a < e) (hn : n ≤ 120) : (-10000 ≤ tz_spv g a e j ∧ tz_spv g a e j ≤ 10000) ∧ ¬ tz_spv g a e j = tz_LO := by
  unfold tz_spv
  have e1 : (nI j - nI a).toInt = ((j - a : Nat) : Int) := by rw [show (nI j - nI a : Int32) = nI (j - a) from pk_sub h1, nI_toInt (by omega)]
  have e2 : (nI e - nI a).toInt = ((e - a : Nat) : Int) := by rw [show (nI e - nI a : Int32) = nI (e - a) from pk_sub (by omega), nI_toInt (by omega)]
  exact tz_ip (hk a (by omega)) (hk e h3) ha he e1 e2 (by omega) (by omega)
theorem tz_fdne {a e : Nat} (h : a < e) (he : e < 1000) : ¬ (nI e - nI a : Int32) = 0 := by
  rw [show (nI e - nI a : Int32) = nI (e - a) from pk_sub (by omega)]
  exact fun z => absurd ((nI_eq (a := e - a) (b := 0) (by omega) (by omega)).mp z) (by omega)

abbrev rm_M_bridge : Room := { frames := 1, cells := 0, slots := 0, locals := 22 }
set_option maxHeartbeats 4000000 in
set_option maxRecDepth 100000 in
theorem ct_M_bridge {l : Launch} {A : Nat → Prop} {D : va_G} {cs : Nat → ClassId} {sz : Nat} {f : tz_PH} {M kp n : Nat} {fn ns tg : Int32} {nw pa bi nu sh ro ma ca : Nat → Int32} (hM : tz_MB cs f M kp fn (nI n) ns tg nw pa bi nu sh ro ma ca) {g : Nat → Int32} (hr : tz_er ro n g) (hk : tz_okr n g) (hn : n ≤ 120) {v : Int32} : tz_CN l tyM_bridge prog_13_method_46_code 6 (none) rm_M_bridge 0 0 A D cs sz [.ref M, .int v] f (none) (fun f' => (∃ (ro' ma' : Nat → Int32) (ns' tg' : Int32), tz_MB cs f' M kp fn (nI n) (ns') (tg') nw pa bi nu sh (ro') (ma') ca ∧ tz_er ro' n ((tz_br n g v))) ∧ ∀ q, (q < M ∨ M + 9 ≤ q) → f' q = f q) := by
  refine tz_C.ofB (lv0 := [(0, .ref M), (1, .int v)]) (plainFor_of_name (by decide)) (Nat.le_of_ble_eq_true rfl) rfl ?_
  intro p_ e_ s_ m_ ar_ be_ me_ c_ Q_ C_ hr_ hk_ hnm_ hz_ hQ_
  refine tz_iconst C_ (v := 0) (by decide) td_M_bridge_0 ?_
  refine tz_istore_n C_ (lv' := [(0, .ref M), (1, .int v), (2, .int 0)]) [1, 2, 0] rfl (by decide) rfl td_M_bridge_1 ?_
  have loop2 : ∀ (kk2 : Nat) (roL : Nat → Int32) (maL : Nat → Int32) (i : Nat) (fL : tz_PH), (tz_MB cs fL M kp fn (nI n) ns tg nw pa bi nu sh roL maL ca) → (∀ q, (q < M ∨ M + 9 ≤ q) → fL q = f q) → (i ≤ n) → (i < n → g i = tz_LO → i = 0 ∨ ¬ g (i - 1) = tz_LO) → ((∀ j, j < i → roL j = tz_mo (tz_br n g v j)) ∧ ∀ j, i ≤ j → j < n → roL j = ro j) → (n - i) < kk2 → tz_V p_ l e_ rm_M_bridge s_ m_ ar_ be_ me_ c_ Q_ A D 6 fL sz 0 0 2 [(0, .ref M), (1, .int v), (2, .int (nI i))] [] := by
    intro kk2
    induction kk2 with
    | zero => intro roL maL i fL hM1 hfr hi hJ hro hm2; omega
    | succ kk2 ih2 =>
      intro roL maL i fL hM1 hfr hi hJ hro hm2
      refine tz_iload_n C_ 2 rfl rfl td_M_bridge_2 ?_
      refine tz_aload_n C_ 0 rfl rfl td_M_bridge_3 ?_
      refine tz_get C_ tci_M 7 (by decide) tw_760 hM1.1 rfl td_M_bridge_4 ?_
      refine tz_icmp_ge C_ td_M_bridge_7 (fun h7 => ?_) (fun h7 => ?_)
      · skip
        replace h7 := (nI_leI (a := n) (b := i) (by omega) (by omega)).mp h7
        refine tz_rvret C_ hr_ hk_ hQ_ rfl td_M_bridge_169 ?_
        have e9 : i = n := by omega
        exact ⟨rfl, ⟨_, _, _, _, ⟨hM1.1, hM1.2.1, hM1.2.2.1, hM1.2.2.2.1, hM1.2.2.2.2.1, hM1.2.2.2.2.2.1, hM1.2.2.2.2.2.2.1, hM1.2.2.2.2.2.2.2.1, hM1.2.2.2.2.2.2.2.2⟩, fun j hj => hro.1 j (by omega)⟩, (fun q hh => by rw [hfr q (by omega)])⟩
      · skip
        replace h7 := mt (nI_leI (a := n) (b := i) (by omega) (by omega)).mpr h7
        refine tz_aload_n C_ 0 rfl rfl td_M_bridge_10 ?_
        refine tz_get C_ tci_M 8 (by decide) tw_761 hM1.1 rfl td_M_bridge_11 ?_
        refine tz_iload_n C_ 2 rfl rfl td_M_bridge_14 ?_
        refine tz_ialdN C_ hM1.2.2.2.2.2.2.1 (by omega) (by decide) td_M_bridge_15 ?_
        refine tz_ldc C_ tw_829 td_M_bridge_16 ?_
        refine tz_icmp_eq C_ td_M_bridge_18 (fun h18 => ?_) (fun h18 => ?_)
        · skip
          have hli : g i = tz_LO := by
            rw [hro.2 i (Nat.le_refl _) (by omega)] at h18
            exact (tz_er_lo hr hk (by omega)).mp h18
          have hJi := hJ (by omega) hli
          refine tz_iload_n C_ 2 rfl rfl td_M_bridge_27 ?_
          refine tz_istore_n C_ (lv' := [(0, .ref M), (1, .int v), (2, .int (nI i)), (3, .int (nI i))]) [1, 2, 3, 0] rfl (by decide) rfl td_M_bridge_28 ?_
          have loop29 : ∀ (kk29 : Nat) (ge : Nat), (ge ≤ n) → (i ≤ ge) → (ge = i → True) → (∀ q, i ≤ q → q < ge → g q = tz_LO) → (n - ge) < kk29 → tz_V p_ l e_ rm_M_bridge s_ m_ ar_ be_ me_ c_ Q_ A D 6 fL sz 0 0 29 [(0, .ref M), (1, .int v), (2, .int (nI i)), (3, .int (nI ge))] [] := by
            intro kk29
            induction kk29 with
            | zero => intro ge hge hie hi1 hgap hm29; omega
            | succ kk29 ih29 =>
              intro ge hge hie hi1 hgap hm29
              refine tz_iload_n C_ 3 rfl rfl td_M_bridge_29 ?_
              refine tz_aload_n C_ 0 rfl rfl td_M_bridge_30 ?_
              refine tz_get C_ tci_M 7 (by decide) tw_760 hM1.1 rfl td_M_bridge_31 ?_
              refine tz_icmp_ge C_ td_M_bridge_34 (fun h34 => ?_) (fun h34 => ?_)
              · skip
                replace h34 := (nI_leI (a := n) (b := ge) (by omega) (by omega)).mp h34
                have hend : ge = n ∨ ¬ g ge = tz_LO := Or.inl (by omega)
                have hlt : i < ge := by omega
                refine tz_iload_n C_ 2 rfl rfl td_M_bridge_54 ?_
                refine tz_if_le C_ td_M_bridge_55 (fun h55 => ?_) (fun h55 => ?_)
                · skip
                  replace h55 := (nI_leI (a := i) (b := 0) (by omega) (by omega)).mp h55
                  refine tz_iload_n C_ 3 rfl rfl td_M_bridge_164 ?_
                  refine tz_istore_n C_ (lv' := [(0, .ref M), (1, .int v), (2, .int (nI ge)), (3, .int (nI ge))]) [1, 2, 0, 3] rfl (by decide) rfl td_M_bridge_165 ?_
                  refine tz_goto C_ td_M_bridge_166 ?_
                  refine tz_lvs [0, 1, 2] rfl ?_
                  exact ih2 roL maL ge fL (⟨hM1.1, hM1.2.1, hM1.2.2.1, hM1.2.2.2.1, hM1.2.2.2.2.1, hM1.2.2.2.2.2.1, hM1.2.2.2.2.2.2.1, hM1.2.2.2.2.2.2.2.1, hM1.2.2.2.2.2.2.2.2⟩) (fun q hh => by rw [hfr q (by omega)]) (by omega) (fun a b => hend.elim (fun z => by omega) (fun z => absurd b z)) (⟨fun j hj => by
                        by_cases e1 : j < i
                        · exact hro.1 j e1
                        · rw [hro.2 j (by omega) (by omega), hr j (by omega), tz_br_gap hn hJi hge hend hgap (by omega) hj, if_neg (fun z => by omega), hgap j (by omega) hj], fun j a b => hro.2 j (by omega) b⟩) (by omega)
                · skip
                  replace h55 := mt (nI_leI (a := i) (b := 0) (by omega) (by omega)).mpr h55
                  refine tz_iload_n C_ 3 rfl rfl td_M_bridge_58 ?_
                  refine tz_aload_n C_ 0 rfl rfl td_M_bridge_59 ?_
                  refine tz_get C_ tci_M 7 (by decide) tw_760 hM1.1 rfl td_M_bridge_60 ?_
                  refine tz_icmp_ge C_ td_M_bridge_63 (fun h63 => ?_) (fun h63 => ?_)
                  · skip
                    replace h63 := (nI_leI (a := n) (b := ge) (by omega) (by omega)).mp h63
                    refine tz_iload_n C_ 3 rfl rfl td_M_bridge_164 ?_
                    refine tz_istore_n C_ (lv' := [(0, .ref M), (1, .int v), (2, .int (nI ge)), (3, .int (nI ge))]) [1, 2, 0, 3] rfl (by decide) rfl td_M_bridge_165 ?_
                    refine tz_goto C_ td_M_bridge_166 ?_
                    refine tz_lvs [0, 1, 2] rfl ?_
                    exact ih2 roL maL ge fL (⟨hM1.1, hM1.2.1, hM1.2.2.1, hM1.2.2.2.1, hM1.2.2.2.2.1, hM1.2.2.2.2.2.1, hM1.2.2.2.2.2.2.1, hM1.2.2.2.2.2.2.2.1, hM1.2.2.2.2.2.2.2.2⟩) (fun q hh => by rw [hfr q (by omega)]) (by omega) (fun a b => hend.elim (fun z => by omega) (fun z => absurd b z)) (⟨fun j hj => by
                          by_cases e1 : j < i
                          · exact hro.1 j e1
                          · rw [hro.2 j (by omega) (by omega), hr j (by omega), tz_br_gap hn hJi hge hend hgap (by omega) hj, if_neg (fun z => by omega), hgap j (by omega) hj], fun j a b => hro.2 j (by omega) b⟩) (by omega)
                  · skip
                    replace h63 := mt (nI_leI (a := n) (b := ge) (by omega) (by omega)).mpr h63
                    refine tz_iload_n C_ 3 rfl rfl td_M_bridge_66 ?_
                    refine tz_iload_n C_ 2 rfl rfl td_M_bridge_67 ?_
                    refine tz_isub C_ td_M_bridge_68 ?_
                    rw [show ((nI ge) - (nI i) : Int32) = nI (ge - i) from pk_sub (a := ge) (b := i) (by omega)]
                    refine tz_iload_n C_ 1 rfl rfl td_M_bridge_69 ?_
                    refine tz_icmp_gt C_ td_M_bridge_70 (fun h70 => ?_) (fun h70 => ?_)
                    · skip
                      refine tz_iload_n C_ 3 rfl rfl td_M_bridge_164 ?_
                      refine tz_istore_n C_ (lv' := [(0, .ref M), (1, .int v), (2, .int (nI ge)), (3, .int (nI ge))]) [1, 2, 0, 3] rfl (by decide) rfl td_M_bridge_165 ?_
                      refine tz_goto C_ td_M_bridge_166 ?_
                      refine tz_lvs [0, 1, 2] rfl ?_
                      exact ih2 roL maL ge fL (⟨hM1.1, hM1.2.1, hM1.2.2.1, hM1.2.2.2.1, hM1.2.2.2.2.1, hM1.2.2.2.2.2.1, hM1.2.2.2.2.2.2.1, hM1.2.2.2.2.2.2.2.1, hM1.2.2.2.2.2.2.2.2⟩) (fun q hh => by rw [hfr q (by omega)]) (by omega) (fun a b => hend.elim (fun z => by omega) (fun z => absurd b z)) (⟨fun j hj => by
                            by_cases e1 : j < i
                            · exact hro.1 j e1
                            · rw [hro.2 j (by omega) (by omega), hr j (by omega), tz_br_gap hn hJi hge hend hgap (by omega) hj, if_neg (fun z => absurd h70 (Int32.not_lt.mpr z.2.2)), hgap j (by omega) hj], fun j a b => hro.2 j (by omega) b⟩) (by omega)
                    · skip
                      have hl1 : ¬ g (i - 1) = tz_LO := hJi.elim (fun z => by omega) id
                      have hl2 : ¬ g ge = tz_LO := hend.elim (fun z => by omega) id
                      have hval : ∀ m, i ≤ m → m < ge → roL (i - 1) + tz_fd ((nI m - nI (i - 1)) * (roL ge - roL (i - 1))) (nI ge - nI (i - 1)) = tz_mo (tz_br n g v m) := by
                        intro m a b
                        rw [hro.1 (i - 1) (by omega), tz_br_keep hl1, tz_mo_id hl1, hro.2 ge (by omega) (by omega), tz_er_v hr (by omega) hl2, tz_br_gap hn hJi hge hend hgap a b, if_pos ⟨by omega, by omega, Int32.not_lt.mp h70⟩]
                        have h9 := tz_spv_rg hk hl1 hl2 (show i - 1 ≤ m by omega) (show m ≤ ge by omega) (by omega) (by omega) hn
                        rw [tz_mo_id h9.2]; rfl
                      refine tz_iload_n C_ 2 rfl rfl td_M_bridge_73 ?_
                      refine tz_iconst C_ (v := 1) (by decide) td_M_bridge_74 ?_
                      refine tz_isub C_ td_M_bridge_75 ?_
                      rw [show ((nI i) - 1 : Int32) = nI (i - 1) from pk_sub (a := i) (b := 1) (by omega)]
                      refine tz_istore C_ (lv' := [(0, .ref M), (1, .int v), (2, .int (nI i)), (3, .int (nI ge)), (4, .int (nI (i - 1)))]) [1, 2, 3, 4, 0] (by decide) rfl td_M_bridge_76 ?_
                      refine tz_iload_n C_ 2 rfl rfl td_M_bridge_78 ?_
                      refine tz_istore C_ (lv' := [(0, .ref M), (1, .int v), (2, .int (nI i)), (3, .int (nI ge)), (4, .int (nI (i - 1))), (5, .int (nI i))]) [1, 2, 3, 4, 5, 0] (by decide) rfl td_M_bridge_79 ?_
                      have loop81 : ∀ (kk81 : Nat) (ma2 : Nat → Int32) (m : Nat) (fA : tz_PH), (tz_MB cs fA M kp fn (nI n) ns tg nw pa bi nu sh roL ma2 ca) → (∀ q, (q < M ∨ M + 9 ≤ q) → fA q = f q) → (i ≤ m ∧ m ≤ ge) → (∀ j, i ≤ j → j < m → ma2 j = tz_mo (tz_br n g v j)) → (ge - m) < kk81 → tz_V p_ l e_ rm_M_bridge s_ m_ ar_ be_ me_ c_ Q_ A D 6 fA sz 0 0 81 [(0, .ref M), (1, .int v), (2, .int (nI i)), (3, .int (nI ge)), (4, .int (nI (i - 1))), (5, .int (nI m))] [] := by
                        intro kk81
                        induction kk81 with
                        | zero => intro ma2 m fA hM2 hfr hm hma hm81; omega
                        | succ kk81 ih81 =>
                          intro ma2 m fA hM2 hfr hm hma hm81
                          refine tz_iload C_ 5 rfl td_M_bridge_81 ?_
                          refine tz_iload_n C_ 3 rfl rfl td_M_bridge_83 ?_
                          refine tz_icmp_ge C_ td_M_bridge_84 (fun h84 => ?_) (fun h84 => ?_)
                          · skip
                            replace h84 := (nI_leI (a := ge) (b := m) (by omega) (by omega)).mp h84
                            refine tz_iload_n C_ 2 rfl rfl td_M_bridge_135 ?_
                            refine tz_istore C_ (lv' := [(0, .ref M), (1, .int v), (2, .int (nI i)), (3, .int (nI ge)), (4, .int (nI (i - 1))), (5, .int (nI i))]) [1, 2, 3, 4, 5, 0] (by decide) rfl td_M_bridge_136 ?_
                            have loop138 : ∀ (kk138 : Nat) (ro3 : Nat → Int32) (m3 : Nat) (fB : tz_PH), (tz_MB cs fB M kp fn (nI n) ns tg nw pa bi nu sh ro3 ma2 ca) → (∀ q, (q < M ∨ M + 9 ≤ q) → fB q = f q) → (i ≤ m3 ∧ m3 ≤ ge) → ((∀ j, j < m3 → ro3 j = tz_mo (tz_br n g v j)) ∧ ∀ j, m3 ≤ j → j < n → ro3 j = ro j) → (ge - m3) < kk138 → tz_V p_ l e_ rm_M_bridge s_ m_ ar_ be_ me_ c_ Q_ A D 6 fB sz 0 0 138 [(0, .ref M), (1, .int v), (2, .int (nI i)), (3, .int (nI ge)), (4, .int (nI (i - 1))), (5, .int (nI m3))] [] := by
                              intro kk138
                              induction kk138 with
                              | zero => intro ro3 m3 fB hM3 hfr hm3 hro3m hm138; omega
                              | succ kk138 ih138 =>
                                intro ro3 m3 fB hM3 hfr hm3 hro3m hm138
                                refine tz_iload C_ 5 rfl td_M_bridge_138 ?_
                                refine tz_iload_n C_ 3 rfl rfl td_M_bridge_140 ?_
                                refine tz_icmp_ge C_ td_M_bridge_141 (fun h141 => ?_) (fun h141 => ?_)
                                · skip
                                  replace h141 := (nI_leI (a := ge) (b := m3) (by omega) (by omega)).mp h141
                                  have hro3 : (∀ j, j < ge → ro3 j = tz_mo (tz_br n g v j)) ∧ ∀ j, ge ≤ j → j < n → ro3 j = ro j := by
                                    have e8 : m3 = ge := by omega
                                    rw [e8] at hro3m; exact hro3m
                                  refine tz_iload_n C_ 3 rfl rfl td_M_bridge_164 ?_
                                  refine tz_istore_n C_ (lv' := [(0, .ref M), (1, .int v), (2, .int (nI ge)), (3, .int (nI ge)), (4, .int (nI (i - 1))), (5, .int (nI m3))]) [1, 2, 0, 3, 4, 5] rfl (by decide) rfl td_M_bridge_165 ?_
                                  refine tz_goto C_ td_M_bridge_166 ?_
                                  refine tz_lvs [0, 1, 2] rfl ?_
                                  exact ih2 ro3 ma2 ge fB (⟨hM3.1, hM3.2.1, hM3.2.2.1, hM3.2.2.2.1, hM3.2.2.2.2.1, hM3.2.2.2.2.2.1, hM3.2.2.2.2.2.2.1, hM3.2.2.2.2.2.2.2.1, hM3.2.2.2.2.2.2.2.2⟩) (fun q hh => by rw [hfr q (by omega)]) (by omega) (fun a b => hend.elim (fun z => by omega) (fun z => absurd b z)) hro3 (by omega)
                                · skip
                                  replace h141 := mt (nI_leI (a := ge) (b := m3) (by omega) (by omega)).mpr h141
                                  refine tz_aload_n C_ 0 rfl rfl td_M_bridge_144 ?_
                                  refine tz_get C_ tci_M 8 (by decide) tw_761 hM3.1 rfl td_M_bridge_145 ?_
                                  refine tz_iload C_ 5 rfl td_M_bridge_148 ?_
                                  refine tz_aload_n C_ 0 rfl rfl td_M_bridge_150 ?_
                                  refine tz_get C_ tci_M 10 (by decide) tw_763 hM3.1 rfl td_M_bridge_151 ?_
                                  refine tz_iload C_ 5 rfl td_M_bridge_154 ?_
                                  refine tz_ialdN C_ hM3.2.2.2.2.2.2.2.1 (by omega) (by decide) td_M_bridge_156 ?_
                                  refine tz_wiastN C_ hM3.2.2.2.2.2.2.1 (by omega) (by decide) (g' := upd ro3 m3 (ma2 m3)) rfl td_M_bridge_157 (fun f1 hs1 hq1 => ?_)
                                  refine tz_iinc C_ (k := 1) (v := nI (m3 + 1)) (lv' := [(0, .ref M), (1, .int v), (2, .int (nI i)), (3, .int (nI ge)), (4, .int (nI (i - 1))), (5, .int (nI (m3 + 1)))]) 5 rfl (nI_1 m3) [1, 2, 3, 4, 5, 0] (by decide) rfl td_M_bridge_158 ?_
                                  refine tz_goto C_ td_M_bridge_161 ?_
                                  have k2 : f1 M = some (tz_obj 11 [.ref (M + 1), .ref (M + 2), .int (nI kp), .int fn, .ref (M + 3), .ref (M + 4), .ref (M + 5), .int (nI n), .ref (M + 6), .int ns, .ref (M + 7), .ref (M + 8), .int tg]) := ((hq1 _ (by omega)).trans hM3.1)
                                  have k3 : f1 (M + 1) = some (tz_ints cs 532 nw) := ((hq1 _ (by omega)).trans hM3.2.1)
                                  have k4 : f1 (M + 2) = some (tz_ints cs 10640 pa) := ((hq1 _ (by omega)).trans hM3.2.2.1)
                                  have k5 : f1 (M + 3) = some (tz_ints cs 4 bi) := ((hq1 _ (by omega)).trans hM3.2.2.2.1)
                                  have k6 : f1 (M + 4) = some (tz_ints cs 4 nu) := ((hq1 _ (by omega)).trans hM3.2.2.2.2.1)
                                  have k7 : f1 (M + 5) = some (tz_ints cs 480 sh) := ((hq1 _ (by omega)).trans hM3.2.2.2.2.2.1)
                                  have k8 : f1 (M + 7) = some (tz_ints cs 120 ma2) := ((hq1 _ (by omega)).trans hM3.2.2.2.2.2.2.2.1)
                                  have k9 : f1 (M + 8) = some (tz_ints cs 120 ca) := ((hq1 _ (by omega)).trans hM3.2.2.2.2.2.2.2.2)
                                  exact ih138 (upd ro3 m3 (ma2 m3)) (m3 + 1) f1 (⟨k2, k3, k4, k5, k6, k7, hs1, k8, k9⟩) (fun q hh => by rw [hq1 q (by omega), hfr q (by omega)]) (by omega) (⟨fun j hj => by
                                        simp only [upd]
                                        by_cases e1 : j = m3
                                        · rw [if_pos e1, e1]; exact hma m3 (by omega) (by omega)
                                        · rw [if_neg e1]; exact hro3m.1 j (by omega), fun j a b => by
                                        simp only [upd]
                                        rw [if_neg (by omega)]; exact hro3m.2 j (by omega) b⟩) (by omega)
                            exact loop138 _ roL i fA (⟨hM2.1, hM2.2.1, hM2.2.2.1, hM2.2.2.2.1, hM2.2.2.2.2.1, hM2.2.2.2.2.2.1, hM2.2.2.2.2.2.2.1, hM2.2.2.2.2.2.2.2.1, hM2.2.2.2.2.2.2.2.2⟩) (fun q hh => by rw [hfr q (by omega)]) (⟨Nat.le_refl _, hie⟩) hro (Nat.lt_succ_self _)
                          · skip
                            replace h84 := mt (nI_leI (a := ge) (b := m) (by omega) (by omega)).mpr h84
                            refine tz_aload_n C_ 0 rfl rfl td_M_bridge_87 ?_
                            refine tz_get C_ tci_M 10 (by decide) tw_763 hM2.1 rfl td_M_bridge_88 ?_
                            refine tz_iload C_ 5 rfl td_M_bridge_91 ?_
                            refine tz_aload_n C_ 0 rfl rfl td_M_bridge_93 ?_
                            refine tz_get C_ tci_M 8 (by decide) tw_761 hM2.1 rfl td_M_bridge_94 ?_
                            refine tz_iload C_ 4 rfl td_M_bridge_97 ?_
                            refine tz_ialdN C_ hM2.2.2.2.2.2.2.1 (by omega) (by decide) td_M_bridge_99 ?_
                            refine tz_iload C_ 5 rfl td_M_bridge_100 ?_
                            refine tz_iload C_ 4 rfl td_M_bridge_102 ?_
                            refine tz_isub C_ td_M_bridge_104 ?_
                            refine tz_aload_n C_ 0 rfl rfl td_M_bridge_105 ?_
                            refine tz_get C_ tci_M 8 (by decide) tw_761 hM2.1 rfl td_M_bridge_106 ?_
                            refine tz_iload_n C_ 3 rfl rfl td_M_bridge_109 ?_
                            refine tz_ialdN C_ hM2.2.2.2.2.2.2.1 (by omega) (by decide) td_M_bridge_110 ?_
                            refine tz_aload_n C_ 0 rfl rfl td_M_bridge_111 ?_
                            refine tz_get C_ tci_M 8 (by decide) tw_761 hM2.1 rfl td_M_bridge_112 ?_
                            refine tz_iload C_ 4 rfl td_M_bridge_115 ?_
                            refine tz_ialdN C_ hM2.2.2.2.2.2.2.1 (by omega) (by decide) td_M_bridge_117 ?_
                            refine tz_isub C_ td_M_bridge_118 ?_
                            refine tz_imul C_ td_M_bridge_119 ?_
                            refine tz_iload_n C_ 3 rfl rfl td_M_bridge_120 ?_
                            refine tz_iload C_ 4 rfl td_M_bridge_121 ?_
                            refine tz_isub C_ td_M_bridge_123 ?_
                            refine tz_rS C_ tmi_J_floorDiv tw_618 tw_989 (As := [.int (((nI m) - (nI (i - 1))) * ((roL ge) - (roL ((i - 1))))), .int ((nI ge) - (nI (i - 1)))]) (by exact (ct_J_floorDiv (tz_fdne (by omega) (by omega)))) rfl (rest := [.int (roL ((i - 1))), .int (nI m), .ref (M + 7)]) rfl (by decide) (Nat.le_of_ble_eq_true rfl) td_M_bridge_124 (st1 := [.int (tz_fd (((nI m) - (nI (i - 1))) * ((roL ge) - (roL ((i - 1))))) ((nI ge) - (nI (i - 1)))), .int (roL ((i - 1))), .int (nI m), .ref (M + 7)]) rfl ?_
                            refine tz_iadd C_ td_M_bridge_127 ?_
                            refine tz_wiastN C_ hM2.2.2.2.2.2.2.2.1 (by omega) (by decide) (g' := upd ma2 m ((roL ((i - 1))) + (tz_fd (((nI m) - (nI (i - 1))) * ((roL ge) - (roL ((i - 1))))) ((nI ge) - (nI (i - 1)))))) rfl td_M_bridge_128 (fun f10 hs10 hq10 => ?_)
                            refine tz_iinc C_ (k := 1) (v := nI (m + 1)) (lv' := [(0, .ref M), (1, .int v), (2, .int (nI i)), (3, .int (nI ge)), (4, .int (nI (i - 1))), (5, .int (nI (m + 1)))]) 5 rfl (nI_1 m) [1, 2, 3, 4, 5, 0] (by decide) rfl td_M_bridge_129 ?_
                            refine tz_goto C_ td_M_bridge_132 ?_
                            have k11 : f10 M = some (tz_obj 11 [.ref (M + 1), .ref (M + 2), .int (nI kp), .int fn, .ref (M + 3), .ref (M + 4), .ref (M + 5), .int (nI n), .ref (M + 6), .int ns, .ref (M + 7), .ref (M + 8), .int tg]) := ((hq10 _ (by omega)).trans hM2.1)
                            have k12 : f10 (M + 1) = some (tz_ints cs 532 nw) := ((hq10 _ (by omega)).trans hM2.2.1)
                            have k13 : f10 (M + 2) = some (tz_ints cs 10640 pa) := ((hq10 _ (by omega)).trans hM2.2.2.1)
                            have k14 : f10 (M + 3) = some (tz_ints cs 4 bi) := ((hq10 _ (by omega)).trans hM2.2.2.2.1)
                            have k15 : f10 (M + 4) = some (tz_ints cs 4 nu) := ((hq10 _ (by omega)).trans hM2.2.2.2.2.1)
                            have k16 : f10 (M + 5) = some (tz_ints cs 480 sh) := ((hq10 _ (by omega)).trans hM2.2.2.2.2.2.1)
                            have k17 : f10 (M + 6) = some (tz_ints cs 120 roL) := ((hq10 _ (by omega)).trans hM2.2.2.2.2.2.2.1)
                            have k18 : f10 (M + 8) = some (tz_ints cs 120 ca) := ((hq10 _ (by omega)).trans hM2.2.2.2.2.2.2.2.2)
                            exact ih81 (upd ma2 m ((roL ((i - 1))) + (tz_fd (((nI m) - (nI (i - 1))) * ((roL ge) - (roL ((i - 1))))) ((nI ge) - (nI (i - 1)))))) (m + 1) f10 (⟨k11, k12, k13, k14, k15, k16, k17, hs10, k18⟩) (fun q hh => by rw [hq10 q (by omega), hfr q (by omega)]) (by omega) (fun j a b => by
                                  simp only [upd]
                                  by_cases e1 : j = m
                                  · rw [if_pos e1, e1]; exact hval m (by omega) (by omega)
                                  · rw [if_neg e1]; exact hma j a (by omega)) (by omega)
                      exact loop81 _ maL i fL (⟨hM1.1, hM1.2.1, hM1.2.2.1, hM1.2.2.2.1, hM1.2.2.2.2.1, hM1.2.2.2.2.2.1, hM1.2.2.2.2.2.2.1, hM1.2.2.2.2.2.2.2.1, hM1.2.2.2.2.2.2.2.2⟩) (fun q hh => by rw [hfr q (by omega)]) (⟨Nat.le_refl _, hie⟩) (fun j a b => by omega) (Nat.lt_succ_self _)
              · skip
                replace h34 := mt (nI_leI (a := n) (b := ge) (by omega) (by omega)).mpr h34
                refine tz_aload_n C_ 0 rfl rfl td_M_bridge_37 ?_
                refine tz_get C_ tci_M 8 (by decide) tw_761 hM1.1 rfl td_M_bridge_38 ?_
                refine tz_iload_n C_ 3 rfl rfl td_M_bridge_41 ?_
                refine tz_ialdN C_ hM1.2.2.2.2.2.2.1 (by omega) (by decide) td_M_bridge_42 ?_
                refine tz_ldc C_ tw_829 td_M_bridge_43 ?_
                refine tz_icmp_ne C_ td_M_bridge_45 (fun h45 => ?_) (fun h45 => ?_)
                · skip
                  have hnge : ¬ g ge = tz_LO := by
                    rw [hro.2 ge (by omega) (by omega)] at h45
                    exact mt (tz_er_lo hr hk (by omega)).mpr h45
                  have hend : ge = n ∨ ¬ g ge = tz_LO := Or.inr hnge
                  have hlt : i < ge := Nat.lt_of_le_of_ne hie (fun z => hnge (z ▸ hli))
                  refine tz_iload_n C_ 2 rfl rfl td_M_bridge_54 ?_
                  refine tz_if_le C_ td_M_bridge_55 (fun h55 => ?_) (fun h55 => ?_)
                  · skip
                    replace h55 := (nI_leI (a := i) (b := 0) (by omega) (by omega)).mp h55
                    refine tz_iload_n C_ 3 rfl rfl td_M_bridge_164 ?_
                    refine tz_istore_n C_ (lv' := [(0, .ref M), (1, .int v), (2, .int (nI ge)), (3, .int (nI ge))]) [1, 2, 0, 3] rfl (by decide) rfl td_M_bridge_165 ?_
                    refine tz_goto C_ td_M_bridge_166 ?_
                    refine tz_lvs [0, 1, 2] rfl ?_
                    exact ih2 roL maL ge fL (⟨hM1.1, hM1.2.1, hM1.2.2.1, hM1.2.2.2.1, hM1.2.2.2.2.1, hM1.2.2.2.2.2.1, hM1.2.2.2.2.2.2.1, hM1.2.2.2.2.2.2.2.1, hM1.2.2.2.2.2.2.2.2⟩) (fun q hh => by rw [hfr q (by omega)]) (by omega) (fun a b => hend.elim (fun z => by omega) (fun z => absurd b z)) (⟨fun j hj => by
                          by_cases e1 : j < i
                          · exact hro.1 j e1
                          · rw [hro.2 j (by omega) (by omega), hr j (by omega), tz_br_gap hn hJi hge hend hgap (by omega) hj, if_neg (fun z => by omega), hgap j (by omega) hj], fun j a b => hro.2 j (by omega) b⟩) (by omega)
                  · skip
                    replace h55 := mt (nI_leI (a := i) (b := 0) (by omega) (by omega)).mpr h55
                    refine tz_iload_n C_ 3 rfl rfl td_M_bridge_58 ?_
                    refine tz_aload_n C_ 0 rfl rfl td_M_bridge_59 ?_
                    refine tz_get C_ tci_M 7 (by decide) tw_760 hM1.1 rfl td_M_bridge_60 ?_
                    refine tz_icmp_ge C_ td_M_bridge_63 (fun h63 => ?_) (fun h63 => ?_)
                    · skip
                      replace h63 := (nI_leI (a := n) (b := ge) (by omega) (by omega)).mp h63
                      refine tz_iload_n C_ 3 rfl rfl td_M_bridge_164 ?_
                      refine tz_istore_n C_ (lv' := [(0, .ref M), (1, .int v), (2, .int (nI ge)), (3, .int (nI ge))]) [1, 2, 0, 3] rfl (by decide) rfl td_M_bridge_165 ?_
                      refine tz_goto C_ td_M_bridge_166 ?_
                      refine tz_lvs [0, 1, 2] rfl ?_
                      exact ih2 roL maL ge fL (⟨hM1.1, hM1.2.1, hM1.2.2.1, hM1.2.2.2.1, hM1.2.2.2.2.1, hM1.2.2.2.2.2.1, hM1.2.2.2.2.2.2.1, hM1.2.2.2.2.2.2.2.1, hM1.2.2.2.2.2.2.2.2⟩) (fun q hh => by rw [hfr q (by omega)]) (by omega) (fun a b => hend.elim (fun z => by omega) (fun z => absurd b z)) (⟨fun j hj => by
                            by_cases e1 : j < i
                            · exact hro.1 j e1
                            · rw [hro.2 j (by omega) (by omega), hr j (by omega), tz_br_gap hn hJi hge hend hgap (by omega) hj, if_neg (fun z => by omega), hgap j (by omega) hj], fun j a b => hro.2 j (by omega) b⟩) (by omega)
                    · skip
                      replace h63 := mt (nI_leI (a := n) (b := ge) (by omega) (by omega)).mpr h63
                      refine tz_iload_n C_ 3 rfl rfl td_M_bridge_66 ?_
                      refine tz_iload_n C_ 2 rfl rfl td_M_bridge_67 ?_
                      refine tz_isub C_ td_M_bridge_68 ?_
                      rw [show ((nI ge) - (nI i) : Int32) = nI (ge - i) from pk_sub (a := ge) (b := i) (by omega)]
                      refine tz_iload_n C_ 1 rfl rfl td_M_bridge_69 ?_
                      refine tz_icmp_gt C_ td_M_bridge_70 (fun h70 => ?_) (fun h70 => ?_)
                      · skip
                        refine tz_iload_n C_ 3 rfl rfl td_M_bridge_164 ?_
                        refine tz_istore_n C_ (lv' := [(0, .ref M), (1, .int v), (2, .int (nI ge)), (3, .int (nI ge))]) [1, 2, 0, 3] rfl (by decide) rfl td_M_bridge_165 ?_
                        refine tz_goto C_ td_M_bridge_166 ?_
                        refine tz_lvs [0, 1, 2] rfl ?_
                        exact ih2 roL maL ge fL (⟨hM1.1, hM1.2.1, hM1.2.2.1, hM1.2.2.2.1, hM1.2.2.2.2.1, hM1.2.2.2.2.2.1, hM1.2.2.2.2.2.2.1, hM1.2.2.2.2.2.2.2.1, hM1.2.2.2.2.2.2.2.2⟩) (fun q hh => by rw [hfr q (by omega)]) (by omega) (fun a b => hend.elim (fun z => by omega) (fun z => absurd b z)) (⟨fun j hj => by
                              by_cases e1 : j < i
                              · exact hro.1 j e1
                              · rw [hro.2 j (by omega) (by omega), hr j (by omega), tz_br_gap hn hJi hge hend hgap (by omega) hj, if_neg (fun z => absurd h70 (Int32.not_lt.mpr z.2.2)), hgap j (by omega) hj], fun j a b => hro.2 j (by omega) b⟩) (by omega)
                      · skip
                        have hl1 : ¬ g (i - 1) = tz_LO := hJi.elim (fun z => by omega) id
                        have hl2 : ¬ g ge = tz_LO := hend.elim (fun z => by omega) id
                        have hval : ∀ m, i ≤ m → m < ge → roL (i - 1) + tz_fd ((nI m - nI (i - 1)) * (roL ge - roL (i - 1))) (nI ge - nI (i - 1)) = tz_mo (tz_br n g v m) := by
                          intro m a b
                          rw [hro.1 (i - 1) (by omega), tz_br_keep hl1, tz_mo_id hl1, hro.2 ge (by omega) (by omega), tz_er_v hr (by omega) hl2, tz_br_gap hn hJi hge hend hgap a b, if_pos ⟨by omega, by omega, Int32.not_lt.mp h70⟩]
                          have h9 := tz_spv_rg hk hl1 hl2 (show i - 1 ≤ m by omega) (show m ≤ ge by omega) (by omega) (by omega) hn
                          rw [tz_mo_id h9.2]; rfl
                        refine tz_iload_n C_ 2 rfl rfl td_M_bridge_73 ?_
                        refine tz_iconst C_ (v := 1) (by decide) td_M_bridge_74 ?_
                        refine tz_isub C_ td_M_bridge_75 ?_
                        rw [show ((nI i) - 1 : Int32) = nI (i - 1) from pk_sub (a := i) (b := 1) (by omega)]
                        refine tz_istore C_ (lv' := [(0, .ref M), (1, .int v), (2, .int (nI i)), (3, .int (nI ge)), (4, .int (nI (i - 1)))]) [1, 2, 3, 4, 0] (by decide) rfl td_M_bridge_76 ?_
                        refine tz_iload_n C_ 2 rfl rfl td_M_bridge_78 ?_
                        refine tz_istore C_ (lv' := [(0, .ref M), (1, .int v), (2, .int (nI i)), (3, .int (nI ge)), (4, .int (nI (i - 1))), (5, .int (nI i))]) [1, 2, 3, 4, 5, 0] (by decide) rfl td_M_bridge_79 ?_
                        have loop81 : ∀ (kk81 : Nat) (ma2 : Nat → Int32) (m : Nat) (fA : tz_PH), (tz_MB cs fA M kp fn (nI n) ns tg nw pa bi nu sh roL ma2 ca) → (∀ q, (q < M ∨ M + 9 ≤ q) → fA q = f q) → (i ≤ m ∧ m ≤ ge) → (∀ j, i ≤ j → j < m → ma2 j = tz_mo (tz_br n g v j)) → (ge - m) < kk81 → tz_V p_ l e_ rm_M_bridge s_ m_ ar_ be_ me_ c_ Q_ A D 6 fA sz 0 0 81 [(0, .ref M), (1, .int v), (2, .int (nI i)), (3, .int (nI ge)), (4, .int (nI (i - 1))), (5, .int (nI m))] [] := by
                          intro kk81
                          induction kk81 with
                          | zero => intro ma2 m fA hM2 hfr hm hma hm81; omega
                          | succ kk81 ih81 =>
                            intro ma2 m fA hM2 hfr hm hma hm81
                            refine tz_iload C_ 5 rfl td_M_bridge_81 ?_
                            refine tz_iload_n C_ 3 rfl rfl td_M_bridge_83 ?_
                            refine tz_icmp_ge C_ td_M_bridge_84 (fun h84 => ?_) (fun h84 => ?_)
                            · skip
                              replace h84 := (nI_leI (a := ge) (b := m) (by omega) (by omega)).mp h84
                              refine tz_iload_n C_ 2 rfl rfl td_M_bridge_135 ?_
                              refine tz_istore C_ (lv' := [(0, .ref M), (1, .int v), (2, .int (nI i)), (3, .int (nI ge)), (4, .int (nI (i - 1))), (5, .int (nI i))]) [1, 2, 3, 4, 5, 0] (by decide) rfl td_M_bridge_136 ?_
                              have loop138 : ∀ (kk138 : Nat) (ro3 : Nat → Int32) (m3 : Nat) (fB : tz_PH), (tz_MB cs fB M kp fn (nI n) ns tg nw pa bi nu sh ro3 ma2 ca) → (∀ q, (q < M ∨ M + 9 ≤ q) → fB q = f q) → (i ≤ m3 ∧ m3 ≤ ge) → ((∀ j, j < m3 → ro3 j = tz_mo (tz_br n g v j)) ∧ ∀ j, m3 ≤ j → j < n → ro3 j = ro j) → (ge - m3) < kk138 → tz_V p_ l e_ rm_M_bridge s_ m_ ar_ be_ me_ c_ Q_ A D 6 fB sz 0 0 138 [(0, .ref M), (1, .int v), (2, .int (nI i)), (3, .int (nI ge)), (4, .int (nI (i - 1))), (5, .int (nI m3))] [] := by
                                intro kk138
                                induction kk138 with
                                | zero => intro ro3 m3 fB hM3 hfr hm3 hro3m hm138; omega
                                | succ kk138 ih138 =>
                                  intro ro3 m3 fB hM3 hfr hm3 hro3m hm138
                                  refine tz_iload C_ 5 rfl td_M_bridge_138 ?_
                                  refine tz_iload_n C_ 3 rfl rfl td_M_bridge_140 ?_
                                  refine tz_icmp_ge C_ td_M_bridge_141 (fun h141 => ?_) (fun h141 => ?_)
                                  · skip
                                    replace h141 := (nI_leI (a := ge) (b := m3) (by omega) (by omega)).mp h141
                                    have hro3 : (∀ j, j < ge → ro3 j = tz_mo (tz_br n g v j)) ∧ ∀ j, ge ≤ j → j < n → ro3 j = ro j := by
                                      have e8 : m3 = ge := by omega
                                      rw [e8] at hro3m; exact hro3m
                                    refine tz_iload_n C_ 3 rfl rfl td_M_bridge_164 ?_
                                    refine tz_istore_n C_ (lv' := [(0, .ref M), (1, .int v), (2, .int (nI ge)), (3, .int (nI ge)), (4, .int (nI (i - 1))), (5, .int (nI m3))]) [1, 2, 0, 3, 4, 5] rfl (by decide) rfl td_M_bridge_165 ?_
                                    refine tz_goto C_ td_M_bridge_166 ?_
                                    refine tz_lvs [0, 1, 2] rfl ?_
                                    exact ih2 ro3 ma2 ge fB (⟨hM3.1, hM3.2.1, hM3.2.2.1, hM3.2.2.2.1, hM3.2.2.2.2.1, hM3.2.2.2.2.2.1, hM3.2.2.2.2.2.2.1, hM3.2.2.2.2.2.2.2.1, hM3.2.2.2.2.2.2.2.2⟩) (fun q hh => by rw [hfr q (by omega)]) (by omega) (fun a b => hend.elim (fun z => by omega) (fun z => absurd b z)) hro3 (by omega)
                                  · skip
                                    replace h141 := mt (nI_leI (a := ge) (b := m3) (by omega) (by omega)).mpr h141
                                    refine tz_aload_n C_ 0 rfl rfl td_M_bridge_144 ?_
                                    refine tz_get C_ tci_M 8 (by decide) tw_761 hM3.1 rfl td_M_bridge_145 ?_
                                    refine tz_iload C_ 5 rfl td_M_bridge_148 ?_
                                    refine tz_aload_n C_ 0 rfl rfl td_M_bridge_150 ?_
                                    refine tz_get C_ tci_M 10 (by decide) tw_763 hM3.1 rfl td_M_bridge_151 ?_
                                    refine tz_iload C_ 5 rfl td_M_bridge_154 ?_
                                    refine tz_ialdN C_ hM3.2.2.2.2.2.2.2.1 (by omega) (by decide) td_M_bridge_156 ?_
                                    refine tz_wiastN C_ hM3.2.2.2.2.2.2.1 (by omega) (by decide) (g' := upd ro3 m3 (ma2 m3)) rfl td_M_bridge_157 (fun f19 hs19 hq19 => ?_)
                                    refine tz_iinc C_ (k := 1) (v := nI (m3 + 1)) (lv' := [(0, .ref M), (1, .int v), (2, .int (nI i)), (3, .int (nI ge)), (4, .int (nI (i - 1))), (5, .int (nI (m3 + 1)))]) 5 rfl (nI_1 m3) [1, 2, 3, 4, 5, 0] (by decide) rfl td_M_bridge_158 ?_
                                    refine tz_goto C_ td_M_bridge_161 ?_
                                    have k20 : f19 M = some (tz_obj 11 [.ref (M + 1), .ref (M + 2), .int (nI kp), .int fn, .ref (M + 3), .ref (M + 4), .ref (M + 5), .int (nI n), .ref (M + 6), .int ns, .ref (M + 7), .ref (M + 8), .int tg]) := ((hq19 _ (by omega)).trans hM3.1)
                                    have k21 : f19 (M + 1) = some (tz_ints cs 532 nw) := ((hq19 _ (by omega)).trans hM3.2.1)
                                    have k22 : f19 (M + 2) = some (tz_ints cs 10640 pa) := ((hq19 _ (by omega)).trans hM3.2.2.1)
                                    have k23 : f19 (M + 3) = some (tz_ints cs 4 bi) := ((hq19 _ (by omega)).trans hM3.2.2.2.1)
                                    have k24 : f19 (M + 4) = some (tz_ints cs 4 nu) := ((hq19 _ (by omega)).trans hM3.2.2.2.2.1)
                                    have k25 : f19 (M + 5) = some (tz_ints cs 480 sh) := ((hq19 _ (by omega)).trans hM3.2.2.2.2.2.1)
                                    have k26 : f19 (M + 7) = some (tz_ints cs 120 ma2) := ((hq19 _ (by omega)).trans hM3.2.2.2.2.2.2.2.1)
                                    have k27 : f19 (M + 8) = some (tz_ints cs 120 ca) := ((hq19 _ (by omega)).trans hM3.2.2.2.2.2.2.2.2)
                                    exact ih138 (upd ro3 m3 (ma2 m3)) (m3 + 1) f19 (⟨k20, k21, k22, k23, k24, k25, hs19, k26, k27⟩) (fun q hh => by rw [hq19 q (by omega), hfr q (by omega)]) (by omega) (⟨fun j hj => by
                                          simp only [upd]
                                          by_cases e1 : j = m3
                                          · rw [if_pos e1, e1]; exact hma m3 (by omega) (by omega)
                                          · rw [if_neg e1]; exact hro3m.1 j (by omega), fun j a b => by
                                          simp only [upd]
                                          rw [if_neg (by omega)]; exact hro3m.2 j (by omega) b⟩) (by omega)
                              exact loop138 _ roL i fA (⟨hM2.1, hM2.2.1, hM2.2.2.1, hM2.2.2.2.1, hM2.2.2.2.2.1, hM2.2.2.2.2.2.1, hM2.2.2.2.2.2.2.1, hM2.2.2.2.2.2.2.2.1, hM2.2.2.2.2.2.2.2.2⟩) (fun q hh => by rw [hfr q (by omega)]) (⟨Nat.le_refl _, hie⟩) hro (Nat.lt_succ_self _)
                            · skip
                              replace h84 := mt (nI_leI (a := ge) (b := m) (by omega) (by omega)).mpr h84
                              refine tz_aload_n C_ 0 rfl rfl td_M_bridge_87 ?_
                              refine tz_get C_ tci_M 10 (by decide) tw_763 hM2.1 rfl td_M_bridge_88 ?_
                              refine tz_iload C_ 5 rfl td_M_bridge_91 ?_
                              refine tz_aload_n C_ 0 rfl rfl td_M_bridge_93 ?_
                              refine tz_get C_ tci_M 8 (by decide) tw_761 hM2.1 rfl td_M_bridge_94 ?_
                              refine tz_iload C_ 4 rfl td_M_bridge_97 ?_
                              refine tz_ialdN C_ hM2.2.2.2.2.2.2.1 (by omega) (by decide) td_M_bridge_99 ?_
                              refine tz_iload C_ 5 rfl td_M_bridge_100 ?_
                              refine tz_iload C_ 4 rfl td_M_bridge_102 ?_
                              refine tz_isub C_ td_M_bridge_104 ?_
                              refine tz_aload_n C_ 0 rfl rfl td_M_bridge_105 ?_
                              refine tz_get C_ tci_M 8 (by decide) tw_761 hM2.1 rfl td_M_bridge_106 ?_
                              refine tz_iload_n C_ 3 rfl rfl td_M_bridge_109 ?_
                              refine tz_ialdN C_ hM2.2.2.2.2.2.2.1 (by omega) (by decide) td_M_bridge_110 ?_
                              refine tz_aload_n C_ 0 rfl rfl td_M_bridge_111 ?_
                              refine tz_get C_ tci_M 8 (by decide) tw_761 hM2.1 rfl td_M_bridge_112 ?_
                              refine tz_iload C_ 4 rfl td_M_bridge_115 ?_
                              refine tz_ialdN C_ hM2.2.2.2.2.2.2.1 (by omega) (by decide) td_M_bridge_117 ?_
                              refine tz_isub C_ td_M_bridge_118 ?_
                              refine tz_imul C_ td_M_bridge_119 ?_
                              refine tz_iload_n C_ 3 rfl rfl td_M_bridge_120 ?_
                              refine tz_iload C_ 4 rfl td_M_bridge_121 ?_
                              refine tz_isub C_ td_M_bridge_123 ?_
                              refine tz_rS C_ tmi_J_floorDiv tw_618 tw_989 (As := [.int (((nI m) - (nI (i - 1))) * ((roL ge) - (roL ((i - 1))))), .int ((nI ge) - (nI (i - 1)))]) (by exact (ct_J_floorDiv (tz_fdne (by omega) (by omega)))) rfl (rest := [.int (roL ((i - 1))), .int (nI m), .ref (M + 7)]) rfl (by decide) (Nat.le_of_ble_eq_true rfl) td_M_bridge_124 (st1 := [.int (tz_fd (((nI m) - (nI (i - 1))) * ((roL ge) - (roL ((i - 1))))) ((nI ge) - (nI (i - 1)))), .int (roL ((i - 1))), .int (nI m), .ref (M + 7)]) rfl ?_
                              refine tz_iadd C_ td_M_bridge_127 ?_
                              refine tz_wiastN C_ hM2.2.2.2.2.2.2.2.1 (by omega) (by decide) (g' := upd ma2 m ((roL ((i - 1))) + (tz_fd (((nI m) - (nI (i - 1))) * ((roL ge) - (roL ((i - 1))))) ((nI ge) - (nI (i - 1)))))) rfl td_M_bridge_128 (fun f28 hs28 hq28 => ?_)
                              refine tz_iinc C_ (k := 1) (v := nI (m + 1)) (lv' := [(0, .ref M), (1, .int v), (2, .int (nI i)), (3, .int (nI ge)), (4, .int (nI (i - 1))), (5, .int (nI (m + 1)))]) 5 rfl (nI_1 m) [1, 2, 3, 4, 5, 0] (by decide) rfl td_M_bridge_129 ?_
                              refine tz_goto C_ td_M_bridge_132 ?_
                              have k29 : f28 M = some (tz_obj 11 [.ref (M + 1), .ref (M + 2), .int (nI kp), .int fn, .ref (M + 3), .ref (M + 4), .ref (M + 5), .int (nI n), .ref (M + 6), .int ns, .ref (M + 7), .ref (M + 8), .int tg]) := ((hq28 _ (by omega)).trans hM2.1)
                              have k30 : f28 (M + 1) = some (tz_ints cs 532 nw) := ((hq28 _ (by omega)).trans hM2.2.1)
                              have k31 : f28 (M + 2) = some (tz_ints cs 10640 pa) := ((hq28 _ (by omega)).trans hM2.2.2.1)
                              have k32 : f28 (M + 3) = some (tz_ints cs 4 bi) := ((hq28 _ (by omega)).trans hM2.2.2.2.1)
                              have k33 : f28 (M + 4) = some (tz_ints cs 4 nu) := ((hq28 _ (by omega)).trans hM2.2.2.2.2.1)
                              have k34 : f28 (M + 5) = some (tz_ints cs 480 sh) := ((hq28 _ (by omega)).trans hM2.2.2.2.2.2.1)
                              have k35 : f28 (M + 6) = some (tz_ints cs 120 roL) := ((hq28 _ (by omega)).trans hM2.2.2.2.2.2.2.1)
                              have k36 : f28 (M + 8) = some (tz_ints cs 120 ca) := ((hq28 _ (by omega)).trans hM2.2.2.2.2.2.2.2.2)
                              exact ih81 (upd ma2 m ((roL ((i - 1))) + (tz_fd (((nI m) - (nI (i - 1))) * ((roL ge) - (roL ((i - 1))))) ((nI ge) - (nI (i - 1)))))) (m + 1) f28 (⟨k29, k30, k31, k32, k33, k34, k35, hs28, k36⟩) (fun q hh => by rw [hq28 q (by omega), hfr q (by omega)]) (by omega) (fun j a b => by
                                    simp only [upd]
                                    by_cases e1 : j = m
                                    · rw [if_pos e1, e1]; exact hval m (by omega) (by omega)
                                    · rw [if_neg e1]; exact hma j a (by omega)) (by omega)
                        exact loop81 _ maL i fL (⟨hM1.1, hM1.2.1, hM1.2.2.1, hM1.2.2.2.1, hM1.2.2.2.2.1, hM1.2.2.2.2.2.1, hM1.2.2.2.2.2.2.1, hM1.2.2.2.2.2.2.2.1, hM1.2.2.2.2.2.2.2.2⟩) (fun q hh => by rw [hfr q (by omega)]) (⟨Nat.le_refl _, hie⟩) (fun j a b => by omega) (Nat.lt_succ_self _)
                · skip
                  have hlge : g ge = tz_LO := by
                    rw [hro.2 ge (by omega) (by omega)] at h45
                    exact (tz_er_lo hr hk (by omega)).mp h45
                  refine tz_iinc C_ (k := 1) (v := nI (ge + 1)) (lv' := [(0, .ref M), (1, .int v), (2, .int (nI i)), (3, .int (nI (ge + 1)))]) 3 rfl (nI_1 ge) [1, 2, 3, 0] (by decide) rfl td_M_bridge_48 ?_
                  refine tz_goto C_ td_M_bridge_51 ?_
                  exact ih29 (ge + 1) (by omega) (by omega) (fun _ => trivial) (fun q a b => if e : q < ge then hgap q a e else (show q = ge by omega) ▸ hlge) (by omega)
          exact loop29 _ i (by omega) (Nat.le_refl _) (fun _ => trivial) (fun q a b => by omega) (Nat.lt_succ_self _)
        · skip
          have hni : ¬ g i = tz_LO := by
            rw [hro.2 i (Nat.le_refl _) (by omega)] at h18
            exact mt (tz_er_lo hr hk (by omega)).mpr h18
          refine tz_iinc C_ (k := 1) (v := nI (i + 1)) (lv' := [(0, .ref M), (1, .int v), (2, .int (nI (i + 1)))]) 2 rfl (nI_1 i) [1, 2, 0] (by decide) rfl td_M_bridge_21 ?_
          refine tz_goto C_ td_M_bridge_24 ?_
          exact ih2 roL maL (i + 1) fL (⟨hM1.1, hM1.2.1, hM1.2.2.1, hM1.2.2.2.1, hM1.2.2.2.2.1, hM1.2.2.2.2.2.1, hM1.2.2.2.2.2.2.1, hM1.2.2.2.2.2.2.2.1, hM1.2.2.2.2.2.2.2.2⟩) (fun q hh => by rw [hfr q (by omega)]) (by omega) (fun _ _ => Or.inr hni) (⟨fun j hj => by
                by_cases e1 : j < i
                · exact hro.1 j e1
                · have e2 : j = i := by omega
                  subst e2
                  rw [tz_br_keep hni, hro.2 _ (Nat.le_refl _) (by omega)]; exact hr _ (by omega), fun j a b => hro.2 j (by omega) b⟩) (by omega)
  exact loop2 _ ro ma 0 f (⟨hM.1, hM.2.1, hM.2.2.1, hM.2.2.2.1, hM.2.2.2.2.1, hM.2.2.2.2.2.1, hM.2.2.2.2.2.2.1, hM.2.2.2.2.2.2.2.1, hM.2.2.2.2.2.2.2.2⟩) (fun q hh => rfl) (Nat.zero_le _) (fun _ _ => Or.inl rfl) (⟨fun j hj => absurd hj (Nat.not_lt_zero j), fun j _ _ => rfl⟩) (Nat.lt_succ_self _)
