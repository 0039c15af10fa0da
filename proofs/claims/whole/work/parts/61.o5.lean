
theorem tz_kvm {kv : Int32} {j : Nat} (h : kv + 1 = nI j) : kv = nI j - 1 := by rw [← h, Int32.add_sub_cancel]
theorem tz_nI_m1 {i : Nat} (h : i < 2 ^ 31) : ¬ nI i = -1 := by
  intro e
  have := nI_pos' h
  rw [e] at this
  exact absurd this (by decide)
theorem tz_nI_no {i : Nat} (h : i < 2 ^ 31) : ¬ nI i < tz_NO := fun z => tz_nI_big h (Int32.le_of_lt (Int32.lt_of_lt_of_le z (by decide)))
theorem tz_fwt_m {n v x i : Nat} {g : Nat → Int32} (hn : n ≤ 120) (hv : 1 ≤ v ∧ v ≤ 30) (hx : x < 120) (h : i + 1 < tz_T n g) (hF : tz_F n g i ≤ x) : tz_fwt (tz_T n g) (tz_tg n g) (nI v) (nI x) (nI i) = nI (i * v + (x - tz_F n g i) * v / (tz_F n g (i + 1) - tz_F n g i)) := by
  have lt := tz_F_lt h
  have hT : tz_T n g ≤ n := tz_ct_le (tz_tp n g) n
  have i1 := tz_F_in h
  have nn : ¬ nI i = -1 := tz_nI_m1 (by omega)
  have hb : (x - tz_F n g i) * v ≤ 120 * 30 := Nat.mul_le_mul (by omega) hv.2
  unfold tz_fwt
  rw [show (nI i + 1 : Int32) = nI (i + 1) from nI_1 i, tz_pl_T hn (show i < tz_T n g by omega), tz_pl_T hn h]
  by_cases e : x = tz_F n g i
  · rw [if_pos ⟨nn, by rw [e]⟩, ← e, Nat.sub_self, Nat.zero_mul, Nat.zero_div, Nat.add_zero, pk_mul]
  · rw [if_neg (fun z => e ((nI_eq (by omega) (by omega)).mp z.2)), if_pos ⟨nn, nI_lt lt (by omega)⟩, pk_sub hF, pk_sub (show tz_F n g i ≤ tz_F n g (i + 1) by omega), pk_mul, pk_mul, pk_div (a := (x - tz_F n g i) * v) (d := tz_F n g (i + 1) - tz_F n g i) (by omega) (by omega) (by omega), nI_add]
theorem tz_fwt_l {n v x i : Nat} {g : Nat → Int32} (hn : n ≤ 120) (h : i + 1 = tz_T n g) (hF : x = tz_F n g i) : tz_fwt (tz_T n g) (tz_tg n g) (nI v) (nI x) (nI i) = nI (i * v) := by
  have hT : tz_T n g ≤ n := tz_ct_le (tz_tp n g) n
  unfold tz_fwt
  rw [tz_pl_T hn (show i < tz_T n g by omega), if_pos ⟨tz_nI_m1 (by omega), by rw [hF]⟩, pk_mul]
theorem tz_fwt_o {n v x i : Nat} {g : Nat → Int32} (hn : n ≤ 120) (hx : x < 120) (h : i + 1 = tz_T n g) (hF : tz_F n g i < x) : tz_fwt (tz_T n g) (tz_tg n g) (nI v) (nI x) (nI i) = -1 := by
  have hT : tz_T n g ≤ n := tz_ct_le (tz_tp n g) n
  unfold tz_fwt
  rw [show (nI i + 1 : Int32) = nI (i + 1) from nI_1 i, tz_pl_T hn (show i < tz_T n g by omega), tz_pl_o (by omega) (by omega) (show ¬ i + 1 < tz_T n g by omega)]
  rw [if_neg (fun z => by have := (nI_eq (by omega) (by omega)).mp z.2; omega), if_neg (fun z => tz_nI_no (by omega) z.2)]
theorem tz_fwt_n {n : Nat} {g : Nat → Int32} {v fo : Int32} : tz_fwt n g v fo (-1) = -1 := by
  unfold tz_fwt
  rw [if_neg (fun z => z.1 rfl), if_neg (fun z => z.1 rfl)]
theorem tz_wf_of {n v : Nat} {g : Nat → Int32} {fo k r : Int32} (hT : ¬ tz_T n g < 2) (hl : tz_lat (tz_T n g) (tz_tg n g) fo (tz_T n g) (-1) = k) (hf : tz_fwt (tz_T n g) (tz_tg n g) (nI v) fo k = r) : tz_wf n g v fo = if r < nI (tz_wl n g v) then r else -1 := by
  unfold tz_wf tz_fw
  rw [if_neg hT, hl, hf]
theorem tz_wf_m1 {n v : Nat} {g : Nat → Int32} {fo k : Int32} (hT : ¬ tz_T n g < 2) (hl : tz_lat (tz_T n g) (tz_tg n g) fo (tz_T n g) (-1) = k) (hf : tz_fwt (tz_T n g) (tz_tg n g) (nI v) fo k = -1) : tz_wf n g v fo = -1 := by
  rw [tz_wf_of hT hl hf]
  split <;> rfl
theorem tz_wf_t {n v t : Nat} {g : Nat → Int32} {fo k : Int32} (hT : ¬ tz_T n g < 2) (hl : tz_lat (tz_T n g) (tz_tg n g) fo (tz_T n g) (-1) = k) (hf : tz_fwt (tz_T n g) (tz_tg n g) (nI v) fo k = nI t) (ht : t ≤ (tz_T n g - 1) * v) (hb : t < 2 ^ 31) : tz_wf n g v fo = if t < 120 then nI t else -1 := by
  rw [tz_wf_of hT hl hf]
  have hw : tz_wl n g v < 2 ^ 31 := by unfold tz_wl; omega
  by_cases h : t < 120
  · rw [if_pos h, if_pos ((nI_ltI hb hw).mpr (by unfold tz_wl; omega))]
  · rw [if_neg h, if_neg (fun z => by have := (nI_ltI hb hw).mp z; unfold tz_wl at this; omega)]
theorem tz_wq {n v x i : Nat} {g : Nat → Int32} (hv : 1 ≤ v ∧ v ≤ 30) (h : i + 1 < tz_T n g) (hF : tz_F n g i ≤ x) (hx : x < tz_F n g (i + 1)) : i * v + (x - tz_F n g i) * v / (tz_F n g (i + 1) - tz_F n g i) ≤ (tz_T n g - 1) * v := by
  have lt := tz_F_lt h
  have h1 : (x - tz_F n g i) * v / (tz_F n g (i + 1) - tz_F n g i) < v := by
    rw [Nat.div_lt_iff_lt_mul (by omega), Nat.mul_comm v]
    exact Nat.mul_lt_mul_of_pos_right (by omega) (by omega)
  have h2 : (i + 1) * v ≤ (tz_T n g - 1) * v := Nat.mul_le_mul_right v (by omega)
  rw [Nat.add_mul, Nat.one_mul] at h2
  omega
theorem tz_lat_neg {n : Nat} {g : Nat → Int32} (hn : n ≤ 120) : tz_lat (tz_T n g) (tz_tg n g) (-1) (tz_T n g) (-1) = -1 := by
  have hT : tz_T n g ≤ n := tz_ct_le (tz_tp n g) n
  by_cases h : 0 < tz_T n g
  · have e := tz_lat_x (n := tz_T n g) (i := 0) (g := tz_tg n g) (v := -1) (x := -1) h (by
      rw [tz_pl_T hn h]
      have := tz_F_in h
      exact Int32.lt_of_lt_of_le (by decide) (nI_pos' (by omega)))
    rw [Nat.sub_zero] at e; exact e
  · rw [show tz_T n g = 0 by omega]; rfl
theorem tz_ff_m1 {v : tz_V4} {n : Nat} {g : Nat → Int32} (hn : n ≤ 120) (hc : tz_can v.1 v.2.1 v.2.2.1) : tz_ff v n g (-1) = -1 := by
  unfold tz_ff
  by_cases h4 : v.1 = 4
  · rw [if_pos h4]
    by_cases hT : tz_T n g < 2
    · unfold tz_wf; rw [if_pos hT]
    · exact tz_wf_m1 hT (tz_lat_neg hn) tz_fwt_n
  · rw [if_neg h4]
    by_cases h5 : v.1 = 5
    · rw [if_pos h5]
      rw [h5] at hc
      have := (tz_can5I.mp hc).1.1
      unfold tz_cf
      rw [if_neg (fun z => absurd (Int32.le_trans this z) (by decide))]
    · rw [if_neg h5]
theorem tz_rn_m1 {t : tz_TS} {k i : Nat} {fo : Int32} (hW : tz_WT t) (hk : k < 4) (h : (tz_rn t.2.2.1 t.1 (t.1 k).1 (t.1 k).2 fo i).2.2 = -1) : ∀ d, i + d ≤ t.2.1 → (tz_rn t.2.2.1 t.1 (t.1 k).1 (t.1 k).2 fo (i + d)).2.2 = -1 := by
  intro d
  induction d with
  | zero => intro _; exact h
  | succ d ih =>
    intro hd
    have e := ih (by omega)
    rw [show i + (d + 1) = (i + d) + 1 from rfl]
    simp only [tz_rn]
    split
    · exact e
    · show tz_ff _ _ _ _ = -1
      rw [e]
      exact tz_ff_m1 (tz_rn_ok hW hk fo (i + d) (by omega)).2 (hW.2.2.1 (i + d) (by omega)).1
theorem tz_cf_rg {a b : Int32} {x : Nat} (hc : tz_can 5 a b) (hx : x < 120) (h : a + b ≤ nI x) : ∃ y, y < 120 ∧ nI x - b = nI y := by
  obtain ⟨⟨a0, a1⟩, b0, b1⟩ := tz_can5I.mp hc
  obtain ⟨a', ha, ea⟩ := tz_toN (m := 119) (tz_le_nlt a0) a1 (by decide)
  obtain ⟨b', hb, eb⟩ := tz_toN (m := 120) (tz_le_nlt (Int32.le_trans (by decide) b0)) b1 (by decide)
  subst ea; subst eb
  rw [nI_add] at h
  have := (nI_leI (by omega) (by omega)).mp h
  exact ⟨x - b', by omega, pk_sub (by omega)⟩

abbrev rm_M_warped : Room := { frames := 2, cells := 0, slots := 0, locals := 44 }
set_option maxHeartbeats 4000000 in
set_option maxRecDepth 100000 in
theorem ct_M_warped {l : Launch} {A : Nat → Prop} {D : va_G} {cs : Nat → ClassId} {sz : Nat} {f : tz_PH} {M kp n : Nat} {fn ns tg : Int32} {nw pa bi nu sh ro ma ca : Nat → Int32} (hM : tz_MB cs f M kp fn (nI n) ns tg nw pa bi nu sh ro ma ca) {g : Nat → Int32} (hr : tz_er ro n g) (hk : tz_okr n g) (hn : n ≤ 120) {x v : Nat} (hx : x < 120) (hvv : 1 ≤ v ∧ v ≤ 30) : tz_CN l tyM_warped prog_13_method_62_code 6 (some (.int)) rm_M_warped 0 0 A D cs sz [.ref M, .int (nI x), .int (nI v)] f (some (.int (tz_wf n g v (nI x)))) (fun f' => f' = f) := by
  refine tz_C.ofB (lv0 := [(0, .ref M), (1, .int (nI x)), (2, .int (nI v))]) (plainFor_of_name (by decide)) (Nat.le_of_ble_eq_true rfl) rfl ?_
  intro p_ e_ s_ m_ ar_ be_ me_ c_ Q_ C_ hr_ hk_ hnm_ hz_ hQ_
  have hT9 : tz_T n g ≤ 120 := Nat.le_trans (tz_ct_le _ _) hn
  refine tz_aload_n C_ 0 rfl rfl td_M_warped_0 ?_
  refine tz_rV C_ tmi_M_turns tw_853 tw_20 tw_851 hM.1 rfl (As := []) (by exact (ct_M_turns ⟨hM.1, hM.2.1, hM.2.2.1, hM.2.2.2.1, hM.2.2.2.2.1, hM.2.2.2.2.2.1, hM.2.2.2.2.2.2.1, hM.2.2.2.2.2.2.2.1, hM.2.2.2.2.2.2.2.2⟩ hr hk hn)) rfl (rest := []) rfl (by decide) (Nat.le_of_ble_eq_true rfl) td_M_warped_1 (st1 := [.int (nI (tz_T n g))]) rfl ?_
  refine tz_istore_n C_ (lv' := [(0, .ref M), (1, .int (nI x)), (2, .int (nI v)), (3, .int (nI (tz_T n g)))]) [1, 2, 3, 0] rfl (by decide) rfl td_M_warped_4 ?_
  refine tz_iload_n C_ 3 rfl rfl td_M_warped_5 ?_
  refine tz_iconst C_ (v := 2) (by decide) td_M_warped_6 ?_
  refine tz_icmp_ge C_ td_M_warped_7 (fun h7 => ?_) (fun h7 => ?_)
  · skip
    replace h7 := (nI_leI (a := 2) (b := tz_T n g) (by omega) (by omega)).mp h7
    refine tz_iconst C_ (v := -1) (by decide) td_M_warped_12 ?_
    refine tz_istore C_ (lv' := [(0, .ref M), (1, .int (nI x)), (2, .int (nI v)), (3, .int (nI (tz_T n g))), (4, .int (-1))]) [1, 2, 3, 4, 0] (by decide) rfl td_M_warped_13 ?_
    have loop15 : ∀ (kk15 : Nat) (kv : Int32) (j : Nat), (kv + 1 = nI j) → (j ≤ tz_T n g) → (tz_lat (tz_T n g) (tz_tg n g) (nI x) (tz_T n g) (-1) = tz_lat (tz_T n g) (tz_tg n g) (nI x) (tz_T n g - j) kv) → (j = 0 ∨ tz_F n g (j - 1) ≤ x) → (tz_T n g - j) < kk15 → tz_V p_ l e_ rm_M_warped s_ m_ ar_ be_ me_ c_ Q_ A D 6 f sz 0 0 15 [(0, .ref M), (1, .int (nI x)), (2, .int (nI v)), (3, .int (nI (tz_T n g))), (4, .int kv)] [] := by
      intro kk15
      induction kk15 with
      | zero => intro kv j hkv hj hlat hF hm15; omega
      | succ kk15 ih15 =>
        intro kv j hkv hj hlat hF hm15
        refine tz_iload C_ 4 rfl td_M_warped_15 ?_
        refine tz_iconst C_ (v := 1) (by decide) td_M_warped_17 ?_
        refine tz_iadd C_ td_M_warped_18 ?_
        rw [show (kv + 1 : Int32) = nI j from hkv]
        refine tz_iload_n C_ 3 rfl rfl td_M_warped_19 ?_
        refine tz_icmp_ge C_ td_M_warped_20 (fun h20 => ?_) (fun h20 => ?_)
        · skip
          replace h20 := (nI_leI (a := tz_T n g) (b := j) (by omega) (by omega)).mp h20
          have hl9 : tz_lat (tz_T n g) (tz_tg n g) (nI x) (tz_T n g) (-1) = kv := hlat.trans (tz_lat_e (by omega))
          have hnx : j < tz_T n g → x < tz_F n g j := fun z => absurd z (by omega)
          rcases Nat.eq_zero_or_pos j with hj0 | hj0
          · skip
            rw [hj0] at hkv
            have ekv : kv = -1 := (tz_kvm hkv).trans (by decide)
            subst ekv
            refine tz_iload C_ 4 rfl td_M_warped_41 ?_
            refine tz_if_lt C_ td_M_warped_43 (fun h43 => ?_) (fun h43 => ?_)
            · skip
              refine tz_iconst C_ (v := -1) (by decide) td_M_warped_64 ?_
              refine tz_riret C_ hr_ hk_ hQ_ rfl td_M_warped_65 ?_
              exact ⟨tz_ri (tz_wf_m1 (by omega) hl9 tz_fwt_n).symm, rfl⟩
            · skip
              exact absurd (by decide) h43
          · skip
            obtain ⟨i, ei⟩ : ∃ i, j = i + 1 := ⟨j - 1, by omega⟩
            subst ei
            have ekv : kv = nI i := (tz_kvm hkv).trans ((pk_sub (a := i + 1) (b := 1) (by omega)).trans (by rw [Nat.add_sub_cancel]))
            subst ekv
            have hF9 : tz_F n g i ≤ x := hF.resolve_left (by omega)
            have hiv : i * v ≤ 120 * 30 := Nat.mul_le_mul (by omega) hvv.2
            have hxv : (x - tz_F n g i) * v ≤ 120 * 30 := Nat.mul_le_mul (by omega) hvv.2
            have hdv : (x - tz_F n g i) * v / (tz_F n g (i + 1) - tz_F n g i) ≤ (x - tz_F n g i) * v := Nat.div_le_self _ _
            have hFi : tz_F n g i < n := tz_F_in (by omega)
            refine tz_iload C_ 4 rfl td_M_warped_41 ?_
            refine tz_if_lt C_ td_M_warped_43 (fun h43 => absurd h43 (nI_pos (by omega))) (fun _ => ?_)
            refine tz_iload C_ 4 rfl td_M_warped_46 ?_
            refine tz_iload_n C_ 3 rfl rfl td_M_warped_48 ?_
            refine tz_iconst C_ (v := 1) (by decide) td_M_warped_49 ?_
            refine tz_isub C_ td_M_warped_50 ?_
            rw [show ((nI (tz_T n g)) - 1 : Int32) = nI (tz_T n g - 1) from pk_sub (a := tz_T n g) (b := 1) (by omega)]
            refine tz_icmp_ne C_ td_M_warped_51 (fun h51 => ?_) (fun h51 => ?_)
            · skip
              replace h51 := mt (nI_eq (a := i) (b := tz_T n g - 1) (by omega) (by omega)).mpr h51
              refine tz_iload C_ 4 rfl td_M_warped_66 ?_
              refine tz_iload_n C_ 2 rfl rfl td_M_warped_68 ?_
              refine tz_imul C_ td_M_warped_69 ?_
              rw [show ((nI i) * (nI v) : Int32) = nI (i * v) from pk_mul (i) (v)]
              refine tz_istore C_ (lv' := [(0, .ref M), (1, .int (nI x)), (2, .int (nI v)), (3, .int (nI (tz_T n g))), (4, .int (nI i)), (5, .int (nI (i * v)))]) [1, 2, 3, 4, 5, 0] (by decide) rfl td_M_warped_70 ?_
              refine tz_iload C_ 4 rfl td_M_warped_72 ?_
              refine tz_iload_n C_ 3 rfl rfl td_M_warped_74 ?_
              refine tz_iconst C_ (v := 1) (by decide) td_M_warped_75 ?_
              refine tz_isub C_ td_M_warped_76 ?_
              rw [show ((nI (tz_T n g)) - 1 : Int32) = nI (tz_T n g - 1) from pk_sub (a := tz_T n g) (b := 1) (by omega)]
              refine tz_icmp_ge C_ td_M_warped_77 (fun h77 => ?_) (fun h77 => ?_)
              · skip
                replace h77 := (nI_leI (a := tz_T n g - 1) (b := i) (by omega) (by omega)).mp h77
                omega
              · skip
                replace h77 := mt (nI_leI (a := tz_T n g - 1) (b := i) (by omega) (by omega)).mpr h77
                have hlt9 := tz_F_lt (n := n) (g := g) (k := i) (by omega)
                have hFi1 := tz_F_in (n := n) (g := g) (k := i + 1) (by omega)
                refine tz_iload C_ 5 rfl td_M_warped_80 ?_
                refine tz_iload_n C_ 1 rfl rfl td_M_warped_82 ?_
                refine tz_aload_n C_ 0 rfl rfl td_M_warped_83 ?_
                refine tz_iload C_ 4 rfl td_M_warped_84 ?_
                refine tz_rV C_ tmi_M_turnAt tw_869 tw_23 tw_867 hM.1 rfl (As := [.int (nI i)]) (by exact (ct_M_turnAt ⟨hM.1, hM.2.1, hM.2.2.1, hM.2.2.2.1, hM.2.2.2.2.1, hM.2.2.2.2.2.1, hM.2.2.2.2.2.2.1, hM.2.2.2.2.2.2.2.1, hM.2.2.2.2.2.2.2.2⟩ hr hk hn (w := i) (by omega))) rfl (rest := [.int (nI x), .int (nI (i * v))]) rfl (by decide) (Nat.le_of_ble_eq_true rfl) td_M_warped_86 (st1 := [.int (tz_tua n g i), .int (nI x), .int (nI (i * v))]) rfl ?_
                rw [tz_tua_N (n := n) (g := g) (k := i) (by omega)]
                refine tz_isub C_ td_M_warped_89 ?_
                rw [show ((nI x) - (nI (tz_F n g i)) : Int32) = nI (x - (tz_F n g i)) from pk_sub (a := x) (b := tz_F n g i) (by omega)]
                refine tz_iload_n C_ 2 rfl rfl td_M_warped_90 ?_
                refine tz_imul C_ td_M_warped_91 ?_
                rw [show ((nI (x - (tz_F n g i))) * (nI v) : Int32) = nI ((x - (tz_F n g i)) * v) from pk_mul (x - (tz_F n g i)) (v)]
                refine tz_aload_n C_ 0 rfl rfl td_M_warped_92 ?_
                refine tz_iload C_ 4 rfl td_M_warped_93 ?_
                refine tz_iconst C_ (v := 1) (by decide) td_M_warped_95 ?_
                refine tz_iadd C_ td_M_warped_96 ?_
                rw [show ((nI i) + 1 : Int32) = nI (i + 1) from nI_add (i) (1)]
                refine tz_rV C_ tmi_M_turnAt tw_869 tw_23 tw_867 hM.1 rfl (As := [.int (nI (i + 1))]) (by exact (ct_M_turnAt ⟨hM.1, hM.2.1, hM.2.2.1, hM.2.2.2.1, hM.2.2.2.2.1, hM.2.2.2.2.2.1, hM.2.2.2.2.2.2.1, hM.2.2.2.2.2.2.2.1, hM.2.2.2.2.2.2.2.2⟩ hr hk hn (w := (i + 1)) (by omega))) rfl (rest := [.int (nI ((x - (tz_F n g i)) * v)), .int (nI (i * v))]) rfl (by decide) (Nat.le_of_ble_eq_true rfl) td_M_warped_97 (st1 := [.int (tz_tua n g (i + 1)), .int (nI ((x - (tz_F n g i)) * v)), .int (nI (i * v))]) rfl ?_
                rw [tz_tua_N (n := n) (g := g) (k := (i + 1)) (by omega)]
                refine tz_aload_n C_ 0 rfl rfl td_M_warped_100 ?_
                refine tz_iload C_ 4 rfl td_M_warped_101 ?_
                refine tz_rV C_ tmi_M_turnAt tw_869 tw_23 tw_867 hM.1 rfl (As := [.int (nI i)]) (by exact (ct_M_turnAt ⟨hM.1, hM.2.1, hM.2.2.1, hM.2.2.2.1, hM.2.2.2.2.1, hM.2.2.2.2.2.1, hM.2.2.2.2.2.2.1, hM.2.2.2.2.2.2.2.1, hM.2.2.2.2.2.2.2.2⟩ hr hk hn (w := i) (by omega))) rfl (rest := [.int (nI (tz_F n g (i + 1))), .int (nI ((x - (tz_F n g i)) * v)), .int (nI (i * v))]) rfl (by decide) (Nat.le_of_ble_eq_true rfl) td_M_warped_103 (st1 := [.int (tz_tua n g i), .int (nI (tz_F n g (i + 1))), .int (nI ((x - (tz_F n g i)) * v)), .int (nI (i * v))]) rfl ?_
                rw [tz_tua_N (n := n) (g := g) (k := i) (by omega)]
                refine tz_isub C_ td_M_warped_106 ?_
                rw [show ((nI (tz_F n g (i + 1))) - (nI (tz_F n g i)) : Int32) = nI (tz_F n g (i + 1) - (tz_F n g i)) from pk_sub (a := tz_F n g (i + 1)) (b := tz_F n g i) (by omega)]
                refine tz_idiv C_ (mt (nI_eq (a := tz_F n g (i + 1) - tz_F n g i) (b := 0) (by omega) (by omega)).mp (by omega)) td_M_warped_107 ?_
                rw [show ((nI ((x - (tz_F n g i)) * v)) / (nI (tz_F n g (i + 1) - (tz_F n g i))) : Int32) = nI (((x - (tz_F n g i)) * v) / (tz_F n g (i + 1) - (tz_F n g i))) from pk_div (a := (x - (tz_F n g i)) * v) (d := tz_F n g (i + 1) - (tz_F n g i)) (by omega) (by omega) (by omega)]
                refine tz_iadd C_ td_M_warped_108 ?_
                rw [show ((nI (i * v)) + (nI (((x - (tz_F n g i)) * v) / (tz_F n g (i + 1) - (tz_F n g i)))) : Int32) = nI (i * v + (((x - (tz_F n g i)) * v) / (tz_F n g (i + 1) - (tz_F n g i)))) from nI_add (i * v) (((x - (tz_F n g i)) * v) / (tz_F n g (i + 1) - (tz_F n g i)))]
                refine tz_istore C_ (lv' := [(0, .ref M), (1, .int (nI x)), (2, .int (nI v)), (3, .int (nI (tz_T n g))), (4, .int (nI i)), (5, .int (nI (i * v + (((x - (tz_F n g i)) * v) / (tz_F n g (i + 1) - (tz_F n g i))))))]) [1, 2, 3, 4, 5, 0] (by decide) rfl td_M_warped_109 ?_
                refine tz_iload C_ 5 rfl td_M_warped_111 ?_
                refine tz_bipush C_ (v := 120) (by decide) td_M_warped_113 ?_
                refine tz_icmp_ge C_ td_M_warped_115 (fun h115 => ?_) (fun h115 => ?_)
                · skip
                  replace h115 := (nI_leI (a := 120) (b := i * v + (((x - (tz_F n g i)) * v) / (tz_F n g (i + 1) - (tz_F n g i)))) (by omega) (by omega)).mp h115
                  refine tz_iconst C_ (v := -1) (by decide) td_M_warped_123 ?_
                  refine tz_riret C_ hr_ hk_ hQ_ rfl td_M_warped_124 ?_
                  exact ⟨tz_ri (by rw [(tz_wf_t (by omega) hl9 (tz_fwt_m (i := i) hn hvv hx (by omega) hF9) (tz_wq hvv (by omega) hF9 (hnx (by omega))) (by omega)), if_neg (by omega)]), rfl⟩
                · skip
                  replace h115 := mt (nI_leI (a := 120) (b := i * v + (((x - (tz_F n g i)) * v) / (tz_F n g (i + 1) - (tz_F n g i)))) (by omega) (by omega)).mpr h115
                  refine tz_iload C_ 5 rfl td_M_warped_118 ?_
                  refine tz_goto C_ td_M_warped_120 ?_
                  refine tz_riret C_ hr_ hk_ hQ_ rfl td_M_warped_124 ?_
                  exact ⟨tz_ri (by rw [(tz_wf_t (by omega) hl9 (tz_fwt_m (i := i) hn hvv hx (by omega) hF9) (tz_wq hvv (by omega) hF9 (hnx (by omega))) (by omega)), if_pos (by omega)]), rfl⟩
            · skip
              replace h51 := (nI_eq (a := i) (b := tz_T n g - 1) (by omega) (by omega)).mp h51
              refine tz_iload_n C_ 1 rfl rfl td_M_warped_54 ?_
              refine tz_aload_n C_ 0 rfl rfl td_M_warped_55 ?_
              refine tz_iload C_ 4 rfl td_M_warped_56 ?_
              refine tz_rV C_ tmi_M_turnAt tw_869 tw_23 tw_867 hM.1 rfl (As := [.int (nI i)]) (by exact (ct_M_turnAt ⟨hM.1, hM.2.1, hM.2.2.1, hM.2.2.2.1, hM.2.2.2.2.1, hM.2.2.2.2.2.1, hM.2.2.2.2.2.2.1, hM.2.2.2.2.2.2.2.1, hM.2.2.2.2.2.2.2.2⟩ hr hk hn (w := i) (by omega))) rfl (rest := [.int (nI x)]) rfl (by decide) (Nat.le_of_ble_eq_true rfl) td_M_warped_58 (st1 := [.int (tz_tua n g i), .int (nI x)]) rfl ?_
              rw [tz_tua_N (n := n) (g := g) (k := i) (by omega)]
              refine tz_icmp_le C_ td_M_warped_61 (fun h61 => ?_) (fun h61 => ?_)
              · skip
                replace h61 := (nI_leI (a := x) (b := tz_F n g i) (by omega) (by omega)).mp h61
                refine tz_iload C_ 4 rfl td_M_warped_66 ?_
                refine tz_iload_n C_ 2 rfl rfl td_M_warped_68 ?_
                refine tz_imul C_ td_M_warped_69 ?_
                rw [show ((nI i) * (nI v) : Int32) = nI (i * v) from pk_mul (i) (v)]
                refine tz_istore C_ (lv' := [(0, .ref M), (1, .int (nI x)), (2, .int (nI v)), (3, .int (nI (tz_T n g))), (4, .int (nI i)), (5, .int (nI (i * v)))]) [1, 2, 3, 4, 5, 0] (by decide) rfl td_M_warped_70 ?_
                refine tz_iload C_ 4 rfl td_M_warped_72 ?_
                refine tz_iload_n C_ 3 rfl rfl td_M_warped_74 ?_
                refine tz_iconst C_ (v := 1) (by decide) td_M_warped_75 ?_
                refine tz_isub C_ td_M_warped_76 ?_
                rw [show ((nI (tz_T n g)) - 1 : Int32) = nI (tz_T n g - 1) from pk_sub (a := tz_T n g) (b := 1) (by omega)]
                refine tz_icmp_ge C_ td_M_warped_77 (fun h77 => ?_) (fun h77 => ?_)
                · skip
                  replace h77 := (nI_leI (a := tz_T n g - 1) (b := i) (by omega) (by omega)).mp h77
                  refine tz_iload C_ 5 rfl td_M_warped_111 ?_
                  refine tz_bipush C_ (v := 120) (by decide) td_M_warped_113 ?_
                  refine tz_icmp_ge C_ td_M_warped_115 (fun h115 => ?_) (fun h115 => ?_)
                  · skip
                    replace h115 := (nI_leI (a := 120) (b := i * v) (by omega) (by omega)).mp h115
                    refine tz_iconst C_ (v := -1) (by decide) td_M_warped_123 ?_
                    refine tz_riret C_ hr_ hk_ hQ_ rfl td_M_warped_124 ?_
                    exact ⟨tz_ri (by rw [(tz_wf_t (by omega) hl9 (tz_fwt_l (i := i) hn (by omega) (by omega)) (by rw [h51]; exact Nat.le_refl _) (by omega)), if_neg (by omega)]), rfl⟩
                  · skip
                    replace h115 := mt (nI_leI (a := 120) (b := i * v) (by omega) (by omega)).mpr h115
                    refine tz_iload C_ 5 rfl td_M_warped_118 ?_
                    refine tz_goto C_ td_M_warped_120 ?_
                    refine tz_riret C_ hr_ hk_ hQ_ rfl td_M_warped_124 ?_
                    exact ⟨tz_ri (by rw [(tz_wf_t (by omega) hl9 (tz_fwt_l (i := i) hn (by omega) (by omega)) (by rw [h51]; exact Nat.le_refl _) (by omega)), if_pos (by omega)]), rfl⟩
                · skip
                  replace h77 := mt (nI_leI (a := tz_T n g - 1) (b := i) (by omega) (by omega)).mpr h77
                  omega
              · skip
                replace h61 := mt (nI_leI (a := x) (b := tz_F n g i) (by omega) (by omega)).mpr h61
                refine tz_iconst C_ (v := -1) (by decide) td_M_warped_64 ?_
                refine tz_riret C_ hr_ hk_ hQ_ rfl td_M_warped_65 ?_
                exact ⟨tz_ri (tz_wf_m1 (by omega) hl9 (tz_fwt_o hn hx (by omega) (by omega))).symm, rfl⟩
        · skip
          replace h20 := mt (nI_leI (a := tz_T n g) (b := j) (by omega) (by omega)).mpr h20
          refine tz_aload_n C_ 0 rfl rfl td_M_warped_23 ?_
          refine tz_iload C_ 4 rfl td_M_warped_24 ?_
          refine tz_iconst C_ (v := 1) (by decide) td_M_warped_26 ?_
          refine tz_iadd C_ td_M_warped_27 ?_
          rw [show (kv + 1 : Int32) = nI j from hkv]
          refine tz_rV C_ tmi_M_turnAt tw_869 tw_23 tw_867 hM.1 rfl (As := [.int (nI j)]) (by exact (ct_M_turnAt ⟨hM.1, hM.2.1, hM.2.2.1, hM.2.2.2.1, hM.2.2.2.2.1, hM.2.2.2.2.2.1, hM.2.2.2.2.2.2.1, hM.2.2.2.2.2.2.2.1, hM.2.2.2.2.2.2.2.2⟩ hr hk hn (w := j) (by omega))) rfl (rest := []) rfl (by decide) (Nat.le_of_ble_eq_true rfl) td_M_warped_28 (st1 := [.int (tz_tua n g j)]) rfl ?_
          have hFj := tz_F_in (n := n) (g := g) (k := j) (by omega)
          rw [tz_tua_N (n := n) (g := g) (k := j) (by omega)]
          refine tz_iload_n C_ 1 rfl rfl td_M_warped_31 ?_
          refine tz_icmp_gt C_ td_M_warped_32 (fun h32 => ?_) (fun h32 => ?_)
          · skip
            replace h32 := (nI_ltI (a := x) (b := tz_F n g j) (by omega) (by omega)).mp h32
            have hl9 : tz_lat (tz_T n g) (tz_tg n g) (nI x) (tz_T n g) (-1) = kv := hlat.trans (tz_lat_x (by omega) (by rw [tz_pl_T hn (by omega)]; exact (nI_ltI (by omega) (by have := tz_F_in (n := n) (g := g) (k := j) (by omega); omega)).mpr h32))
            have hnx : j < tz_T n g → x < tz_F n g j := fun _ => h32
            rcases Nat.eq_zero_or_pos j with hj0 | hj0
            · skip
              rw [hj0] at hkv
              have ekv : kv = -1 := (tz_kvm hkv).trans (by decide)
              subst ekv
              refine tz_iload C_ 4 rfl td_M_warped_41 ?_
              refine tz_if_lt C_ td_M_warped_43 (fun h43 => ?_) (fun h43 => ?_)
              · skip
                refine tz_iconst C_ (v := -1) (by decide) td_M_warped_64 ?_
                refine tz_riret C_ hr_ hk_ hQ_ rfl td_M_warped_65 ?_
                exact ⟨tz_ri (tz_wf_m1 (by omega) hl9 tz_fwt_n).symm, rfl⟩
              · skip
                exact absurd (by decide) h43
            · skip
              obtain ⟨i, ei⟩ : ∃ i, j = i + 1 := ⟨j - 1, by omega⟩
              subst ei
              have ekv : kv = nI i := (tz_kvm hkv).trans ((pk_sub (a := i + 1) (b := 1) (by omega)).trans (by rw [Nat.add_sub_cancel]))
              subst ekv
              have hF9 : tz_F n g i ≤ x := hF.resolve_left (by omega)
              have hiv : i * v ≤ 120 * 30 := Nat.mul_le_mul (by omega) hvv.2
              have hxv : (x - tz_F n g i) * v ≤ 120 * 30 := Nat.mul_le_mul (by omega) hvv.2
              have hdv : (x - tz_F n g i) * v / (tz_F n g (i + 1) - tz_F n g i) ≤ (x - tz_F n g i) * v := Nat.div_le_self _ _
              have hFi : tz_F n g i < n := tz_F_in (by omega)
              refine tz_iload C_ 4 rfl td_M_warped_41 ?_
              refine tz_if_lt C_ td_M_warped_43 (fun h43 => absurd h43 (nI_pos (by omega))) (fun _ => ?_)
              refine tz_iload C_ 4 rfl td_M_warped_46 ?_
              refine tz_iload_n C_ 3 rfl rfl td_M_warped_48 ?_
              refine tz_iconst C_ (v := 1) (by decide) td_M_warped_49 ?_
              refine tz_isub C_ td_M_warped_50 ?_
              rw [show ((nI (tz_T n g)) - 1 : Int32) = nI (tz_T n g - 1) from pk_sub (a := tz_T n g) (b := 1) (by omega)]
              refine tz_icmp_ne C_ td_M_warped_51 (fun h51 => ?_) (fun h51 => ?_)
              · skip
                replace h51 := mt (nI_eq (a := i) (b := tz_T n g - 1) (by omega) (by omega)).mpr h51
                refine tz_iload C_ 4 rfl td_M_warped_66 ?_
                refine tz_iload_n C_ 2 rfl rfl td_M_warped_68 ?_
                refine tz_imul C_ td_M_warped_69 ?_
                rw [show ((nI i) * (nI v) : Int32) = nI (i * v) from pk_mul (i) (v)]
                refine tz_istore C_ (lv' := [(0, .ref M), (1, .int (nI x)), (2, .int (nI v)), (3, .int (nI (tz_T n g))), (4, .int (nI i)), (5, .int (nI (i * v)))]) [1, 2, 3, 4, 5, 0] (by decide) rfl td_M_warped_70 ?_
                refine tz_iload C_ 4 rfl td_M_warped_72 ?_
                refine tz_iload_n C_ 3 rfl rfl td_M_warped_74 ?_
                refine tz_iconst C_ (v := 1) (by decide) td_M_warped_75 ?_
                refine tz_isub C_ td_M_warped_76 ?_
                rw [show ((nI (tz_T n g)) - 1 : Int32) = nI (tz_T n g - 1) from pk_sub (a := tz_T n g) (b := 1) (by omega)]
                refine tz_icmp_ge C_ td_M_warped_77 (fun h77 => ?_) (fun h77 => ?_)
                · skip
                  replace h77 := (nI_leI (a := tz_T n g - 1) (b := i) (by omega) (by omega)).mp h77
                  omega
                · skip
                  replace h77 := mt (nI_leI (a := tz_T n g - 1) (b := i) (by omega) (by omega)).mpr h77
                  have hlt9 := tz_F_lt (n := n) (g := g) (k := i) (by omega)
                  have hFi1 := tz_F_in (n := n) (g := g) (k := i + 1) (by omega)
                  refine tz_iload C_ 5 rfl td_M_warped_80 ?_
                  refine tz_iload_n C_ 1 rfl rfl td_M_warped_82 ?_
                  refine tz_aload_n C_ 0 rfl rfl td_M_warped_83 ?_
                  refine tz_iload C_ 4 rfl td_M_warped_84 ?_
                  refine tz_rV C_ tmi_M_turnAt tw_869 tw_23 tw_867 hM.1 rfl (As := [.int (nI i)]) (by exact (ct_M_turnAt ⟨hM.1, hM.2.1, hM.2.2.1, hM.2.2.2.1, hM.2.2.2.2.1, hM.2.2.2.2.2.1, hM.2.2.2.2.2.2.1, hM.2.2.2.2.2.2.2.1, hM.2.2.2.2.2.2.2.2⟩ hr hk hn (w := i) (by omega))) rfl (rest := [.int (nI x), .int (nI (i * v))]) rfl (by decide) (Nat.le_of_ble_eq_true rfl) td_M_warped_86 (st1 := [.int (tz_tua n g i), .int (nI x), .int (nI (i * v))]) rfl ?_
                  rw [tz_tua_N (n := n) (g := g) (k := i) (by omega)]
                  refine tz_isub C_ td_M_warped_89 ?_
                  rw [show ((nI x) - (nI (tz_F n g i)) : Int32) = nI (x - (tz_F n g i)) from pk_sub (a := x) (b := tz_F n g i) (by omega)]
                  refine tz_iload_n C_ 2 rfl rfl td_M_warped_90 ?_
                  refine tz_imul C_ td_M_warped_91 ?_
                  rw [show ((nI (x - (tz_F n g i))) * (nI v) : Int32) = nI ((x - (tz_F n g i)) * v) from pk_mul (x - (tz_F n g i)) (v)]
                  refine tz_aload_n C_ 0 rfl rfl td_M_warped_92 ?_
                  refine tz_iload C_ 4 rfl td_M_warped_93 ?_
                  refine tz_iconst C_ (v := 1) (by decide) td_M_warped_95 ?_
                  refine tz_iadd C_ td_M_warped_96 ?_
                  rw [show ((nI i) + 1 : Int32) = nI (i + 1) from nI_add (i) (1)]
                  refine tz_rV C_ tmi_M_turnAt tw_869 tw_23 tw_867 hM.1 rfl (As := [.int (nI (i + 1))]) (by exact (ct_M_turnAt ⟨hM.1, hM.2.1, hM.2.2.1, hM.2.2.2.1, hM.2.2.2.2.1, hM.2.2.2.2.2.1, hM.2.2.2.2.2.2.1, hM.2.2.2.2.2.2.2.1, hM.2.2.2.2.2.2.2.2⟩ hr hk hn (w := (i + 1)) (by omega))) rfl (rest := [.int (nI ((x - (tz_F n g i)) * v)), .int (nI (i * v))]) rfl (by decide) (Nat.le_of_ble_eq_true rfl) td_M_warped_97 (st1 := [.int (tz_tua n g (i + 1)), .int (nI ((x - (tz_F n g i)) * v)), .int (nI (i * v))]) rfl ?_
                  rw [tz_tua_N (n := n) (g := g) (k := (i + 1)) (by omega)]
                  refine tz_aload_n C_ 0 rfl rfl td_M_warped_100 ?_
                  refine tz_iload C_ 4 rfl td_M_warped_101 ?_
                  refine tz_rV C_ tmi_M_turnAt tw_869 tw_23 tw_867 hM.1 rfl (As := [.int (nI i)]) (by exact (ct_M_turnAt ⟨hM.1, hM.2.1, hM.2.2.1, hM.2.2.2.1, hM.2.2.2.2.1, hM.2.2.2.2.2.1, hM.2.2.2.2.2.2.1, hM.2.2.2.2.2.2.2.1, hM.2.2.2.2.2.2.2.2⟩ hr hk hn (w := i) (by omega))) rfl (rest := [.int (nI (tz_F n g (i + 1))), .int (nI ((x - (tz_F n g i)) * v)), .int (nI (i * v))]) rfl (by decide) (Nat.le_of_ble_eq_true rfl) td_M_warped_103 (st1 := [.int (tz_tua n g i), .int (nI (tz_F n g (i + 1))), .int (nI ((x - (tz_F n g i)) * v)), .int (nI (i * v))]) rfl ?_
                  rw [tz_tua_N (n := n) (g := g) (k := i) (by omega)]
                  refine tz_isub C_ td_M_warped_106 ?_
                  rw [show ((nI (tz_F n g (i + 1))) - (nI (tz_F n g i)) : Int32) = nI (tz_F n g (i + 1) - (tz_F n g i)) from pk_sub (a := tz_F n g (i + 1)) (b := tz_F n g i) (by omega)]
                  refine tz_idiv C_ (mt (nI_eq (a := tz_F n g (i + 1) - tz_F n g i) (b := 0) (by omega) (by omega)).mp (by omega)) td_M_warped_107 ?_
                  rw [show ((nI ((x - (tz_F n g i)) * v)) / (nI (tz_F n g (i + 1) - (tz_F n g i))) : Int32) = nI (((x - (tz_F n g i)) * v) / (tz_F n g (i + 1) - (tz_F n g i))) from pk_div (a := (x - (tz_F n g i)) * v) (d := tz_F n g (i + 1) - (tz_F n g i)) (by omega) (by omega) (by omega)]
                  refine tz_iadd C_ td_M_warped_108 ?_
                  rw [show ((nI (i * v)) + (nI (((x - (tz_F n g i)) * v) / (tz_F n g (i + 1) - (tz_F n g i)))) : Int32) = nI (i * v + (((x - (tz_F n g i)) * v) / (tz_F n g (i + 1) - (tz_F n g i)))) from nI_add (i * v) (((x - (tz_F n g i)) * v) / (tz_F n g (i + 1) - (tz_F n g i)))]
                  refine tz_istore C_ (lv' := [(0, .ref M), (1, .int (nI x)), (2, .int (nI v)), (3, .int (nI (tz_T n g))), (4, .int (nI i)), (5, .int (nI (i * v + (((x - (tz_F n g i)) * v) / (tz_F n g (i + 1) - (tz_F n g i))))))]) [1, 2, 3, 4, 5, 0] (by decide) rfl td_M_warped_109 ?_
                  refine tz_iload C_ 5 rfl td_M_warped_111 ?_
                  refine tz_bipush C_ (v := 120) (by decide) td_M_warped_113 ?_
                  refine tz_icmp_ge C_ td_M_warped_115 (fun h115 => ?_) (fun h115 => ?_)
                  · skip
                    replace h115 := (nI_leI (a := 120) (b := i * v + (((x - (tz_F n g i)) * v) / (tz_F n g (i + 1) - (tz_F n g i)))) (by omega) (by omega)).mp h115
                    refine tz_iconst C_ (v := -1) (by decide) td_M_warped_123 ?_
                    refine tz_riret C_ hr_ hk_ hQ_ rfl td_M_warped_124 ?_
                    exact ⟨tz_ri (by rw [(tz_wf_t (by omega) hl9 (tz_fwt_m (i := i) hn hvv hx (by omega) hF9) (tz_wq hvv (by omega) hF9 (hnx (by omega))) (by omega)), if_neg (by omega)]), rfl⟩
                  · skip
                    replace h115 := mt (nI_leI (a := 120) (b := i * v + (((x - (tz_F n g i)) * v) / (tz_F n g (i + 1) - (tz_F n g i)))) (by omega) (by omega)).mpr h115
                    refine tz_iload C_ 5 rfl td_M_warped_118 ?_
                    refine tz_goto C_ td_M_warped_120 ?_
                    refine tz_riret C_ hr_ hk_ hQ_ rfl td_M_warped_124 ?_
                    exact ⟨tz_ri (by rw [(tz_wf_t (by omega) hl9 (tz_fwt_m (i := i) hn hvv hx (by omega) hF9) (tz_wq hvv (by omega) hF9 (hnx (by omega))) (by omega)), if_pos (by omega)]), rfl⟩
              · skip
                replace h51 := (nI_eq (a := i) (b := tz_T n g - 1) (by omega) (by omega)).mp h51
                refine tz_iload_n C_ 1 rfl rfl td_M_warped_54 ?_
                refine tz_aload_n C_ 0 rfl rfl td_M_warped_55 ?_
                refine tz_iload C_ 4 rfl td_M_warped_56 ?_
                refine tz_rV C_ tmi_M_turnAt tw_869 tw_23 tw_867 hM.1 rfl (As := [.int (nI i)]) (by exact (ct_M_turnAt ⟨hM.1, hM.2.1, hM.2.2.1, hM.2.2.2.1, hM.2.2.2.2.1, hM.2.2.2.2.2.1, hM.2.2.2.2.2.2.1, hM.2.2.2.2.2.2.2.1, hM.2.2.2.2.2.2.2.2⟩ hr hk hn (w := i) (by omega))) rfl (rest := [.int (nI x)]) rfl (by decide) (Nat.le_of_ble_eq_true rfl) td_M_warped_58 (st1 := [.int (tz_tua n g i), .int (nI x)]) rfl ?_
                rw [tz_tua_N (n := n) (g := g) (k := i) (by omega)]
                refine tz_icmp_le C_ td_M_warped_61 (fun h61 => ?_) (fun h61 => ?_)
                · skip
                  replace h61 := (nI_leI (a := x) (b := tz_F n g i) (by omega) (by omega)).mp h61
                  refine tz_iload C_ 4 rfl td_M_warped_66 ?_
                  refine tz_iload_n C_ 2 rfl rfl td_M_warped_68 ?_
                  refine tz_imul C_ td_M_warped_69 ?_
                  rw [show ((nI i) * (nI v) : Int32) = nI (i * v) from pk_mul (i) (v)]
                  refine tz_istore C_ (lv' := [(0, .ref M), (1, .int (nI x)), (2, .int (nI v)), (3, .int (nI (tz_T n g))), (4, .int (nI i)), (5, .int (nI (i * v)))]) [1, 2, 3, 4, 5, 0] (by decide) rfl td_M_warped_70 ?_
                  refine tz_iload C_ 4 rfl td_M_warped_72 ?_
                  refine tz_iload_n C_ 3 rfl rfl td_M_warped_74 ?_
                  refine tz_iconst C_ (v := 1) (by decide) td_M_warped_75 ?_
                  refine tz_isub C_ td_M_warped_76 ?_
                  rw [show ((nI (tz_T n g)) - 1 : Int32) = nI (tz_T n g - 1) from pk_sub (a := tz_T n g) (b := 1) (by omega)]
                  refine tz_icmp_ge C_ td_M_warped_77 (fun h77 => ?_) (fun h77 => ?_)
                  · skip
                    replace h77 := (nI_leI (a := tz_T n g - 1) (b := i) (by omega) (by omega)).mp h77
                    refine tz_iload C_ 5 rfl td_M_warped_111 ?_
                    refine tz_bipush C_ (v := 120) (by decide) td_M_warped_113 ?_
                    refine tz_icmp_ge C_ td_M_warped_115 (fun h115 => ?_) (fun h115 => ?_)
                    · skip
                      replace h115 := (nI_leI (a := 120) (b := i * v) (by omega) (by omega)).mp h115
                      refine tz_iconst C_ (v := -1) (by decide) td_M_warped_123 ?_
                      refine tz_riret C_ hr_ hk_ hQ_ rfl td_M_warped_124 ?_
                      exact ⟨tz_ri (by rw [(tz_wf_t (by omega) hl9 (tz_fwt_l (i := i) hn (by omega) (by omega)) (by rw [h51]; exact Nat.le_refl _) (by omega)), if_neg (by omega)]), rfl⟩
                    · skip
                      replace h115 := mt (nI_leI (a := 120) (b := i * v) (by omega) (by omega)).mpr h115
                      refine tz_iload C_ 5 rfl td_M_warped_118 ?_
                      refine tz_goto C_ td_M_warped_120 ?_
                      refine tz_riret C_ hr_ hk_ hQ_ rfl td_M_warped_124 ?_
                      exact ⟨tz_ri (by rw [(tz_wf_t (by omega) hl9 (tz_fwt_l (i := i) hn (by omega) (by omega)) (by rw [h51]; exact Nat.le_refl _) (by omega)), if_pos (by omega)]), rfl⟩
                  · skip
                    replace h77 := mt (nI_leI (a := tz_T n g - 1) (b := i) (by omega) (by omega)).mpr h77
                    omega
                · skip
                  replace h61 := mt (nI_leI (a := x) (b := tz_F n g i) (by omega) (by omega)).mpr h61
                  refine tz_iconst C_ (v := -1) (by decide) td_M_warped_64 ?_
                  refine tz_riret C_ hr_ hk_ hQ_ rfl td_M_warped_65 ?_
                  exact ⟨tz_ri (tz_wf_m1 (by omega) hl9 (tz_fwt_o hn hx (by omega) (by omega))).symm, rfl⟩
          · skip
            replace h32 := mt (nI_ltI (a := x) (b := tz_F n g j) (by omega) (by omega)).mpr h32
            refine tz_iinc C_ (k := 1) (v := kv + 1) (lv' := [(0, .ref M), (1, .int (nI x)), (2, .int (nI v)), (3, .int (nI (tz_T n g))), (4, .int (kv + 1))]) 4 rfl rfl [1, 2, 3, 4, 0] (by decide) rfl td_M_warped_35 ?_
            refine tz_goto C_ td_M_warped_38 ?_
            exact ih15 (kv + 1) (j + 1) (by rw [hkv]; exact nI_1 j) (by omega) (hlat.trans ((tz_lat_s (by omega) (by rw [tz_pl_T hn (by omega)]; exact fun z => h32 ((nI_ltI (by omega) (by omega)).mp z))).trans (by rw [hkv]))) (Or.inr (by rw [Nat.add_sub_cancel]; omega)) (by omega)
    exact loop15 _ (-1) 0 (by decide) (Nat.zero_le _) rfl (Or.inl rfl) (Nat.lt_succ_self _)
  · skip
    replace h7 := mt (nI_leI (a := 2) (b := tz_T n g) (by omega) (by omega)).mpr h7
    refine tz_iload_n C_ 1 rfl rfl td_M_warped_10 ?_
    refine tz_riret C_ hr_ hk_ hQ_ rfl td_M_warped_11 ?_
    exact ⟨tz_ri (by unfold tz_wf; rw [if_pos (by omega)]), rfl⟩
