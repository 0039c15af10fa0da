
theorem tz_sr_k {t : tz_TS} {k : Nat} {r : Nat × (Nat → Int32)} : (tz_sr t k r).1 k = r := by
  show va_up t.1 k r k = r
  unfold va_up; rw [if_pos rfl]
theorem tz_sr_o {t : tz_TS} {k q : Nat} {r : Nat × (Nat → Int32)} (h : ¬ q = k) : (tz_sr t k r).1 q = t.1 q := by
  show va_up t.1 k r q = t.1 q
  unfold va_up; rw [if_neg h]
theorem tz_en_one {nw nw' : Nat → Int32} {t : tz_TS} {k : Nat} {g : Nat → Int32} (hE : tz_en nw t) (hW : tz_WT t) (hk : k < 4) (ho : ∀ q, (q < 4 + 120 * k ∨ 4 + 120 * k + (t.1 k).1 ≤ q) → nw' q = nw q) (hi : ∀ j, j < (t.1 k).1 → nw' (4 + 120 * k + j) = tz_mo (g j)) : tz_en nw' (tz_sr t k ((t.1 k).1, g)) := by
  obtain ⟨h1, h2, h3, h4, h5⟩ := hE
  have hl := hW.2.1
  have hn := (hW.1 k hk).1
  refine ⟨fun p hp => ?_, fun p hp j hj => ?_, ?_, fun q hq => ?_, fun q hq => ?_⟩
  · rw [ho p (by omega), h1 p hp]
    by_cases e : p = k
    · subst e; rw [tz_sr_k]
    · rw [tz_sr_o e]
  · by_cases e : p = k
    · subst e
      rw [tz_sr_k] at hj ⊢
      exact hi j hj
    · rw [tz_sr_o e] at hj ⊢
      have := (hW.1 p hp).1
      rw [ho _ (by omega)]
      exact h2 p hp j hj
  · rw [ho _ (by omega)]; exact h3
  · have hq8 : q < 8 := Nat.lt_of_lt_of_le hq hl
    rw [ho _ (by omega), ho _ (by omega), ho _ (by omega), ho _ (by omega)]
    exact h4 q hq
  · rw [ho _ (by omega), ho _ (by omega)]
    exact h5 q hq
theorem tz_ok_ne {v : Int32} (h : -10000 ≤ v ∧ v ≤ 10000) : ¬ v = tz_LO := by
  intro e; subst e; exact absurd h.1 (by decide)
theorem tz_en_put {nw : Nat → Int32} {t : tz_TS} {k j : Nat} {v : Int32} (hE : tz_en nw t) (hW : tz_WT t) (hk : k < 4) (hj : j < (t.1 k).1) (hv : -10000 ≤ v ∧ v ≤ 10000) : tz_en (upd nw (4 + 120 * k + j) v) (tz_sr t k ((t.1 k).1, tz_rset (t.1 k).1 (t.1 k).2 (nI j) v)) := by
  have hn := (hW.1 k hk).1
  refine tz_en_one hE hW hk (fun q hq => ?_) (fun i hi => ?_)
  · simp only [upd]; rw [if_neg (by omega)]
  · rw [tz_rset_N hn hj]
    simp only [upd]
    by_cases e : i = j
    · subst e; rw [if_pos rfl, if_pos rfl, tz_mo_id (tz_ok_ne hv)]
    · rw [if_neg (by omega), if_neg e]; exact hE.2.1 k hk i hi
theorem tz_lsg_rg {g : Nat → Int32} {n m b : Nat} (h : tz_okr n g) : tz_okr n (tz_lsg g m b) := by
  intro j hj
  unfold tz_lsg
  split
  · exact Or.inl rfl
  · exact h j hj
theorem tz_WT_sr {t : tz_TS} {k n : Nat} {g : Nat → Int32} (hW : tz_WT t) (hk : k < 4) (hn : n ≤ 120) (h : tz_okr n g) : tz_WT (tz_sr t k (n, g)) := by
  refine ⟨fun p hp => ?_, hW.2.1, hW.2.2.1, hW.2.2.2⟩
  by_cases e : p = k
  · subst e; rw [tz_sr_k]; exact ⟨hn, h⟩
  · rw [tz_sr_o e]; exact hW.1 p hp
theorem tz_en_lose {nw : Nat → Int32} {t : tz_TS} {k m d : Nat} (hE : tz_en nw t) (hW : tz_WT t) (hk : k < 4) (hd : m + d ≤ (t.1 k).1) : tz_en (tz_cpf (fun _ => 1000000) nw (4 + 120 * k + m) d) (tz_sr t k ((t.1 k).1, tz_lsg (t.1 k).2 m (m + d))) ∧ tz_WT (tz_sr t k ((t.1 k).1, tz_lsg (t.1 k).2 m (m + d))) := by
  have hn := (hW.1 k hk).1
  refine ⟨tz_en_one hE hW hk (fun q hq => tz_cpf_out (by omega)) (fun i hi => ?_), tz_WT_sr hW hk hn (tz_lsg_rg (hW.1 k hk).2)⟩
  unfold tz_lsg
  by_cases e : m ≤ i ∧ i < m + d
  · rw [if_pos e, show 4 + 120 * k + i = 4 + 120 * k + m + (i - m) by omega, tz_cpf_in (by omega)]; rfl
  · rw [if_neg e, tz_cpf_out (by omega)]; exact hE.2.1 k hk i hi
theorem tz_ct_up {p q : Nat → Bool} {i : Nat} (h : ∀ j, ¬ j = i → q j = p j) : ∀ n, i < n → tz_ct q n + (if p i then 1 else 0) = tz_ct p n + (if q i then 1 else 0) := by
  intro n
  induction n with
  | zero => intro h; omega
  | succ n ih =>
    intro hi
    rw [tz_ct_s, tz_ct_s]
    by_cases e : i = n
    · subst e
      rw [tz_ct_cg (p := q) (q := p) (fun j hj => h j (by omega))]
      omega
    · rw [h n (by omega)]
      have := ih (by omega)
      omega
theorem tz_lost_s {n i m : Nat} {g : Nat → Int32} (hm : m ≤ i) (hi : i < n) : tz_lost n (tz_lsg g m (i + 1)) = tz_lost n (tz_lsg g m i) + (if g i = tz_LO then 0 else 1) := by
  have e1 : tz_lsg g m i i = g i := by unfold tz_lsg; rw [if_neg (by omega)]
  have e2 : tz_lsg g m (i + 1) i = tz_LO := by unfold tz_lsg; rw [if_pos (by omega)]
  have h := tz_ct_up (p := fun j => decide (tz_lsg g m i j = tz_LO)) (q := fun j => decide (tz_lsg g m (i + 1) j = tz_LO)) (i := i) (fun j hj => by
    have : tz_lsg g m (i + 1) j = tz_lsg g m i j := by
      unfold tz_lsg
      by_cases e : m ≤ j ∧ j < i
      · rw [if_pos e, if_pos (by omega)]
      · rw [if_neg e, if_neg (by omega)]
    simp only [this]) n hi
  simp only [e1, e2] at h
  unfold tz_lost
  by_cases e : g i = tz_LO
  · simp [e] at h ⊢; exact h
  · simp [e] at h ⊢; exact h
theorem tz_hld_l {n : Nat} {x y : Int32} (hn : n ≤ 120) (hx : ¬ x < 0) (hy : ¬ y < 0) : lg_cmp (x.toInt64 + y.toInt64) (Int32.toInt64 (nI n)) ≤ 0 ↔ tz_hld (nI n) x y := by
  obtain ⟨a, ha, ea⟩ := tz_nn hx
  obtain ⟨b, hb, eb⟩ := tz_nn hy
  subst ea; subst eb
  rw [lg_cmp_le, Int64.le_iff_toInt_le, lg_i2l_add, Int32.toInt_toInt64, nI_toInt ha, nI_toInt hb, nI_toInt (by omega)]
  refine ⟨fun h => tz_hldN hn (by omega), fun h => ?_⟩
  obtain ⟨i, k, e1, e2, h3⟩ := tz_hld_N hn h
  have := (nI_eq ha (by omega)).mp e1
  have := (nI_eq hb (by omega)).mp e2
  omega
theorem tz_03 {w : Int32} (h : 0 ≤ w ∧ w ≤ 3) : w = 0 ∨ w = 1 ∨ w = 2 ∨ w = 3 := by
  obtain ⟨j, hj, e⟩ := tz_toN (m := 3) (tz_le_nlt h.1) h.2 (by decide)
  subst e
  rcases (show j = 0 ∨ j = 1 ∨ j = 2 ∨ j = 3 by omega) with e | e | e | e <;> subst e
  · exact Or.inl rfl
  · exact Or.inr (Or.inl rfl)
  · exact Or.inr (Or.inr (Or.inl rfl))
  · exact Or.inr (Or.inr (Or.inr rfl))
theorem tz_tua_lt {n w : Nat} {g : Nat → Int32} (hn : n ≤ 120) : 0 ≤ tz_tua n g w ↔ w < tz_T n g := by
  unfold tz_tua
  by_cases h : w < tz_T n g
  · rw [if_pos h]
    have : tz_nth (tz_tp n g) n w < n := tz_F_in h
    exact ⟨fun _ => h, fun _ => nI_pos' (by omega)⟩
  · rw [if_neg h]
    exact ⟨fun z => absurd z (by decide), fun z => absurd z h⟩
theorem tz_pl_o {n w : Nat} {g : Nat → Int32} (hn : n ≤ 120) (hw : w < 2 ^ 31) (h : ¬ w < n) : tz_pl n g (nI w) = tz_NO := by
  unfold tz_pl
  rw [if_neg (fun z => h ((nI_ltI hw (by omega)).mp z.2))]
theorem tz_pl_m {n : Nat} {g : Nat → Int32} {i : Int32} (h : ¬ 0 ≤ i) : tz_pl n g i = tz_NO := by
  unfold tz_pl
  rw [if_neg (fun z => h z.1)]

abbrev rm_M_put : Room := { frames := 3, cells := 0, slots := 0, locals := 64 }
set_option maxHeartbeats 4000000 in
set_option maxRecDepth 100000 in
theorem ct_M_put {l : Launch} {A : Nat → Prop} {D : va_G} {cs : Nat → ClassId} {sz : Nat} {f : tz_PH} {M : Nat} {σ : tz_SG} (hX : tz_AM cs f M σ) (hW : tz_WF σ) {p i v : Int32} : tz_CN l tyM_put prog_13_method_12_code 5 (some (.int)) rm_M_put 0 0 A D cs sz [.ref M, .int p, .int i, .int v] f (some (.int (sp_put σ p i v).1)) (fun f' => tz_AM cs f' M (sp_put σ p i v).2 ∧ ∀ q, (q < M ∨ M + 9 ≤ q) → f' q = f q) := by
  refine tz_C.ofB (lv0 := [(0, .ref M), (1, .int p), (2, .int i), (3, .int v)]) (plainFor_of_name (by decide)) (Nat.le_of_ble_eq_true rfl) rfl ?_
  intro p_ e_ s_ m_ ar_ be_ me_ c_ Q_ C_ hr_ hk_ hnm_ hz_ hQ_
  obtain ⟨ms, ns, tg, nw, pa, bi, nu, sh, ro, ma, ca, hM, hE, hH, hQ⟩ := hX
  have hWT := hW.cur
  have hkp : σ.2.1 ≤ 20 := hW.1
  have hl8 := hWT.2.1
  refine tz_aload_n C_ 0 rfl rfl td_M_put_0 ?_
  refine tz_iload_n C_ 1 rfl rfl td_M_put_1 ?_
  refine tz_iload_n C_ 2 rfl rfl td_M_put_2 ?_
  refine tz_rV C_ tmi_M_isSample tw_823 tw_16 tw_821 hM.1 rfl (As := [.int p, .int i]) (by exact (ct_M_isSample ⟨hM.1, hM.2.1, hM.2.2.1, hM.2.2.2.1, hM.2.2.2.2.1, hM.2.2.2.2.2.1, hM.2.2.2.2.2.2.1, hM.2.2.2.2.2.2.2.1, hM.2.2.2.2.2.2.2.2⟩ hE hWT)) rfl (rest := []) rfl (by decide) (Nat.le_of_ble_eq_true rfl) td_M_put_3 (st1 := [.int (tz_p (tz_has (tz_cur σ) p i))]) rfl ?_
  refine tz_if_eq C_ td_M_put_6 (fun h6 => ?_) (fun h6 => ?_)
  · skip
    replace h6 := tz_p0.mp h6
    refine tz_aload_n C_ 0 rfl rfl td_M_put_22 ?_
    refine tz_ldc C_ tw_812 td_M_put_23 ?_
    refine tz_cV C_ tmi_M_finding tw_800 tw_14 tw_798 hM.1 rfl (As := [.int (-100001)]) (by exact (ct_M_finding (v := -100001) hM.1)) rfl (rest := []) rfl (by decide) (Nat.le_of_ble_eq_true rfl) td_M_put_25 (st1 := [.int (-100001)]) rfl (fun f1 hF1 => ?_)
    obtain ⟨hs2, hq2⟩ := hF1
    refine tz_riret C_ hr_ hk_ hQ_ rfl td_M_put_28 ?_
    have k3 : f1 (M + 1) = some (tz_ints cs 532 nw) := ((hq2 _ (by omega)).trans hM.2.1)
    have k4 : f1 (M + 2) = some (tz_ints cs 10640 pa) := ((hq2 _ (by omega)).trans hM.2.2.1)
    have k5 : f1 (M + 3) = some (tz_ints cs 4 bi) := ((hq2 _ (by omega)).trans hM.2.2.2.1)
    have k6 : f1 (M + 4) = some (tz_ints cs 4 nu) := ((hq2 _ (by omega)).trans hM.2.2.2.2.1)
    have k7 : f1 (M + 5) = some (tz_ints cs 480 sh) := ((hq2 _ (by omega)).trans hM.2.2.2.2.2.1)
    have k8 : f1 (M + 6) = some (tz_ints cs 120 ro) := ((hq2 _ (by omega)).trans hM.2.2.2.2.2.2.1)
    have k9 : f1 (M + 7) = some (tz_ints cs 120 ma) := ((hq2 _ (by omega)).trans hM.2.2.2.2.2.2.2.1)
    have k10 : f1 (M + 8) = some (tz_ints cs 120 ca) := ((hq2 _ (by omega)).trans hM.2.2.2.2.2.2.2.2)
    have e9 : sp_put σ p i v = (-100001, tz_fnd σ) := by 
      unfold sp_put
      split
      · rw [tz_an_f (by decide)]
      · rename_i k9 h9
        rw [if_neg (fun z => tz_has_n h6 h9 z.1), tz_an_f (by decide)]
    rw [e9]
    exact ⟨rfl, ⟨_, _, _, _, _, _, _, _, _, _, _, ⟨hs2, k3, k4, k5, k6, k7, k8, k9, k10⟩, hE, hH, hQ⟩, (fun q hh => by rw [hq2 q (by omega)])⟩
  · skip
    replace h6 := tz_p1.mp h6
    obtain ⟨k, j, hk, ek, hj, ej, hpk⟩ := tz_has_y h6 hWT
    subst ek
    subst ej
    have hnk : tz_ln σ k ≤ 120 := (hWT.1 k hk).1
    have hin : (0 ≤ nI j ∧ nI j < nI (tz_ln σ k)) := (tz_has_iff (by omega) (by omega)).mpr hj
    have hat := tz_at_N (g := tz_sg σ k) hnk hj
    have hok : tz_okv (tz_sg σ k j) := (hWT.1 k hk).2 j hj
    refine tz_iload_n C_ 3 rfl rfl td_M_put_9 ?_
    refine tz_sipush C_ (v := -10000) (by decide) td_M_put_10 ?_
    refine tz_sipush C_ (v := 10000) (by decide) td_M_put_13 ?_
    refine tz_rS C_ tmi_M_in tw_810 tw_809 (As := [.int v, .int (-10000), .int 10000]) (by exact ct_M_in) rfl (rest := []) rfl (by decide) (Nat.le_of_ble_eq_true rfl) td_M_put_16 (st1 := [.int (tz_p ((-10000) ≤ v ∧ v ≤ 10000))]) rfl ?_
    refine tz_if_ne C_ td_M_put_19 (fun h19 => ?_) (fun h19 => ?_)
    · skip
      replace h19 := tz_p1.mp h19
      refine tz_aload_n C_ 0 rfl rfl td_M_put_29 ?_
      refine tz_cV C_ tmi_M_keep tw_815 tw_15 tw_813 hM.1 rfl (As := []) (by exact (ct_M_keep ⟨hM.1, hM.2.1, hM.2.2.1, hM.2.2.2.1, hM.2.2.2.2.1, hM.2.2.2.2.2.1, hM.2.2.2.2.2.2.1, hM.2.2.2.2.2.2.2.1, hM.2.2.2.2.2.2.2.2⟩ hH hE (fun j hj => hW.2.1 j hj) hkp)) rfl (rest := []) rfl (by decide) (Nat.le_of_ble_eq_true rfl) td_M_put_30 (st1 := []) rfl (fun f11 hF11 => ?_)
      obtain ⟨⟨paK, hMK, hHK⟩, hqK⟩ := hF11
      refine tz_aload_n C_ 0 rfl rfl td_M_put_33 ?_
      refine tz_iload_n C_ 1 rfl rfl td_M_put_34 ?_
      refine tz_iload_n C_ 2 rfl rfl td_M_put_35 ?_
      refine tz_rV C_ tmi_M_at tw_827 tw_17 tw_825 hMK.1 rfl (As := [.int (nI k), .int (nI j)]) (by exact (ct_M_at ⟨hMK.1, hMK.2.1, hMK.2.2.1, hMK.2.2.2.1, hMK.2.2.2.2.1, hMK.2.2.2.2.2.1, hMK.2.2.2.2.2.2.1, hMK.2.2.2.2.2.2.2.1, hMK.2.2.2.2.2.2.2.2⟩ hE hWT (k := k) (j := j) (by omega) (by omega))) rfl (rest := []) rfl (by decide) (Nat.le_of_ble_eq_true rfl) td_M_put_36 (st1 := [.int (tz_mo (((tz_cur σ).1 k).2 j))]) rfl ?_
      refine tz_istore C_ (lv' := [(0, .ref M), (1, .int (nI k)), (2, .int (nI j)), (3, .int v), (4, .int (tz_mo (((tz_cur σ).1 k).2 j)))]) [1, 2, 3, 4, 0] (by decide) rfl td_M_put_39 ?_
      refine tz_aload_n C_ 0 rfl rfl td_M_put_41 ?_
      refine tz_get C_ tci_M 0 (by decide) tw_753 hMK.1 rfl td_M_put_42 ?_
      refine tz_iconst C_ (v := 4) (by decide) td_M_put_45 ?_
      refine tz_bipush C_ (v := 120) (by decide) td_M_put_46 ?_
      refine tz_iload_n C_ 1 rfl rfl td_M_put_48 ?_
      refine tz_imul C_ td_M_put_49 ?_
      rw [show (120 * (nI k) : Int32) = nI (120 * k) from pk_mul (120) (k)]
      refine tz_iadd C_ td_M_put_50 ?_
      rw [show (4 + (nI (120 * k)) : Int32) = nI (4 + (120 * k)) from nI_add (4) (120 * k)]
      refine tz_iload_n C_ 2 rfl rfl td_M_put_51 ?_
      refine tz_iadd C_ td_M_put_52 ?_
      rw [show ((nI (4 + (120 * k))) + (nI j) : Int32) = nI (4 + (120 * k) + j) from nI_add (4 + (120 * k)) (j)]
      refine tz_iload_n C_ 3 rfl rfl td_M_put_53 ?_
      refine tz_wiastN C_ hMK.2.1 (by omega) (by decide) (g' := upd nw ((4 + (120 * k) + j)) v) rfl td_M_put_54 (fun f12 hs12 hq12 => ?_)
      refine tz_iload C_ 4 rfl td_M_put_55 ?_
      refine tz_ldc C_ tw_829 td_M_put_57 ?_
      refine tz_icmp_ne C_ td_M_put_59 (fun h59 => ?_) (fun h59 => ?_)
      · skip
        refine tz_iconst C_ (v := 0) (by decide) td_M_put_66 ?_
        refine tz_riret C_ hr_ hk_ hQ_ rfl td_M_put_67 ?_
        have k13 : f12 M = some (tz_obj 11 [.ref (M + 1), .ref (M + 2), .int (nI (min (σ.2.1 + 1) 20)), .int σ.2.2.2, .ref (M + 3), .ref (M + 4), .ref (M + 5), .int ms, .ref (M + 6), .int ns, .ref (M + 7), .ref (M + 8), .int tg]) := ((hq12 _ (by omega)).trans hMK.1)
        have k14 : f12 (M + 2) = some (tz_ints cs 10640 paK) := ((hq12 _ (by omega)).trans hMK.2.2.1)
        have k15 : f12 (M + 3) = some (tz_ints cs 4 bi) := ((hq12 _ (by omega)).trans hMK.2.2.2.1)
        have k16 : f12 (M + 4) = some (tz_ints cs 4 nu) := ((hq12 _ (by omega)).trans hMK.2.2.2.2.1)
        have k17 : f12 (M + 5) = some (tz_ints cs 480 sh) := ((hq12 _ (by omega)).trans hMK.2.2.2.2.2.1)
        have k18 : f12 (M + 6) = some (tz_ints cs 120 ro) := ((hq12 _ (by omega)).trans hMK.2.2.2.2.2.2.1)
        have k19 : f12 (M + 7) = some (tz_ints cs 120 ma) := ((hq12 _ (by omega)).trans hMK.2.2.2.2.2.2.2.1)
        have k20 : f12 (M + 8) = some (tz_ints cs 120 ca) := ((hq12 _ (by omega)).trans hMK.2.2.2.2.2.2.2.2)
        have e9 : sp_put σ (nI k) (nI j) v = (0, tz_act σ (tz_sr (tz_cur σ) k (tz_ln σ k, tz_rset (tz_ln σ k) (tz_sg σ k) (nI j) v))) := by simp only [sp_put, hpk]; rw [if_pos ⟨hin, h19⟩, hat]; unfold tz_p; rw [if_neg (mt (tz_mo_lo hok).mpr h59)]
        rw [e9]
        exact ⟨rfl, tz_AM_act hW ⟨k13, hs12, k14, k15, k16, k17, k18, k19, k20⟩ (tz_en_put hE hWT hk hj h19) hHK hQ, (fun q hh => by rw [hq12 q (by omega), hqK q (by omega)])⟩
      · skip
        refine tz_iconst C_ (v := 1) (by decide) td_M_put_62 ?_
        refine tz_goto C_ td_M_put_63 ?_
        refine tz_riret C_ hr_ hk_ hQ_ rfl td_M_put_67 ?_
        have k21 : f12 M = some (tz_obj 11 [.ref (M + 1), .ref (M + 2), .int (nI (min (σ.2.1 + 1) 20)), .int σ.2.2.2, .ref (M + 3), .ref (M + 4), .ref (M + 5), .int ms, .ref (M + 6), .int ns, .ref (M + 7), .ref (M + 8), .int tg]) := ((hq12 _ (by omega)).trans hMK.1)
        have k22 : f12 (M + 2) = some (tz_ints cs 10640 paK) := ((hq12 _ (by omega)).trans hMK.2.2.1)
        have k23 : f12 (M + 3) = some (tz_ints cs 4 bi) := ((hq12 _ (by omega)).trans hMK.2.2.2.1)
        have k24 : f12 (M + 4) = some (tz_ints cs 4 nu) := ((hq12 _ (by omega)).trans hMK.2.2.2.2.1)
        have k25 : f12 (M + 5) = some (tz_ints cs 480 sh) := ((hq12 _ (by omega)).trans hMK.2.2.2.2.2.1)
        have k26 : f12 (M + 6) = some (tz_ints cs 120 ro) := ((hq12 _ (by omega)).trans hMK.2.2.2.2.2.2.1)
        have k27 : f12 (M + 7) = some (tz_ints cs 120 ma) := ((hq12 _ (by omega)).trans hMK.2.2.2.2.2.2.2.1)
        have k28 : f12 (M + 8) = some (tz_ints cs 120 ca) := ((hq12 _ (by omega)).trans hMK.2.2.2.2.2.2.2.2)
        have e9 : sp_put σ (nI k) (nI j) v = (1, tz_act σ (tz_sr (tz_cur σ) k (tz_ln σ k, tz_rset (tz_ln σ k) (tz_sg σ k) (nI j) v))) := by simp only [sp_put, hpk]; rw [if_pos ⟨hin, h19⟩, hat]; unfold tz_p; rw [if_pos ((tz_mo_lo hok).mp h59)]
        rw [e9]
        exact ⟨rfl, tz_AM_act hW ⟨k21, hs12, k22, k23, k24, k25, k26, k27, k28⟩ (tz_en_put hE hWT hk hj h19) hHK hQ, (fun q hh => by rw [hq12 q (by omega), hqK q (by omega)])⟩
    · skip
      replace h19 := tz_p0.mp h19
      refine tz_aload_n C_ 0 rfl rfl td_M_put_22 ?_
      refine tz_ldc C_ tw_812 td_M_put_23 ?_
      refine tz_cV C_ tmi_M_finding tw_800 tw_14 tw_798 hM.1 rfl (As := [.int (-100001)]) (by exact (ct_M_finding (v := -100001) hM.1)) rfl (rest := []) rfl (by decide) (Nat.le_of_ble_eq_true rfl) td_M_put_25 (st1 := [.int (-100001)]) rfl (fun f29 hF29 => ?_)
      obtain ⟨hs30, hq30⟩ := hF29
      refine tz_riret C_ hr_ hk_ hQ_ rfl td_M_put_28 ?_
      have k31 : f29 (M + 1) = some (tz_ints cs 532 nw) := ((hq30 _ (by omega)).trans hM.2.1)
      have k32 : f29 (M + 2) = some (tz_ints cs 10640 pa) := ((hq30 _ (by omega)).trans hM.2.2.1)
      have k33 : f29 (M + 3) = some (tz_ints cs 4 bi) := ((hq30 _ (by omega)).trans hM.2.2.2.1)
      have k34 : f29 (M + 4) = some (tz_ints cs 4 nu) := ((hq30 _ (by omega)).trans hM.2.2.2.2.1)
      have k35 : f29 (M + 5) = some (tz_ints cs 480 sh) := ((hq30 _ (by omega)).trans hM.2.2.2.2.2.1)
      have k36 : f29 (M + 6) = some (tz_ints cs 120 ro) := ((hq30 _ (by omega)).trans hM.2.2.2.2.2.2.1)
      have k37 : f29 (M + 7) = some (tz_ints cs 120 ma) := ((hq30 _ (by omega)).trans hM.2.2.2.2.2.2.2.1)
      have k38 : f29 (M + 8) = some (tz_ints cs 120 ca) := ((hq30 _ (by omega)).trans hM.2.2.2.2.2.2.2.2)
      have e9 : sp_put σ (nI k) (nI j) v = (-100001, tz_fnd σ) := by simp only [sp_put, hpk]; rw [if_neg (fun z => h19 z.2), tz_an_f (by decide)]
      rw [e9]
      exact ⟨rfl, ⟨_, _, _, _, _, _, _, _, _, _, _, ⟨hs30, k31, k32, k33, k34, k35, k36, k37, k38⟩, hE, hH, hQ⟩, (fun q hh => by rw [hq30 q (by omega)])⟩

abbrev rm_M_about : Room := { frames := 2, cells := 0, slots := 0, locals := 44 }
set_option maxHeartbeats 4000000 in
set_option maxRecDepth 100000 in
theorem ct_M_about {l : Launch} {A : Nat → Prop} {D : va_G} {cs : Nat → ClassId} {sz : Nat} {f : tz_PH} {M : Nat} {σ : tz_SG} (hX : tz_AM cs f M σ) (hW : tz_WF σ) {p w : Int32} : tz_CN l tyM_about prog_13_method_20_code 5 (some (.int)) rm_M_about 0 0 A D cs sz [.ref M, .int p, .int w] f (some (.int (sp_about σ p w).1)) (fun f' => tz_AM cs f' M (sp_about σ p w).2 ∧ ∀ q, (q < M ∨ M + 9 ≤ q) → f' q = f q) := by
  refine tz_C.ofB (lv0 := [(0, .ref M), (1, .int p), (2, .int w)]) (plainFor_of_name (by decide)) (Nat.le_of_ble_eq_true rfl) rfl ?_
  intro p_ e_ s_ m_ ar_ be_ me_ c_ Q_ C_ hr_ hk_ hnm_ hz_ hQ_
  obtain ⟨ms, ns, tg, nw, pa, bi, nu, sh, ro, ma, ca, hM, hE, hH, hQ⟩ := hX
  have hWT := hW.cur
  have hkp : σ.2.1 ≤ 20 := hW.1
  have hl8 := hWT.2.1
  refine tz_iload_n C_ 1 rfl rfl td_M_about_0 ?_
  refine tz_rS C_ tmi_M_isPass tw_807 tw_806 (As := [.int p]) (by exact ct_M_isPass) rfl (rest := []) rfl (by decide) (Nat.le_of_ble_eq_true rfl) td_M_about_1 (st1 := [.int (tz_p (0 ≤ p ∧ p < 4))]) rfl ?_
  refine tz_if_eq C_ td_M_about_4 (fun h4 => ?_) (fun h4 => ?_)
  · skip
    replace h4 := tz_p0.mp h4
    have hpk4 := tz_pk_out h4
    refine tz_aload_n C_ 0 rfl rfl td_M_about_16 ?_
    refine tz_ldc C_ tw_812 td_M_about_17 ?_
    refine tz_cV C_ tmi_M_finding tw_800 tw_14 tw_798 hM.1 rfl (As := [.int (-100001)]) (by exact (ct_M_finding (v := -100001) hM.1)) rfl (rest := []) rfl (by decide) (Nat.le_of_ble_eq_true rfl) td_M_about_19 (st1 := [.int (-100001)]) rfl (fun f1 hF1 => ?_)
    obtain ⟨hs2, hq2⟩ := hF1
    refine tz_riret C_ hr_ hk_ hQ_ rfl td_M_about_22 ?_
    have k3 : f1 (M + 1) = some (tz_ints cs 532 nw) := ((hq2 _ (by omega)).trans hM.2.1)
    have k4 : f1 (M + 2) = some (tz_ints cs 10640 pa) := ((hq2 _ (by omega)).trans hM.2.2.1)
    have k5 : f1 (M + 3) = some (tz_ints cs 4 bi) := ((hq2 _ (by omega)).trans hM.2.2.2.1)
    have k6 : f1 (M + 4) = some (tz_ints cs 4 nu) := ((hq2 _ (by omega)).trans hM.2.2.2.2.1)
    have k7 : f1 (M + 5) = some (tz_ints cs 480 sh) := ((hq2 _ (by omega)).trans hM.2.2.2.2.2.1)
    have k8 : f1 (M + 6) = some (tz_ints cs 120 ro) := ((hq2 _ (by omega)).trans hM.2.2.2.2.2.2.1)
    have k9 : f1 (M + 7) = some (tz_ints cs 120 ma) := ((hq2 _ (by omega)).trans hM.2.2.2.2.2.2.2.1)
    have k10 : f1 (M + 8) = some (tz_ints cs 120 ca) := ((hq2 _ (by omega)).trans hM.2.2.2.2.2.2.2.2)
    have e9 : sp_about σ p w = (-100001, tz_fnd σ) := by simp only [sp_about, hpk4]; rw [tz_an_f (by decide)]
    rw [e9]
    exact ⟨rfl, ⟨_, _, _, _, _, _, _, _, _, _, _, ⟨hs2, k3, k4, k5, k6, k7, k8, k9, k10⟩, hE, hH, hQ⟩, (fun q hh => by rw [hq2 q (by omega)])⟩
  · skip
    replace h4 := tz_p1.mp h4
    obtain ⟨k, hk, ek⟩ := tz_pk_in h4
    subst ek
    have hpk4 := tz_pk_N hk
    have hnk : tz_ln σ k ≤ 120 := (hWT.1 k hk).1
    have hNk : ((tz_cur σ).1 k).1 ≤ 120 := (hWT.1 k hk).1
    refine tz_iload_n C_ 2 rfl rfl td_M_about_7 ?_
    refine tz_iconst C_ (v := 0) (by decide) td_M_about_8 ?_
    refine tz_iconst C_ (v := 3) (by decide) td_M_about_9 ?_
    refine tz_rS C_ tmi_M_in tw_810 tw_809 (As := [.int w, .int 0, .int 3]) (by exact ct_M_in) rfl (rest := []) rfl (by decide) (Nat.le_of_ble_eq_true rfl) td_M_about_10 (st1 := [.int (tz_p (0 ≤ w ∧ w ≤ 3))]) rfl ?_
    refine tz_if_ne C_ td_M_about_13 (fun h13 => ?_) (fun h13 => ?_)
    · skip
      replace h13 := tz_p1.mp h13
      refine tz_aload_n C_ 0 rfl rfl td_M_about_23 ?_
      refine tz_iload_n C_ 1 rfl rfl td_M_about_24 ?_
      refine tz_cV C_ tmi_M_takePass tw_845 tw_18 tw_843 hM.1 rfl (As := [.int (nI k)]) (by exact (ct_M_takePass ⟨hM.1, hM.2.1, hM.2.2.1, hM.2.2.2.1, hM.2.2.2.2.1, hM.2.2.2.2.2.1, hM.2.2.2.2.2.2.1, hM.2.2.2.2.2.2.2.1, hM.2.2.2.2.2.2.2.2⟩ hE hWT (k := k) (by omega))) rfl (rest := []) rfl (by decide) (Nat.le_of_ble_eq_true rfl) td_M_about_25 (st1 := []) rfl (fun f11 hF11 => ?_)
      obtain ⟨⟨roT, hMT, herT⟩, hqT⟩ := hF11
      refine tz_iload_n C_ 2 rfl rfl td_M_about_28 ?_
      refine tz_iconst C_ (v := 3) (by decide) td_M_about_29 ?_
      refine tz_icmp_ge C_ td_M_about_30 (fun h30 => ?_) (fun h30 => ?_)
      · skip
        refine tz_iconst C_ (v := 0) (by decide) td_M_about_61 ?_
        refine tz_istore_n C_ (lv' := [(0, .ref M), (1, .int (nI k)), (2, .int w), (3, .int 0)]) [1, 2, 3, 0] rfl (by decide) rfl td_M_about_62 ?_
        refine tz_iconst C_ (v := 0) (by decide) td_M_about_63 ?_
        refine tz_istore C_ (lv' := [(0, .ref M), (1, .int (nI k)), (2, .int w), (3, .int 0), (4, .int 0)]) [1, 2, 3, 4, 0] (by decide) rfl td_M_about_64 ?_
        have loop66 : ∀ (kk66 : Nat) (x : Nat) (i : Nat), (i ≤ ((tz_cur σ).1 k).1) → (x = tz_ct (fun q => decide (tz_click ((tz_cur σ).1 k).1 ((tz_cur σ).1 k).2 (nI q) 100)) i) → (((tz_cur σ).1 k).1 - i) < kk66 → tz_V p_ l e_ rm_M_about s_ m_ ar_ be_ me_ c_ Q_ A D 5 f11 sz 0 0 66 [(0, .ref M), (1, .int (nI k)), (2, .int w), (3, .int (nI x)), (4, .int (nI i))] [] := by
          intro kk66
          induction kk66 with
          | zero => intro x i hi hc hm66; omega
          | succ kk66 ih66 =>
            intro x i hi hc hm66
            refine tz_iload C_ 4 rfl td_M_about_66 ?_
            refine tz_aload_n C_ 0 rfl rfl td_M_about_68 ?_
            refine tz_get C_ tci_M 7 (by decide) tw_760 hMT.1 rfl td_M_about_69 ?_
            refine tz_icmp_ge C_ td_M_about_72 (fun h72 => ?_) (fun h72 => ?_)
            · skip
              replace h72 := (nI_leI (a := ((tz_cur σ).1 k).1) (b := i) (by omega) (by omega)).mp h72
              refine tz_iload_n C_ 3 rfl rfl td_M_about_100 ?_
              refine tz_riret C_ hr_ hk_ hQ_ rfl td_M_about_101 ?_
              have e9 : sp_about σ (nI k) w = (nI x, σ) := by 
                have e8 : i = ((tz_cur σ).1 k).1 := by omega
                rw [e8] at hc
                rcases tz_03 h13 with e | e | e | e <;> subst e
                · exact absurd h30 (by decide)
                · exact absurd h30 (by decide)
                · exact absurd h30 (by decide)
                · simp only [sp_about, hpk4]; rw [hc]; rfl
              rw [e9]
              exact ⟨rfl, ⟨_, _, _, _, _, _, _, _, _, _, _, ⟨hMT.1, hMT.2.1, hMT.2.2.1, hMT.2.2.2.1, hMT.2.2.2.2.1, hMT.2.2.2.2.2.1, hMT.2.2.2.2.2.2.1, hMT.2.2.2.2.2.2.2.1, hMT.2.2.2.2.2.2.2.2⟩, hE, hH, hQ⟩, (fun q hh => by rw [hqT q (by omega)])⟩
            · skip
              replace h72 := mt (nI_leI (a := ((tz_cur σ).1 k).1) (b := i) (by omega) (by omega)).mpr h72
              refine tz_iload_n C_ 3 rfl rfl td_M_about_75 ?_
              refine tz_aload_n C_ 0 rfl rfl td_M_about_76 ?_
              refine tz_iload C_ 4 rfl td_M_about_77 ?_
              refine tz_bipush C_ (v := 100) (by decide) td_M_about_79 ?_
              refine tz_rV C_ tmi_M_isClick tw_861 tw_22 tw_859 hMT.1 rfl (As := [.int (nI i), .int 100]) (by exact (ct_M_isClick ⟨hMT.1, hMT.2.1, hMT.2.2.1, hMT.2.2.2.1, hMT.2.2.2.2.1, hMT.2.2.2.2.2.1, hMT.2.2.2.2.2.2.1, hMT.2.2.2.2.2.2.2.1, hMT.2.2.2.2.2.2.2.2⟩ herT (hWT.1 k hk).2 (hWT.1 k hk).1 (k := i) (by omega))) rfl (rest := [.int (nI x)]) rfl (by decide) (Nat.le_of_ble_eq_true rfl) td_M_about_81 (st1 := [.int (tz_p (tz_click ((tz_cur σ).1 k).1 ((tz_cur σ).1 k).2 (nI i) 100)), .int (nI x)]) rfl ?_
              refine tz_if_eq C_ td_M_about_84 (fun h84 => ?_) (fun h84 => ?_)
              · skip
                replace h84 := tz_p0.mp h84
                refine tz_iconst C_ (v := 0) (by decide) td_M_about_91 ?_
                refine tz_iadd C_ td_M_about_92 ?_
                rw [show ((nI x) + 0 : Int32) = nI (x + 0) from nI_add (x) (0)]
                refine tz_istore_n C_ (lv' := [(0, .ref M), (1, .int (nI k)), (2, .int w), (3, .int (nI (x + 0))), (4, .int (nI i))]) [1, 2, 3, 0, 4] rfl (by decide) rfl td_M_about_93 ?_
                refine tz_iinc C_ (k := 1) (v := nI (i + 1)) (lv' := [(0, .ref M), (1, .int (nI k)), (2, .int w), (3, .int (nI (x + 0))), (4, .int (nI (i + 1)))]) 4 rfl (nI_1 i) [1, 2, 3, 4, 0] (by decide) rfl td_M_about_94 ?_
                refine tz_goto C_ td_M_about_97 ?_
                exact ih66 (x + 0) (i + 1) (by omega) (by rw [tz_ct_s, hc]; simp [h84]; try rfl) (by omega)
              · skip
                replace h84 := tz_p1.mp h84
                refine tz_iconst C_ (v := 1) (by decide) td_M_about_87 ?_
                refine tz_goto C_ td_M_about_88 ?_
                refine tz_iadd C_ td_M_about_92 ?_
                rw [show ((nI x) + 1 : Int32) = nI (x + 1) from nI_add (x) (1)]
                refine tz_istore_n C_ (lv' := [(0, .ref M), (1, .int (nI k)), (2, .int w), (3, .int (nI (x + 1))), (4, .int (nI i))]) [1, 2, 3, 0, 4] rfl (by decide) rfl td_M_about_93 ?_
                refine tz_iinc C_ (k := 1) (v := nI (i + 1)) (lv' := [(0, .ref M), (1, .int (nI k)), (2, .int w), (3, .int (nI (x + 1))), (4, .int (nI (i + 1)))]) 4 rfl (nI_1 i) [1, 2, 3, 4, 0] (by decide) rfl td_M_about_94 ?_
                refine tz_goto C_ td_M_about_97 ?_
                exact ih66 (x + 1) (i + 1) (by omega) (by rw [tz_ct_s, hc]; simp [h84]; try rfl) (by omega)
        exact loop66 _ 0 0 (Nat.zero_le _) rfl (Nat.lt_succ_self _)
      · skip
        refine tz_iload_n C_ 2 rfl rfl td_M_about_33 ?_
        refine tz_if_ne C_ td_M_about_34 (fun h34 => ?_) (fun h34 => ?_)
        · skip
          refine tz_iload_n C_ 2 rfl rfl td_M_about_44 ?_
          refine tz_iconst C_ (v := 1) (by decide) td_M_about_45 ?_
          refine tz_icmp_ne C_ td_M_about_46 (fun h46 => ?_) (fun h46 => ?_)
          · skip
            refine tz_aload_n C_ 0 rfl rfl td_M_about_56 ?_
            refine tz_rV C_ tmi_M_turns tw_853 tw_20 tw_851 hMT.1 rfl (As := []) (by exact (ct_M_turns ⟨hMT.1, hMT.2.1, hMT.2.2.1, hMT.2.2.2.1, hMT.2.2.2.2.1, hMT.2.2.2.2.2.1, hMT.2.2.2.2.2.2.1, hMT.2.2.2.2.2.2.2.1, hMT.2.2.2.2.2.2.2.2⟩ herT (hWT.1 k hk).2 (hWT.1 k hk).1)) rfl (rest := []) rfl (by decide) (Nat.le_of_ble_eq_true rfl) td_M_about_57 (st1 := [.int (nI (tz_T ((tz_cur σ).1 k).1 ((tz_cur σ).1 k).2))]) rfl ?_
            refine tz_riret C_ hr_ hk_ hQ_ rfl td_M_about_60 ?_
            have e9 : sp_about σ (nI k) w = (nI (tz_T ((tz_cur σ).1 k).1 ((tz_cur σ).1 k).2), σ) := by 
              rcases tz_03 h13 with e | e | e | e <;> subst e
              · exact absurd rfl h34
              · exact absurd rfl h46
              · simp only [sp_about, hpk4]; rfl
              · exact absurd h30 (by decide)
            rw [e9]
            exact ⟨rfl, ⟨_, _, _, _, _, _, _, _, _, _, _, ⟨hMT.1, hMT.2.1, hMT.2.2.1, hMT.2.2.2.1, hMT.2.2.2.2.1, hMT.2.2.2.2.2.1, hMT.2.2.2.2.2.2.1, hMT.2.2.2.2.2.2.2.1, hMT.2.2.2.2.2.2.2.2⟩, hE, hH, hQ⟩, (fun q hh => by rw [hqT q (by omega)])⟩
          · skip
            refine tz_aload_n C_ 0 rfl rfl td_M_about_49 ?_
            refine tz_rV C_ tmi_M_lostMany tw_849 tw_19 tw_847 hMT.1 rfl (As := []) (by exact (ct_M_lostMany ⟨hMT.1, hMT.2.1, hMT.2.2.1, hMT.2.2.2.1, hMT.2.2.2.2.1, hMT.2.2.2.2.2.1, hMT.2.2.2.2.2.2.1, hMT.2.2.2.2.2.2.2.1, hMT.2.2.2.2.2.2.2.2⟩ herT (hWT.1 k hk).2 (hWT.1 k hk).1)) rfl (rest := []) rfl (by decide) (Nat.le_of_ble_eq_true rfl) td_M_about_50 (st1 := [.int (nI (tz_lost ((tz_cur σ).1 k).1 ((tz_cur σ).1 k).2))]) rfl ?_
            refine tz_goto C_ td_M_about_53 ?_
            refine tz_riret C_ hr_ hk_ hQ_ rfl td_M_about_60 ?_
            have e9 : sp_about σ (nI k) w = (nI (tz_lost ((tz_cur σ).1 k).1 ((tz_cur σ).1 k).2), σ) := by 
              rcases tz_03 h13 with e | e | e | e <;> subst e
              · exact absurd rfl h34
              · simp only [sp_about, hpk4]; rfl
              · exact absurd h46 (by decide)
              · exact absurd h30 (by decide)
            rw [e9]
            exact ⟨rfl, ⟨_, _, _, _, _, _, _, _, _, _, _, ⟨hMT.1, hMT.2.1, hMT.2.2.1, hMT.2.2.2.1, hMT.2.2.2.2.1, hMT.2.2.2.2.2.1, hMT.2.2.2.2.2.2.1, hMT.2.2.2.2.2.2.2.1, hMT.2.2.2.2.2.2.2.2⟩, hE, hH, hQ⟩, (fun q hh => by rw [hqT q (by omega)])⟩
        · skip
          refine tz_aload_n C_ 0 rfl rfl td_M_about_37 ?_
          refine tz_get C_ tci_M 7 (by decide) tw_760 hMT.1 rfl td_M_about_38 ?_
          refine tz_goto C_ td_M_about_41 ?_
          refine tz_riret C_ hr_ hk_ hQ_ rfl td_M_about_60 ?_
          have e9 : sp_about σ (nI k) w = (nI ((tz_cur σ).1 k).1, σ) := by 
            rcases tz_03 h13 with e | e | e | e <;> subst e
            · simp only [sp_about, hpk4]; rfl
            · exact absurd h34 (by decide)
            · exact absurd h34 (by decide)
            · exact absurd h30 (by decide)
          rw [e9]
          exact ⟨rfl, ⟨_, _, _, _, _, _, _, _, _, _, _, ⟨hMT.1, hMT.2.1, hMT.2.2.1, hMT.2.2.2.1, hMT.2.2.2.2.1, hMT.2.2.2.2.2.1, hMT.2.2.2.2.2.2.1, hMT.2.2.2.2.2.2.2.1, hMT.2.2.2.2.2.2.2.2⟩, hE, hH, hQ⟩, (fun q hh => by rw [hqT q (by omega)])⟩
    · skip
      replace h13 := tz_p0.mp h13
      refine tz_aload_n C_ 0 rfl rfl td_M_about_16 ?_
      refine tz_ldc C_ tw_812 td_M_about_17 ?_
      refine tz_cV C_ tmi_M_finding tw_800 tw_14 tw_798 hM.1 rfl (As := [.int (-100001)]) (by exact (ct_M_finding (v := -100001) hM.1)) rfl (rest := []) rfl (by decide) (Nat.le_of_ble_eq_true rfl) td_M_about_19 (st1 := [.int (-100001)]) rfl (fun f12 hF12 => ?_)
      obtain ⟨hs13, hq13⟩ := hF12
      refine tz_riret C_ hr_ hk_ hQ_ rfl td_M_about_22 ?_
      have k14 : f12 (M + 1) = some (tz_ints cs 532 nw) := ((hq13 _ (by omega)).trans hM.2.1)
      have k15 : f12 (M + 2) = some (tz_ints cs 10640 pa) := ((hq13 _ (by omega)).trans hM.2.2.1)
      have k16 : f12 (M + 3) = some (tz_ints cs 4 bi) := ((hq13 _ (by omega)).trans hM.2.2.2.1)
      have k17 : f12 (M + 4) = some (tz_ints cs 4 nu) := ((hq13 _ (by omega)).trans hM.2.2.2.2.1)
      have k18 : f12 (M + 5) = some (tz_ints cs 480 sh) := ((hq13 _ (by omega)).trans hM.2.2.2.2.2.1)
      have k19 : f12 (M + 6) = some (tz_ints cs 120 ro) := ((hq13 _ (by omega)).trans hM.2.2.2.2.2.2.1)
      have k20 : f12 (M + 7) = some (tz_ints cs 120 ma) := ((hq13 _ (by omega)).trans hM.2.2.2.2.2.2.2.1)
      have k21 : f12 (M + 8) = some (tz_ints cs 120 ca) := ((hq13 _ (by omega)).trans hM.2.2.2.2.2.2.2.2)
      have e9 : sp_about σ (nI k) w = (-100001, tz_fnd σ) := by simp only [sp_about, hpk4]; rw [if_neg (fun e => h13 (by rw [e]; decide)), if_neg (fun e => h13 (by rw [e]; decide)), if_neg (fun e => h13 (by rw [e]; decide)), if_neg (fun e => h13 (by rw [e]; decide)), tz_an_f (by decide)]
      rw [e9]
      exact ⟨rfl, ⟨_, _, _, _, _, _, _, _, _, _, _, ⟨hs13, k14, k15, k16, k17, k18, k19, k20, k21⟩, hE, hH, hQ⟩, (fun q hh => by rw [hq13 q (by omega)])⟩

abbrev rm_M_turn : Room := { frames := 2, cells := 0, slots := 0, locals := 44 }
set_option maxHeartbeats 4000000 in
set_option maxRecDepth 100000 in
theorem ct_M_turn {l : Launch} {A : Nat → Prop} {D : va_G} {cs : Nat → ClassId} {sz : Nat} {f : tz_PH} {M : Nat} {σ : tz_SG} (hX : tz_AM cs f M σ) (hW : tz_WF σ) {p i : Int32} : tz_CN l tyM_turn prog_13_method_21_code 4 (some (.int)) rm_M_turn 0 0 A D cs sz [.ref M, .int p, .int i] f (some (.int (sp_turn σ p i).1)) (fun f' => tz_AM cs f' M (sp_turn σ p i).2 ∧ ∀ q, (q < M ∨ M + 9 ≤ q) → f' q = f q) := by
  refine tz_C.ofB (lv0 := [(0, .ref M), (1, .int p), (2, .int i)]) (plainFor_of_name (by decide)) (Nat.le_of_ble_eq_true rfl) rfl ?_
  intro p_ e_ s_ m_ ar_ be_ me_ c_ Q_ C_ hr_ hk_ hnm_ hz_ hQ_
  obtain ⟨ms, ns, tg, nw, pa, bi, nu, sh, ro, ma, ca, hM, hE, hH, hQ⟩ := hX
  have hWT := hW.cur
  have hkp : σ.2.1 ≤ 20 := hW.1
  have hl8 := hWT.2.1
  refine tz_iload_n C_ 1 rfl rfl td_M_turn_0 ?_
  refine tz_rS C_ tmi_M_isPass tw_807 tw_806 (As := [.int p]) (by exact ct_M_isPass) rfl (rest := []) rfl (by decide) (Nat.le_of_ble_eq_true rfl) td_M_turn_1 (st1 := [.int (tz_p (0 ≤ p ∧ p < 4))]) rfl ?_
  refine tz_if_ne C_ td_M_turn_4 (fun h4 => ?_) (fun h4 => ?_)
  · skip
    replace h4 := tz_p1.mp h4
    obtain ⟨k, hk, ek⟩ := tz_pk_in h4
    subst ek
    have hpk4 := tz_pk_N hk
    have hnk : tz_ln σ k ≤ 120 := (hWT.1 k hk).1
    have hNk : ((tz_cur σ).1 k).1 ≤ 120 := (hWT.1 k hk).1
    refine tz_aload_n C_ 0 rfl rfl td_M_turn_14 ?_
    refine tz_iload_n C_ 1 rfl rfl td_M_turn_15 ?_
    refine tz_cV C_ tmi_M_takePass tw_845 tw_18 tw_843 hM.1 rfl (As := [.int (nI k)]) (by exact (ct_M_takePass ⟨hM.1, hM.2.1, hM.2.2.1, hM.2.2.2.1, hM.2.2.2.2.1, hM.2.2.2.2.2.1, hM.2.2.2.2.2.2.1, hM.2.2.2.2.2.2.2.1, hM.2.2.2.2.2.2.2.2⟩ hE hWT (k := k) (by omega))) rfl (rest := []) rfl (by decide) (Nat.le_of_ble_eq_true rfl) td_M_turn_16 (st1 := []) rfl (fun f1 hF1 => ?_)
    obtain ⟨⟨roT, hMT, herT⟩, hqT⟩ := hF1
    refine tz_iload_n C_ 2 rfl rfl td_M_turn_19 ?_
    refine tz_if_ge C_ td_M_turn_20 (fun h20 => ?_) (fun h20 => ?_)
    · skip
      obtain ⟨w9, hw9, e9⟩ := tz_nn (tz_le_nlt h20)
      subst e9
      refine tz_aload_n C_ 0 rfl rfl td_M_turn_27 ?_
      refine tz_iload_n C_ 2 rfl rfl td_M_turn_28 ?_
      refine tz_rV C_ tmi_M_turnAt tw_869 tw_23 tw_867 hMT.1 rfl (As := [.int (nI w9)]) (by exact (ct_M_turnAt ⟨hMT.1, hMT.2.1, hMT.2.2.1, hMT.2.2.2.1, hMT.2.2.2.2.1, hMT.2.2.2.2.2.1, hMT.2.2.2.2.2.2.1, hMT.2.2.2.2.2.2.2.1, hMT.2.2.2.2.2.2.2.2⟩ herT (hWT.1 k hk).2 (hWT.1 k hk).1 (w := w9) (by omega))) rfl (rest := []) rfl (by decide) (Nat.le_of_ble_eq_true rfl) td_M_turn_29 (st1 := [.int (tz_tua ((tz_cur σ).1 k).1 ((tz_cur σ).1 k).2 w9)]) rfl ?_
      refine tz_istore_n C_ (lv' := [(0, .ref M), (1, .int (nI k)), (2, .int (nI w9)), (3, .int (tz_tua ((tz_cur σ).1 k).1 ((tz_cur σ).1 k).2 w9))]) [1, 2, 3, 0] rfl (by decide) rfl td_M_turn_32 ?_
      refine tz_iload_n C_ 3 rfl rfl td_M_turn_33 ?_
      refine tz_if_ge C_ td_M_turn_34 (fun h34 => ?_) (fun h34 => ?_)
      · skip
        refine tz_iload_n C_ 3 rfl rfl td_M_turn_46 ?_
        refine tz_riret C_ hr_ hk_ hQ_ rfl td_M_turn_47 ?_
        have e9 : sp_turn σ (nI k) (nI w9) = (tz_tua ((tz_cur σ).1 k).1 ((tz_cur σ).1 k).2 w9, σ) := by simp only [sp_turn, hpk4]; rw [tz_pl_T hnk ((tz_tua_lt hnk).mp h34), tz_tua_N ((tz_tua_lt hnk).mp h34), tz_an_n (tz_nI_big (Nat.lt_of_lt_of_le (tz_F_in ((tz_tua_lt hnk).mp h34)) (by omega)))]
        rw [e9]
        exact ⟨rfl, ⟨_, _, _, _, _, _, _, _, _, _, _, ⟨hMT.1, hMT.2.1, hMT.2.2.1, hMT.2.2.2.1, hMT.2.2.2.2.1, hMT.2.2.2.2.2.1, hMT.2.2.2.2.2.2.1, hMT.2.2.2.2.2.2.2.1, hMT.2.2.2.2.2.2.2.2⟩, hE, hH, hQ⟩, (fun q hh => by rw [hqT q (by omega)])⟩
      · skip
        refine tz_aload_n C_ 0 rfl rfl td_M_turn_37 ?_
        refine tz_ldc C_ tw_797 td_M_turn_38 ?_
        refine tz_cV C_ tmi_M_finding tw_800 tw_14 tw_798 hMT.1 rfl (As := [.int (-100006)]) (by exact (ct_M_finding (v := -100006) hMT.1)) rfl (rest := []) rfl (by decide) (Nat.le_of_ble_eq_true rfl) td_M_turn_40 (st1 := [.int (-100006)]) rfl (fun f2 hF2 => ?_)
        obtain ⟨hs3, hq3⟩ := hF2
        refine tz_goto C_ td_M_turn_43 ?_
        refine tz_riret C_ hr_ hk_ hQ_ rfl td_M_turn_47 ?_
        have k4 : f2 (M + 1) = some (tz_ints cs 532 nw) := ((hq3 _ (by omega)).trans hMT.2.1)
        have k5 : f2 (M + 2) = some (tz_ints cs 10640 pa) := ((hq3 _ (by omega)).trans hMT.2.2.1)
        have k6 : f2 (M + 3) = some (tz_ints cs 4 bi) := ((hq3 _ (by omega)).trans hMT.2.2.2.1)
        have k7 : f2 (M + 4) = some (tz_ints cs 4 nu) := ((hq3 _ (by omega)).trans hMT.2.2.2.2.1)
        have k8 : f2 (M + 5) = some (tz_ints cs 480 sh) := ((hq3 _ (by omega)).trans hMT.2.2.2.2.2.1)
        have k9 : f2 (M + 6) = some (tz_ints cs 120 roT) := ((hq3 _ (by omega)).trans hMT.2.2.2.2.2.2.1)
        have k10 : f2 (M + 7) = some (tz_ints cs 120 ma) := ((hq3 _ (by omega)).trans hMT.2.2.2.2.2.2.2.1)
        have k11 : f2 (M + 8) = some (tz_ints cs 120 ca) := ((hq3 _ (by omega)).trans hMT.2.2.2.2.2.2.2.2)
        have e9 : sp_turn σ (nI k) (nI w9) = (-100006, tz_fnd σ) := by simp only [sp_turn, hpk4]; rw [tz_pl_o (Nat.le_trans (tz_ct_le _ _) hnk) hw9 (mt (tz_tua_lt hnk).mpr h34), tz_an_f (by decide)]
        rw [e9]
        exact ⟨rfl, ⟨_, _, _, _, _, _, _, _, _, _, _, ⟨hs3, k4, k5, k6, k7, k8, k9, k10, k11⟩, hE, hH, hQ⟩, (fun q hh => by rw [hq3 q (by omega), hqT q (by omega)])⟩
    · skip
      refine tz_iconst C_ (v := -1) (by decide) td_M_turn_23 ?_
      refine tz_goto C_ td_M_turn_24 ?_
      refine tz_istore_n C_ (lv' := [(0, .ref M), (1, .int (nI k)), (2, .int i), (3, .int (-1))]) [1, 2, 3, 0] rfl (by decide) rfl td_M_turn_32 ?_
      refine tz_iload_n C_ 3 rfl rfl td_M_turn_33 ?_
      refine tz_if_ge C_ td_M_turn_34 (fun h34 => ?_) (fun h34 => ?_)
      · skip
        exact absurd h34 (by decide)
      · skip
        refine tz_aload_n C_ 0 rfl rfl td_M_turn_37 ?_
        refine tz_ldc C_ tw_797 td_M_turn_38 ?_
        refine tz_cV C_ tmi_M_finding tw_800 tw_14 tw_798 hMT.1 rfl (As := [.int (-100006)]) (by exact (ct_M_finding (v := -100006) hMT.1)) rfl (rest := []) rfl (by decide) (Nat.le_of_ble_eq_true rfl) td_M_turn_40 (st1 := [.int (-100006)]) rfl (fun f12 hF12 => ?_)
        obtain ⟨hs13, hq13⟩ := hF12
        refine tz_goto C_ td_M_turn_43 ?_
        refine tz_riret C_ hr_ hk_ hQ_ rfl td_M_turn_47 ?_
        have k14 : f12 (M + 1) = some (tz_ints cs 532 nw) := ((hq13 _ (by omega)).trans hMT.2.1)
        have k15 : f12 (M + 2) = some (tz_ints cs 10640 pa) := ((hq13 _ (by omega)).trans hMT.2.2.1)
        have k16 : f12 (M + 3) = some (tz_ints cs 4 bi) := ((hq13 _ (by omega)).trans hMT.2.2.2.1)
        have k17 : f12 (M + 4) = some (tz_ints cs 4 nu) := ((hq13 _ (by omega)).trans hMT.2.2.2.2.1)
        have k18 : f12 (M + 5) = some (tz_ints cs 480 sh) := ((hq13 _ (by omega)).trans hMT.2.2.2.2.2.1)
        have k19 : f12 (M + 6) = some (tz_ints cs 120 roT) := ((hq13 _ (by omega)).trans hMT.2.2.2.2.2.2.1)
        have k20 : f12 (M + 7) = some (tz_ints cs 120 ma) := ((hq13 _ (by omega)).trans hMT.2.2.2.2.2.2.2.1)
        have k21 : f12 (M + 8) = some (tz_ints cs 120 ca) := ((hq13 _ (by omega)).trans hMT.2.2.2.2.2.2.2.2)
        have e9 : sp_turn σ (nI k) i = (-100006, tz_fnd σ) := by simp only [sp_turn, hpk4]; rw [tz_pl_m h20, tz_an_f (by decide)]
        rw [e9]
        exact ⟨rfl, ⟨_, _, _, _, _, _, _, _, _, _, _, ⟨hs13, k14, k15, k16, k17, k18, k19, k20, k21⟩, hE, hH, hQ⟩, (fun q hh => by rw [hq13 q (by omega), hqT q (by omega)])⟩
  · skip
    replace h4 := tz_p0.mp h4
    have hpk4 := tz_pk_out h4
    refine tz_aload_n C_ 0 rfl rfl td_M_turn_7 ?_
    refine tz_ldc C_ tw_812 td_M_turn_8 ?_
    refine tz_cV C_ tmi_M_finding tw_800 tw_14 tw_798 hM.1 rfl (As := [.int (-100001)]) (by exact (ct_M_finding (v := -100001) hM.1)) rfl (rest := []) rfl (by decide) (Nat.le_of_ble_eq_true rfl) td_M_turn_10 (st1 := [.int (-100001)]) rfl (fun f22 hF22 => ?_)
    obtain ⟨hs23, hq23⟩ := hF22
    refine tz_riret C_ hr_ hk_ hQ_ rfl td_M_turn_13 ?_
    have k24 : f22 (M + 1) = some (tz_ints cs 532 nw) := ((hq23 _ (by omega)).trans hM.2.1)
    have k25 : f22 (M + 2) = some (tz_ints cs 10640 pa) := ((hq23 _ (by omega)).trans hM.2.2.1)
    have k26 : f22 (M + 3) = some (tz_ints cs 4 bi) := ((hq23 _ (by omega)).trans hM.2.2.2.1)
    have k27 : f22 (M + 4) = some (tz_ints cs 4 nu) := ((hq23 _ (by omega)).trans hM.2.2.2.2.1)
    have k28 : f22 (M + 5) = some (tz_ints cs 480 sh) := ((hq23 _ (by omega)).trans hM.2.2.2.2.2.1)
    have k29 : f22 (M + 6) = some (tz_ints cs 120 ro) := ((hq23 _ (by omega)).trans hM.2.2.2.2.2.2.1)
    have k30 : f22 (M + 7) = some (tz_ints cs 120 ma) := ((hq23 _ (by omega)).trans hM.2.2.2.2.2.2.2.1)
    have k31 : f22 (M + 8) = some (tz_ints cs 120 ca) := ((hq23 _ (by omega)).trans hM.2.2.2.2.2.2.2.2)
    have e9 : sp_turn σ p i = (-100001, tz_fnd σ) := by simp only [sp_turn, hpk4]; rw [tz_an_f (by decide)]
    rw [e9]
    exact ⟨rfl, ⟨_, _, _, _, _, _, _, _, _, _, _, ⟨hs23, k24, k25, k26, k27, k28, k29, k30, k31⟩, hE, hH, hQ⟩, (fun q hh => by rw [hq23 q (by omega)])⟩
