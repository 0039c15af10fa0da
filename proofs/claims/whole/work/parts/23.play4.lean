
theorem tz_nI_of {k lo hi : Int32} {a b : Nat} (h1 : lo ≤ k) (h2 : k ≤ hi) (ha : lo.toInt = a) (hb : hi.toInt = b) : ∃ j : Nat, (a ≤ j ∧ j ≤ b) ∧ k = nI j := by
  have h3 := Int32.le_iff_toInt_le.mp h1
  have h4 := Int32.le_iff_toInt_le.mp h2
  rw [ha] at h3; rw [hb] at h4
  have h5 : b < 2 ^ 31 := by have := Int32.toInt_lt hi; omega
  refine ⟨k.toInt.toNat, ⟨by omega, by omega⟩, ?_⟩
  apply Int32.toInt_inj.mp
  rw [nI_toInt (by omega)]
  omega
theorem tz_can_cases {k a b : Int32} (h : tz_can k a b) : (k = 0 ∧ -400 ≤ a ∧ a ≤ 400) ∨ (k = 1 ∧ 1 ≤ a ∧ a ≤ 40000) ∨ (k = 2 ∧ (0 ≤ a ∧ a ≤ 3) ∧ 0 ≤ b ∧ b ≤ 9) ∨ (k = 3 ∧ 1 ≤ a ∧ a ≤ 20) ∨ (k = 4 ∧ 1 ≤ a ∧ a ≤ 30) ∨ (k = 5 ∧ (0 ≤ a ∧ a ≤ 119) ∧ 1 ≤ b ∧ b ≤ 120) ∨ (k = 6 ∧ 1 ≤ a ∧ a ≤ 120) := by
  obtain ⟨h1, h2, h3, h4, h5, h6⟩ := h
  obtain ⟨j, hj, e⟩ := tz_nI_of (lo := 0) (hi := 6) (a := 0) (b := 6) h1 h2 rfl rfl
  subst e
  rw [nI_clamp (by omega)] at h3 h4
  rcases (show j = 0 ∨ j = 1 ∨ j = 2 ∨ j = 3 ∨ j = 4 ∨ j = 5 ∨ j = 6 by omega) with e | e | e | e | e | e | e <;> subst e
  · exact Or.inl ⟨rfl, h3, h4⟩
  · exact Or.inr (Or.inl ⟨rfl, h3, h4⟩)
  · exact Or.inr (Or.inr (Or.inl ⟨rfl, ⟨h3, h4⟩, h5.resolve_left (fun z => z rfl)⟩))
  · exact Or.inr (Or.inr (Or.inr (Or.inl ⟨rfl, h3, h4⟩)))
  · exact Or.inr (Or.inr (Or.inr (Or.inr (Or.inl ⟨rfl, h3, h4⟩))))
  · exact Or.inr (Or.inr (Or.inr (Or.inr (Or.inr (Or.inl ⟨rfl, ⟨h3, h4⟩, h6.resolve_left (fun z => z rfl)⟩)))))
  · exact Or.inr (Or.inr (Or.inr (Or.inr (Or.inr (Or.inr ⟨rfl, h3, h4⟩)))))
theorem tz_can2 {k a b : Int32} (h : tz_can k a b) (hk : k = 2) : ∃ p w : Nat, p < 4 ∧ w ≤ 9 ∧ a = nI p ∧ b = nI w := by
  subst hk
  rcases tz_can_cases h with z | z | z | z | z | z | z
  · exact absurd z.1 (by decide)
  · exact absurd z.1 (by decide)
  · obtain ⟨p, hp, e⟩ := tz_nI_of (a := 0) (b := 3) z.2.1.1 z.2.1.2 rfl rfl
    obtain ⟨w, hw, e2⟩ := tz_nI_of (a := 0) (b := 9) z.2.2.1 z.2.2.2 rfl rfl
    exact ⟨p, w, by omega, by omega, e, e2⟩
  · exact absurd z.1 (by decide)
  · exact absurd z.1 (by decide)
  · exact absurd z.1 (by decide)
  · exact absurd z.1 (by decide)
theorem tz_can4 {k a b : Int32} (h : tz_can k a b) (hk : k = 4) : ∃ v : Nat, (1 ≤ v ∧ v ≤ 30) ∧ a = nI v := by
  subst hk
  rcases tz_can_cases h with z | z | z | z | z | z | z
  · exact absurd z.1 (by decide)
  · exact absurd z.1 (by decide)
  · exact absurd z.1 (by decide)
  · exact absurd z.1 (by decide)
  · exact tz_nI_of (a := 1) (b := 30) z.2.1 z.2.2 rfl rfl
  · exact absurd z.1 (by decide)
  · exact absurd z.1 (by decide)
theorem tz_can6 {k a b : Int32} (h : tz_can k a b) (h0 : ¬ k = 0) (h1 : ¬ k = 1) (h2 : ¬ k = 2) (h3 : ¬ k = 3) (h4 : ¬ k = 4) (h5 : ¬ k = 5) : k = 6 ∧ 1 ≤ a ∧ a ≤ 120 := by
  rcases tz_can_cases h with z | z | z | z | z | z | z
  · exact absurd z.1 h0
  · exact absurd z.1 h1
  · exact absurd z.1 h2
  · exact absurd z.1 h3
  · exact absurd z.1 h4
  · exact absurd z.1 h5
  · exact z
theorem tz_p1_ne {a : Int32} (h1 : 1 ≤ a) (h2 : a ≤ 120) : ¬ a + 1 = 0 := by
  obtain ⟨j, hj, e⟩ := tz_nI_of (a := 1) (b := 120) h1 h2 rfl rfl
  subst e
  rw [nI_1]
  exact nI_ne0 (by omega) (by omega)
/-- what a layer makes of a row, and of a place that is followed -/
def tz_fx (v : tz_V4) (R : tz_RR) (n : Nat) (g : Nat → Int32) : Nat × (Nat → Int32) :=
  if v.1 = 0 then (n, fun j => tz_gn v.2.1 (g j)) else
  if v.1 = 1 then (n, tz_md n g v.2.1) else
  if v.1 = 2 then (n, tz_fi g n (R v.2.1.toNatClampNeg).1 (R v.2.1.toNatClampNeg).2 v.2.2.1.toNatClampNeg) else
  if v.1 = 3 then (n, tz_br n g v.2.1) else
  if v.1 = 4 then (tz_wn n g v.2.1.toNatClampNeg, tz_wg n g v.2.1.toNatClampNeg) else
  if v.1 = 5 then (tz_ct (tz_kp v.2.1 v.2.2.1) n, fun j => g (tz_nth (tz_kp v.2.1 v.2.2.1) n j)) else
  (n, tz_fa g v.2.1)
def tz_ff (v : tz_V4) (n : Nat) (g : Nat → Int32) (fo : Int32) : Int32 :=
  if v.1 = 4 then tz_wf n g v.2.1.toNatClampNeg fo else if v.1 = 5 then tz_cf v.2.1 v.2.2.1 fo else fo
theorem tz_wn_le {n v : Nat} {g : Nat → Int32} (hn : n ≤ 120) : tz_wn n g v ≤ 120 := by
  unfold tz_wn
  split
  · exact hn
  · exact tz_wl_le
theorem tz_fx_le {v : tz_V4} {R : tz_RR} {n : Nat} {g : Nat → Int32} (hn : n ≤ 120) : (tz_fx v R n g).1 ≤ 120 := by
  unfold tz_fx
  repeat' split
  all_goals first | exact hn | exact tz_wn_le hn | (have := tz_ct_le (tz_kp v.2.1 v.2.2.1) n; omega)

abbrev rm_P_makeNext : Room := { frames := 4, cells := 0, slots := 0, locals := 101 }
set_option maxHeartbeats 4000000 in
set_option maxRecDepth 100000 in
theorem ct_P_makeNext {l : Launch} {A : Nat → Prop} {D : va_G} {cs : Nat → ClassId} {sz : Nat} {f : tz_PH} {a r x k tn n : Nat} {fo z : Int32} {tg g g2 : Nat → Int32} (hP : tz_Pl cs f a r x fo z k tn tg n g 0 g2) (hn : n ≤ 120) (htn : tn ≤ 120) {h : Nat} {v4 : tz_V4} (hL : f h = some (tz_lay v4)) (hc : tz_can v4.1 v4.2.1 v4.2.2.1) {t nl : Nat} {R : tz_RR} {o : Nat → Option Nat} {mp ml : Nat → Int32} (hT : tz_Tape cs f t R nl o mp ml) (hRn : ∀ p, p < 4 → (R p).1 ≤ 120) (hs1 : h < a ∨ a + 8 ≤ h) (hs2 : t + 14 ≤ a ∨ a + 8 ≤ t) : tz_CN l tyP_makeNext prog_6_method_4_code 3 (none) rm_P_makeNext 0 0 A D cs sz [.ref a, .ref h, .ref t] f (none) (fun f' => (∃ (fo' z' : Int32) (k' tn' : Nat) (tg' gx : Nat → Int32), tz_Pl cs f' a r x fo' z' k' tn' tg' n g (tz_fx v4 R n g).1 gx ∧ (∀ j, j < (tz_fx v4 R n g).1 → gx j = (tz_fx v4 R n g).2 j) ∧ fo' = tz_ff v4 n g fo ∧ tn' ≤ 120) ∧ ∀ q, (q < a ∨ a + 8 ≤ q) → f' q = f q) := by
  refine tz_C.ofB (lv0 := [(0, .ref a), (1, .ref h), (2, .ref t)]) (plainFor_of_name (by decide)) (Nat.le_of_ble_eq_true rfl) rfl ?_
  intro p_ e_ s_ m_ ar_ be_ me_ c_ Q_ C_ hr_ hk_ hnm_ hz_ hQ_
  have hrx := hP.2.2.2.2.2
  have hTn := tz_T_le (n := n) (g := g)
  refine tz_aload_n C_ 1 rfl rfl td_P_makeNext_0 ?_
  refine tz_get C_ tci_L 0 (by decide) tw_492 hL rfl td_P_makeNext_1 ?_
  by_cases h4_0 : v4.1 = 0
  · skip
    refine tz_tableIn C_ td_P_makeNext_4 (off := 40) (tgt := 44) (by rw [h4_0]; decide) (by decide) ?_
    refine tz_aload_n C_ 0 rfl rfl td_P_makeNext_44 ?_
    refine tz_aload_n C_ 1 rfl rfl td_P_makeNext_45 ?_
    refine tz_get C_ tci_L 1 (by decide) tw_495 hL rfl td_P_makeNext_46 ?_
    refine tz_cV C_ tmi_P_gain tw_574 tw_4 tw_572 hP.1 rfl (As := [.int v4.2.1]) (by exact (ct_P_gain ⟨hP.1, hP.2.1, ⟨hP.2.2.1.1, hP.2.2.1.2⟩, ⟨hP.2.2.2.1.1, hP.2.2.2.1.2⟩, ⟨hP.2.2.2.2.1.1, hP.2.2.2.2.1.2⟩, hrx⟩ hn)) rfl (rest := []) rfl (by decide) (Nat.le_of_ble_eq_true rfl) td_P_makeNext_49 (st1 := []) rfl (fun f1 hF1 => ?_)
    obtain ⟨hP2, hq2⟩ := hF1
    refine tz_goto C_ td_P_makeNext_52 ?_
    refine tz_rvret C_ hr_ hk_ hQ_ rfl td_P_makeNext_130 ?_
    have k3 : f1 a = some (tz_obj 4 [.ref (a + 1), .ref (a + 2), .ref r, .ref x, .int fo]) := ((hq2 _ (by omega)).trans hP.1)
    have k4 : f1 (a + 1) = some (tz_obj 0 [.int z, .int (nI k)]) := ((hq2 _ (by omega)).trans hP.2.1)
    have k5 : f1 (a + 2) = some (tz_obj 9 [.ref (a + 2 + 1), .int (nI tn)]) := ((hq2 _ (by omega)).trans hP.2.2.1.1)
    have k6 : f1 (a + 2 + 1) = some (tz_ints cs 120 tg) := ((hq2 _ (by omega)).trans hP.2.2.1.2)
    have k7 : f1 r = some (tz_obj 5 [.ref (r + 1), .int (nI n)]) := ((hq2 _ (by omega)).trans hP.2.2.2.1.1)
    have k8 : f1 (r + 1) = some (tz_ints cs 120 g) := ((hq2 _ (by omega)).trans hP.2.2.2.1.2)
    have eX : tz_fx v4 R n g = (n, fun j => tz_gn v4.2.1 (g j)) := by
      rw [tz_fx, if_pos h4_0]
      try skip
    have eF : tz_ff v4 n g fo = fo := by
      rw [tz_ff, if_neg (by rw [h4_0]; decide), if_neg (by rw [h4_0]; decide)]
      try rfl
    have hle := tz_fx_le (v := v4) (R := R) (g := g) hn
    rw [eX] at hle ⊢
    rw [eF]
    exact ⟨rfl, ⟨_, _, _, _, _, _, ⟨k3, k4, ⟨k5, k6⟩, ⟨k7, k8⟩, ⟨hP2.1, hP2.2⟩, hrx⟩, fun j hj => tz_fl_in hj, rfl, htn⟩, (fun q hh => by rw [hq2 q (by omega)])⟩
  by_cases h4_1 : v4.1 = 1
  · skip
    refine tz_tableIn C_ td_P_makeNext_4 (off := 51) (tgt := 55) (by rw [h4_1]; decide) (by decide) ?_
    refine tz_aload_n C_ 0 rfl rfl td_P_makeNext_55 ?_
    refine tz_aload_n C_ 1 rfl rfl td_P_makeNext_56 ?_
    refine tz_get C_ tci_L 1 (by decide) tw_495 hL rfl td_P_makeNext_57 ?_
    refine tz_cV C_ tmi_P_mend tw_584 tw_5 tw_582 hP.1 rfl (As := [.int v4.2.1]) (by exact (ct_P_mend ⟨hP.1, hP.2.1, ⟨hP.2.2.1.1, hP.2.2.1.2⟩, ⟨hP.2.2.2.1.1, hP.2.2.2.1.2⟩, ⟨hP.2.2.2.2.1.1, hP.2.2.2.2.1.2⟩, hrx⟩ hn)) rfl (rest := []) rfl (by decide) (Nat.le_of_ble_eq_true rfl) td_P_makeNext_60 (st1 := []) rfl (fun f9 hF9 => ?_)
    obtain ⟨hP10, hq10⟩ := hF9
    refine tz_goto C_ td_P_makeNext_63 ?_
    refine tz_rvret C_ hr_ hk_ hQ_ rfl td_P_makeNext_130 ?_
    have k11 : f9 a = some (tz_obj 4 [.ref (a + 1), .ref (a + 2), .ref r, .ref x, .int fo]) := ((hq10 _ (by omega)).trans hP.1)
    have k12 : f9 (a + 1) = some (tz_obj 0 [.int z, .int (nI k)]) := ((hq10 _ (by omega)).trans hP.2.1)
    have k13 : f9 (a + 2) = some (tz_obj 9 [.ref (a + 2 + 1), .int (nI tn)]) := ((hq10 _ (by omega)).trans hP.2.2.1.1)
    have k14 : f9 (a + 2 + 1) = some (tz_ints cs 120 tg) := ((hq10 _ (by omega)).trans hP.2.2.1.2)
    have k15 : f9 r = some (tz_obj 5 [.ref (r + 1), .int (nI n)]) := ((hq10 _ (by omega)).trans hP.2.2.2.1.1)
    have k16 : f9 (r + 1) = some (tz_ints cs 120 g) := ((hq10 _ (by omega)).trans hP.2.2.2.1.2)
    have eX : tz_fx v4 R n g = (n, tz_md n g v4.2.1) := by
      rw [tz_fx, if_neg h4_0, if_pos h4_1]
      try skip
    have eF : tz_ff v4 n g fo = fo := by
      rw [tz_ff, if_neg (by rw [h4_1]; decide), if_neg (by rw [h4_1]; decide)]
      try rfl
    have hle := tz_fx_le (v := v4) (R := R) (g := g) hn
    rw [eX] at hle ⊢
    rw [eF]
    exact ⟨rfl, ⟨_, _, _, _, _, _, ⟨k11, k12, ⟨k13, k14⟩, ⟨k15, k16⟩, ⟨hP10.1, hP10.2⟩, hrx⟩, fun j hj => tz_fl_in hj, rfl, htn⟩, (fun q hh => by rw [hq10 q (by omega)])⟩
  by_cases h4_2 : v4.1 = 2
  · skip
    refine tz_tableIn C_ td_P_makeNext_4 (off := 62) (tgt := 66) (by rw [h4_2]; decide) (by decide) ?_
    obtain ⟨pp, ww, hpp, hww, epp, eww⟩ := tz_can2 hc h4_2
    refine tz_aload_n C_ 0 rfl rfl td_P_makeNext_66 ?_
    refine tz_aload_n C_ 2 rfl rfl td_P_makeNext_67 ?_
    refine tz_aload_n C_ 1 rfl rfl td_P_makeNext_68 ?_
    refine tz_get C_ tci_L 1 (by decide) tw_495 hL rfl td_P_makeNext_69 ?_
    refine tz_rV C_ tmi_T_rowAt tw_270 tw_271 tw_587 hT.1 rfl (As := [.int v4.2.1]) (by exact (ct_T_rowAt hT)) rfl (rest := [.ref a]) rfl (by decide) (Nat.le_of_ble_eq_true rfl) td_P_makeNext_72 (st1 := [va_rf (tz_rof t v4.2.1), .ref a]) rfl ?_
    rw [show tz_rof t v4.2.1 = some (t + 6 + 2 * pp) from by rw [epp]; exact tz_rof_N hpp]
    refine tz_aload_n C_ 1 rfl rfl td_P_makeNext_75 ?_
    refine tz_get C_ tci_L 2 (by decide) tw_498 hL rfl td_P_makeNext_76 ?_
    refine tz_cV C_ tmi_P_fill tw_590 tw_6 tw_588 hP.1 rfl (As := [.ref (t + 6 + 2 * pp), .int v4.2.2.1]) (by exact (by rw [eww]; exact (ct_P_fill ⟨hP.1, hP.2.1, ⟨hP.2.2.1.1, hP.2.2.1.2⟩, ⟨hP.2.2.2.1.1, hP.2.2.2.1.2⟩, ⟨hP.2.2.2.2.1.1, hP.2.2.2.2.1.2⟩, hrx⟩ hn ⟨(hT.2.2.2.2.2 pp hpp).1, (hT.2.2.2.2.2 pp hpp).2⟩ (hRn pp hpp) hww (by omega)))) rfl (rest := []) rfl (by decide) (Nat.le_of_ble_eq_true rfl) td_P_makeNext_79 (st1 := []) rfl (fun f17 hF17 => ?_)
    obtain ⟨⟨z2, k2, gx, hA18, hX18, hgx⟩, hq18⟩ := hF17
    refine tz_goto C_ td_P_makeNext_82 ?_
    refine tz_rvret C_ hr_ hk_ hQ_ rfl td_P_makeNext_130 ?_
    have k19 : f17 a = some (tz_obj 4 [.ref (a + 1), .ref (a + 2), .ref r, .ref x, .int fo]) := ((hq18 _ (by omega)).trans hP.1)
    have k20 : f17 (a + 2) = some (tz_obj 9 [.ref (a + 2 + 1), .int (nI tn)]) := ((hq18 _ (by omega)).trans hP.2.2.1.1)
    have k21 : f17 (a + 2 + 1) = some (tz_ints cs 120 tg) := ((hq18 _ (by omega)).trans hP.2.2.1.2)
    have k22 : f17 r = some (tz_obj 5 [.ref (r + 1), .int (nI n)]) := ((hq18 _ (by omega)).trans hP.2.2.2.1.1)
    have k23 : f17 (r + 1) = some (tz_ints cs 120 g) := ((hq18 _ (by omega)).trans hP.2.2.2.1.2)
    have eX : tz_fx v4 R n g = (n, tz_fi g n (R pp).1 (R pp).2 ww) := by
      rw [tz_fx, if_neg h4_0, if_neg h4_1, if_pos h4_2]
      rw [eww, epp, nI_clamp (by omega), nI_clamp (by omega)]
    have eF : tz_ff v4 n g fo = fo := by
      rw [tz_ff, if_neg (by rw [h4_2]; decide), if_neg (by rw [h4_2]; decide)]
      try rfl
    have hle := tz_fx_le (v := v4) (R := R) (g := g) hn
    rw [eX] at hle ⊢
    rw [eF]
    exact ⟨rfl, ⟨_, _, _, _, _, _, ⟨k19, hA18, ⟨k20, k21⟩, ⟨k22, k23⟩, ⟨hX18.1, hX18.2⟩, hrx⟩, fun j hj => hgx j hj, rfl, htn⟩, (fun q hh => by rw [hq18 q (by omega)])⟩
  by_cases h4_3 : v4.1 = 3
  · skip
    refine tz_tableIn C_ td_P_makeNext_4 (off := 81) (tgt := 85) (by rw [h4_3]; decide) (by decide) ?_
    refine tz_aload_n C_ 0 rfl rfl td_P_makeNext_85 ?_
    refine tz_aload_n C_ 1 rfl rfl td_P_makeNext_86 ?_
    refine tz_get C_ tci_L 1 (by decide) tw_495 hL rfl td_P_makeNext_87 ?_
    refine tz_cV C_ tmi_P_bridge tw_611 tw_7 tw_609 hP.1 rfl (As := [.int v4.2.1]) (by exact (ct_P_bridge ⟨hP.1, hP.2.1, ⟨hP.2.2.1.1, hP.2.2.1.2⟩, ⟨hP.2.2.2.1.1, hP.2.2.2.1.2⟩, ⟨hP.2.2.2.2.1.1, hP.2.2.2.2.1.2⟩, hrx⟩ hn)) rfl (rest := []) rfl (by decide) (Nat.le_of_ble_eq_true rfl) td_P_makeNext_90 (st1 := []) rfl (fun f24 hF24 => ?_)
    obtain ⟨⟨gx, hX25, hgx⟩, hq25⟩ := hF24
    refine tz_goto C_ td_P_makeNext_93 ?_
    refine tz_rvret C_ hr_ hk_ hQ_ rfl td_P_makeNext_130 ?_
    have k26 : f24 a = some (tz_obj 4 [.ref (a + 1), .ref (a + 2), .ref r, .ref x, .int fo]) := ((hq25 _ (by omega)).trans hP.1)
    have k27 : f24 (a + 1) = some (tz_obj 0 [.int z, .int (nI k)]) := ((hq25 _ (by omega)).trans hP.2.1)
    have k28 : f24 (a + 2) = some (tz_obj 9 [.ref (a + 2 + 1), .int (nI tn)]) := ((hq25 _ (by omega)).trans hP.2.2.1.1)
    have k29 : f24 (a + 2 + 1) = some (tz_ints cs 120 tg) := ((hq25 _ (by omega)).trans hP.2.2.1.2)
    have k30 : f24 r = some (tz_obj 5 [.ref (r + 1), .int (nI n)]) := ((hq25 _ (by omega)).trans hP.2.2.2.1.1)
    have k31 : f24 (r + 1) = some (tz_ints cs 120 g) := ((hq25 _ (by omega)).trans hP.2.2.2.1.2)
    have eX : tz_fx v4 R n g = (n, tz_br n g v4.2.1) := by
      rw [tz_fx, if_neg h4_0, if_neg h4_1, if_neg h4_2, if_pos h4_3]
      try skip
    have eF : tz_ff v4 n g fo = fo := by
      rw [tz_ff, if_neg (by rw [h4_3]; decide), if_neg (by rw [h4_3]; decide)]
      try rfl
    have hle := tz_fx_le (v := v4) (R := R) (g := g) hn
    rw [eX] at hle ⊢
    rw [eF]
    exact ⟨rfl, ⟨_, _, _, _, _, _, ⟨k26, k27, ⟨k28, k29⟩, ⟨k30, k31⟩, ⟨hX25.1, hX25.2⟩, hrx⟩, fun j hj => hgx j hj, rfl, htn⟩, (fun q hh => by rw [hq25 q (by omega)])⟩
  by_cases h4_4 : v4.1 = 4
  · skip
    refine tz_tableIn C_ td_P_makeNext_4 (off := 92) (tgt := 96) (by rw [h4_4]; decide) (by decide) ?_
    obtain ⟨vv, hvv, evv⟩ := tz_can4 hc h4_4
    refine tz_aload_n C_ 0 rfl rfl td_P_makeNext_96 ?_
    refine tz_aload_n C_ 1 rfl rfl td_P_makeNext_97 ?_
    refine tz_get C_ tci_L 1 (by decide) tw_495 hL rfl td_P_makeNext_98 ?_
    refine tz_cV C_ tmi_P_warp tw_622 tw_9 tw_620 hP.1 rfl (As := [.int v4.2.1]) (by exact (by rw [evv]; exact (ct_P_warp ⟨hP.1, hP.2.1, ⟨hP.2.2.1.1, hP.2.2.1.2⟩, ⟨hP.2.2.2.1.1, hP.2.2.2.1.2⟩, ⟨hP.2.2.2.2.1.1, hP.2.2.2.2.1.2⟩, hrx⟩ hn hvv))) rfl (rest := []) rfl (by decide) (Nat.le_of_ble_eq_true rfl) td_P_makeNext_101 (st1 := []) rfl (fun f32 hF32 => ?_)
    obtain ⟨⟨fo2, tg2, gx, ha33, hT33, hX33, hgx, hfo⟩, hq33⟩ := hF32
    refine tz_goto C_ td_P_makeNext_104 ?_
    refine tz_rvret C_ hr_ hk_ hQ_ rfl td_P_makeNext_130 ?_
    have k34 : f32 (a + 1) = some (tz_obj 0 [.int z, .int (nI k)]) := ((hq33 _ (by omega)).trans hP.2.1)
    have k35 : f32 r = some (tz_obj 5 [.ref (r + 1), .int (nI n)]) := ((hq33 _ (by omega)).trans hP.2.2.2.1.1)
    have k36 : f32 (r + 1) = some (tz_ints cs 120 g) := ((hq33 _ (by omega)).trans hP.2.2.2.1.2)
    have eX : tz_fx v4 R n g = ((tz_wn n g vv), tz_wg n g vv) := by
      rw [tz_fx, if_neg h4_0, if_neg h4_1, if_neg h4_2, if_neg h4_3, if_pos h4_4]
      rw [evv, nI_clamp (by omega)]
    have eF : tz_ff v4 n g fo = tz_wf n g vv fo := by
      rw [tz_ff, if_pos h4_4]
      try rw [evv, nI_clamp (by omega)]
    have hle := tz_fx_le (v := v4) (R := R) (g := g) hn
    rw [eX] at hle ⊢
    rw [eF]
    exact ⟨rfl, ⟨_, _, _, _, _, _, ⟨ha33, k34, ⟨hT33.1, hT33.2⟩, ⟨k35, k36⟩, ⟨hX33.1, hX33.2⟩, hrx⟩, fun j hj => hgx j hj, hfo, by omega⟩, (fun q hh => by rw [hq33 q (by omega)])⟩
  by_cases h4_5 : v4.1 = 5
  · skip
    refine tz_tableIn C_ td_P_makeNext_4 (off := 103) (tgt := 107) (by rw [h4_5]; decide) (by decide) ?_
    refine tz_aload_n C_ 0 rfl rfl td_P_makeNext_107 ?_
    refine tz_aload_n C_ 1 rfl rfl td_P_makeNext_108 ?_
    refine tz_get C_ tci_L 1 (by decide) tw_495 hL rfl td_P_makeNext_109 ?_
    refine tz_aload_n C_ 1 rfl rfl td_P_makeNext_112 ?_
    refine tz_get C_ tci_L 2 (by decide) tw_498 hL rfl td_P_makeNext_113 ?_
    refine tz_cV C_ tmi_P_cut tw_642 tw_12 tw_640 hP.1 rfl (As := [.int v4.2.1, .int v4.2.2.1]) (by exact (ct_P_cut ⟨hP.1, hP.2.1, ⟨hP.2.2.1.1, hP.2.2.1.2⟩, ⟨hP.2.2.2.1.1, hP.2.2.2.1.2⟩, ⟨hP.2.2.2.2.1.1, hP.2.2.2.2.1.2⟩, hrx⟩ hn)) rfl (rest := []) rfl (by decide) (Nat.le_of_ble_eq_true rfl) td_P_makeNext_116 (st1 := []) rfl (fun f37 hF37 => ?_)
    obtain ⟨⟨gx, ha38, hX38, hgx⟩, hq38⟩ := hF37
    refine tz_goto C_ td_P_makeNext_119 ?_
    refine tz_rvret C_ hr_ hk_ hQ_ rfl td_P_makeNext_130 ?_
    have k39 : f37 (a + 1) = some (tz_obj 0 [.int z, .int (nI k)]) := ((hq38 _ (by omega)).trans hP.2.1)
    have k40 : f37 (a + 2) = some (tz_obj 9 [.ref (a + 2 + 1), .int (nI tn)]) := ((hq38 _ (by omega)).trans hP.2.2.1.1)
    have k41 : f37 (a + 2 + 1) = some (tz_ints cs 120 tg) := ((hq38 _ (by omega)).trans hP.2.2.1.2)
    have k42 : f37 r = some (tz_obj 5 [.ref (r + 1), .int (nI n)]) := ((hq38 _ (by omega)).trans hP.2.2.2.1.1)
    have k43 : f37 (r + 1) = some (tz_ints cs 120 g) := ((hq38 _ (by omega)).trans hP.2.2.2.1.2)
    have eX : tz_fx v4 R n g = ((tz_ct (tz_kp v4.2.1 v4.2.2.1) n), fun j => g (tz_nth (tz_kp v4.2.1 v4.2.2.1) n j)) := by
      rw [tz_fx, if_neg h4_0, if_neg h4_1, if_neg h4_2, if_neg h4_3, if_neg h4_4, if_pos h4_5]
      try skip
    have eF : tz_ff v4 n g fo = tz_cf v4.2.1 v4.2.2.1 fo := by
      rw [tz_ff, if_neg h4_4, if_pos h4_5]
      try rfl
    have hle := tz_fx_le (v := v4) (R := R) (g := g) hn
    rw [eX] at hle ⊢
    rw [eF]
    exact ⟨rfl, ⟨_, _, _, _, _, _, ⟨ha38, k39, ⟨k40, k41⟩, ⟨k42, k43⟩, ⟨hX38.1, hX38.2⟩, hrx⟩, fun j hj => hgx j hj, rfl, htn⟩, (fun q hh => by rw [hq38 q (by omega)])⟩
  refine tz_tableOut C_ td_P_makeNext_4 (tgt := 122) (by decide) ?_ ?_
  · skip
    have := lv_neT h4_0 (show (0 : Int32).toInt = 0 by decide)
    have := lv_neT h4_1 (show (1 : Int32).toInt = 1 by decide)
    have := lv_neT h4_2 (show (2 : Int32).toInt = 2 by decide)
    have := lv_neT h4_3 (show (3 : Int32).toInt = 3 by decide)
    have := lv_neT h4_4 (show (4 : Int32).toInt = 4 by decide)
    have := lv_neT h4_5 (show (5 : Int32).toInt = 5 by decide)
    omega
  refine tz_aload_n C_ 0 rfl rfl td_P_makeNext_122 ?_
  refine tz_aload_n C_ 1 rfl rfl td_P_makeNext_123 ?_
  refine tz_get C_ tci_L 1 (by decide) tw_495 hL rfl td_P_makeNext_124 ?_
  refine tz_cV C_ tmi_P_fade tw_646 tw_13 tw_644 hP.1 rfl (As := [.int v4.2.1]) (by exact (ct_P_fade ⟨hP.1, hP.2.1, ⟨hP.2.2.1.1, hP.2.2.1.2⟩, ⟨hP.2.2.2.1.1, hP.2.2.2.1.2⟩, ⟨hP.2.2.2.2.1.1, hP.2.2.2.2.1.2⟩, hrx⟩ hn (tz_p1_ne (tz_can6 hc h4_0 h4_1 h4_2 h4_3 h4_4 h4_5).2.1 (tz_can6 hc h4_0 h4_1 h4_2 h4_3 h4_4 h4_5).2.2))) rfl (rest := []) rfl (by decide) (Nat.le_of_ble_eq_true rfl) td_P_makeNext_127 (st1 := []) rfl (fun f44 hF44 => ?_)
  obtain ⟨hP45, hq45⟩ := hF44
  refine tz_rvret C_ hr_ hk_ hQ_ rfl td_P_makeNext_130 ?_
  have k46 : f44 a = some (tz_obj 4 [.ref (a + 1), .ref (a + 2), .ref r, .ref x, .int fo]) := ((hq45 _ (by omega)).trans hP.1)
  have k47 : f44 (a + 1) = some (tz_obj 0 [.int z, .int (nI k)]) := ((hq45 _ (by omega)).trans hP.2.1)
  have k48 : f44 (a + 2) = some (tz_obj 9 [.ref (a + 2 + 1), .int (nI tn)]) := ((hq45 _ (by omega)).trans hP.2.2.1.1)
  have k49 : f44 (a + 2 + 1) = some (tz_ints cs 120 tg) := ((hq45 _ (by omega)).trans hP.2.2.1.2)
  have k50 : f44 r = some (tz_obj 5 [.ref (r + 1), .int (nI n)]) := ((hq45 _ (by omega)).trans hP.2.2.2.1.1)
  have k51 : f44 (r + 1) = some (tz_ints cs 120 g) := ((hq45 _ (by omega)).trans hP.2.2.2.1.2)
  have eX : tz_fx v4 R n g = (n, tz_fa g v4.2.1) := by
    rw [tz_fx, if_neg h4_0, if_neg h4_1, if_neg h4_2, if_neg h4_3, if_neg h4_4, if_neg h4_5]
    try skip
  have eF : tz_ff v4 n g fo = fo := by
    rw [tz_ff, if_neg h4_4, if_neg h4_5]
    try rfl
  have hle := tz_fx_le (v := v4) (R := R) (g := g) hn
  rw [eX] at hle ⊢
  rw [eF]
  exact ⟨rfl, ⟨_, _, _, _, _, _, ⟨k46, k47, ⟨k48, k49⟩, ⟨k50, k51⟩, ⟨hP45.1, hP45.2⟩, hrx⟩, fun j hj => tz_fl_in hj, rfl, htn⟩, (fun q hh => by rw [hq45 q (by omega)])⟩
