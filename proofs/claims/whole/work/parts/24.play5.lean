
theorem tz_at_cg {n : Nat} {g g' : Nat → Int32} (h : ∀ j, j < n → g j = g' j) (hn : n ≤ 120) : tz_at n g = tz_at n g' := by
  funext i
  unfold tz_at
  split
  · rename_i hi
    have hin := tz_inI (tz_le_nlt hi.1) hi.2 (by omega)
    apply h
    exact Nat.not_le.mp fun q => hin (Or.inr q)
  · rfl
theorem tz_ct_cg {p q : Nat → Bool} : ∀ {n : Nat}, (∀ k, k < n → p k = q k) → tz_ct p n = tz_ct q n := by
  intro n
  induction n with
  | zero => intro _; rfl
  | succ n ih => intro h; rw [tz_ct_s, tz_ct_s, ih (fun k hk => h k (by omega)), h n (by omega)]
theorem tz_ds_cg {n m : Nat} {g g' q : Nat → Int32} {d : Int32} (h : ∀ j, j < n → g j = g' j) : ∀ k, k ≤ n → tz_ds g m q d k = tz_ds g' m q d k := by
  intro k
  induction k with
  | zero => intro _; rfl
  | succ k ih => intro hk; simp only [tz_ds, tz_dc, ih (by omega), h k (by omega)]
theorem tz_dn_cg {n m : Nat} {g g' q : Nat → Int32} {d : Int32} (h : ∀ j, j < n → g j = g' j) : tz_dn g m q d n = tz_dn g' m q d n := tz_ct_cg (fun k hk => by simp only [tz_dc, h k hk])
theorem tz_sh_cg {n m : Nat} {g g' q : Nat → Int32} (h : ∀ j, j < n → g j = g' j) : ∀ t, tz_sh g n m q t = tz_sh g' n m q t := by
  intro t
  induction t with
  | zero => rfl
  | succ t ih => unfold tz_sh; rw [ih]; simp only [tz_dn_cg h, tz_ds_cg h n (Nat.le_refl n)]
theorem tz_tp_cg {n : Nat} {g g' : Nat → Int32} (h : ∀ j, j < n → g j = g' j) (hn : n ≤ 120) : tz_tp n g = tz_tp n g' := by
  funext k; unfold tz_tp tz_turn; rw [tz_at_cg h hn]
theorem tz_prv_cg {n : Nat} {g g' : Nat → Int32} (h : ∀ j, j < n → g j = g' j) : ∀ i, i ≤ n → tz_prv g i = tz_prv g' i := by
  intro i
  induction i with
  | zero => intro _; rfl
  | succ i ih => intro hi; unfold tz_prv; rw [h i (by omega), ih (by omega)]
theorem tz_nxd_cg {n : Nat} {g g' : Nat → Int32} (h : ∀ j, j < n → g j = g' j) : ∀ d, d ≤ n → tz_nxd g n d = tz_nxd g' n d := by
  intro d
  induction d with
  | zero => intro _; rfl
  | succ d ih => intro hi; unfold tz_nxd; rw [h (n - (d + 1)) (by omega), ih (by omega)]
theorem tz_br_cg {n : Nat} {g g' : Nat → Int32} {v : Int32} (h : ∀ j, j < n → g j = g' j) : ∀ i, i < n → tz_br n g v i = tz_br n g' v i := by
  intro i hi
  have hp := tz_prv_le g i
  unfold tz_br tz_nx
  rw [← tz_prv_cg h i (by omega), ← tz_nxd_cg h (n - i) (by omega), ← h i hi]
  by_cases h1 : g i = tz_LO
  · rw [if_pos h1, if_pos h1]
    by_cases h2 : 0 < tz_prv g i ∧ tz_nxd g n (n - i) < n ∧ nI (tz_nxd g n (n - i)) - nI (tz_prv g i - 1) - 1 ≤ v
    · rw [if_pos h2, if_pos h2]
      unfold tz_spv
      rw [h (tz_prv g i - 1) (by omega), h (tz_nxd g n (n - i)) h2.2.1]
    · rw [if_neg h2, if_neg h2]
  · rw [if_neg h1, if_neg h1]
theorem tz_fx_cg {v : tz_V4} {R : tz_RR} {n : Nat} {g g' : Nat → Int32} {fo : Int32} (h : ∀ j, j < n → g j = g' j) (hn : n ≤ 120) : (tz_fx v R n g).1 = (tz_fx v R n g').1 ∧ (∀ j, j < (tz_fx v R n g).1 → (tz_fx v R n g).2 j = (tz_fx v R n g').2 j) ∧ tz_ff v n g fo = tz_ff v n g' fo := by
  have hT : tz_T n g = tz_T n g' := by unfold tz_T; rw [tz_tp_cg h hn]
  have htg : tz_tg n g = tz_tg n g' := by unfold tz_tg; rw [tz_tp_cg h hn]
  have hwl : ∀ w, tz_wl n g w = tz_wl n g' w := fun w => by unfold tz_wl; rw [hT]
  refine ⟨?_, ?_, ?_⟩
  · unfold tz_fx
    repeat' split
    all_goals first | rfl | (simp only [tz_wn, hT, hwl])
  · intro j
    unfold tz_fx
    split
    · intro hj; simp only [h j hj]
    split
    · intro hj; simp only [tz_md, tz_click, tz_bend, tz_at_cg h hn, h j hj]
    split
    · intro hj; simp only [tz_fi, tz_sh_cg h, h j hj]
    split
    · intro hj; exact tz_br_cg h j hj
    split
    · intro hj
      simp only [tz_wn, tz_wg] at hj ⊢
      rw [← hT]
      split
      · rename_i h2
        rw [if_pos h2] at hj
        exact h j hj
      · rw [← htg]
        unfold tz_wv
        rw [tz_at_cg h hn]
    split
    · intro hj; exact h _ (tz_nth_in _ hj).1
    · intro hj; simp only [tz_fa, h j hj]
  · unfold tz_ff tz_wf
    rw [hT, htg, hwl]
/-- (length, samples, followed place) behind the first k layers -/
def tz_rn (lay : Nat → tz_V4) (R : tz_RR) (n : Nat) (g : Nat → Int32) (fo : Int32) : Nat → Nat × (Nat → Int32) × Int32
  | 0 => (n, g, fo)
  | k + 1 =>
    let s := tz_rn lay R n g fo k
    if (lay k).2.2.2 = 0 then s else ((tz_fx (lay k) R s.1 s.2.1).1, (tz_fx (lay k) R s.1 s.2.1).2, tz_ff (lay k) s.1 s.2.1 s.2.2)
def tz_rI (lay : Nat → tz_V4) (R : tz_RR) (n0 : Nat) (g0 : Nat → Int32) (fo0 : Int32) (k n : Nat) (g : Nat → Int32) (fo : Int32) : Prop := n = (tz_rn lay R n0 g0 fo0 k).1 ∧ (∀ j, j < n → g j = (tz_rn lay R n0 g0 fo0 k).2.1 j) ∧ fo = (tz_rn lay R n0 g0 fo0 k).2.2
theorem tz_rI_off {lay : Nat → tz_V4} {R : tz_RR} {n0 n k : Nat} {g0 g : Nat → Int32} {fo0 fo : Int32} (h : tz_rI lay R n0 g0 fo0 k n g fo) (hk : (lay k).2.2.2 = 0) : tz_rI lay R n0 g0 fo0 (k + 1) n g fo := by
  unfold tz_rI at *
  rw [tz_rn]; simp only [if_pos hk]; exact h
theorem tz_rI_on {lay : Nat → tz_V4} {R : tz_RR} {n0 n k : Nat} {g0 g gx : Nat → Int32} {fo0 fo fo' : Int32} (hn : n ≤ 120) (h : tz_rI lay R n0 g0 fo0 k n g fo) (hk : ¬ (lay k).2.2.2 = 0) (hg : ∀ j, j < (tz_fx (lay k) R n g).1 → gx j = (tz_fx (lay k) R n g).2 j) (hf : fo' = tz_ff (lay k) n g fo) : tz_rI lay R n0 g0 fo0 (k + 1) (tz_fx (lay k) R n g).1 gx fo' := by
  obtain ⟨h1, h2, h3⟩ := h
  unfold tz_rI
  rw [tz_rn]; simp only [if_neg hk]
  generalize tz_rn lay R n0 g0 fo0 k = s at h1 h2 h3 ⊢
  obtain ⟨a, b, c⟩ := s
  dsimp only at h1 h2 h3 ⊢
  subst h1; subst h3
  obtain ⟨c1, c2, c3⟩ := tz_fx_cg (v := lay k) (R := R) (fo := fo) h2 hn
  exact ⟨c1, fun j hj => (hg j hj).trans (c2 j hj), hf.trans c3⟩

abbrev rm_P_play : Room := { frames := 5, cells := 0, slots := 0, locals := 123 }
set_option maxHeartbeats 4000000 in
set_option maxRecDepth 100000 in
theorem ct_P_play {l : Launch} {A : Nat → Prop} {D : va_G} {cs : Nat → ClassId} {sz : Nat} {f : tz_PH} {a r x k tn n n2 : Nat} {fo z : Int32} {tg g g2 : Nat → Int32} (hP : tz_Pl cs f a r x fo z k tn tg n g n2 g2) (hn : n ≤ 120) (htn : tn ≤ 120) {t nl : Nat} {R : tz_RR} {o : Nat → Option Nat} {mp ml : Nat → Int32} (hT : tz_Tape cs f t R nl o mp ml) {L0 : Nat} {lay : Nat → tz_V4} (hV : tz_Lv L0 f o nl lay) (hcan : ∀ k, k < nl → tz_can (lay k).1 (lay k).2.1 (lay k).2.2.1) (hnl : nl ≤ 8) (hRn : ∀ p, p < 4 → (R p).1 ≤ 120) (hs2 : t + 14 ≤ a ∨ a + 8 ≤ t) (hs3 : a + 8 ≤ L0 ∧ t + 14 ≤ L0) {b n0 : Nat} {g0 : Nat → Int32} {fo0 : Int32} (hB : tz_Row cs f b n0 g0) (hn0 : n0 ≤ 120) (hs4 : b + 2 ≤ a ∨ a + 8 ≤ b) : tz_C l tyP_play prog_6_method_3_code 7 (some (.object "TapeBench$Row")) rm_P_play 0 0 A D cs sz [.ref a, .ref t, .ref b, .int fo0] f (tz_resR (fun q f' => (∃ (x' : Nat) (fo' z' : Int32) (k' tn' : Nat) (tg' : Nat → Int32) (n' : Nat) (g' : Nat → Int32) (n2' : Nat) (g2' : Nat → Int32), tz_Pl cs f' a q x' fo' z' k' tn' tg' n' g' n2' g2' ∧ tz_rI lay R n0 g0 fo0 nl n' g' fo' ∧ n' ≤ 120 ∧ tn' ≤ 120) ∧ ∀ q, (q < a ∨ a + 8 ≤ q) → f' q = f q)) := by
  refine tz_C.ofB (lv0 := [(0, .ref a), (1, .ref t), (2, .ref b), (3, .int fo0)]) (plainFor_of_name (by decide)) (Nat.le_of_ble_eq_true rfl) rfl ?_
  intro p_ e_ s_ m_ ar_ be_ me_ c_ Q_ C_ hr_ hk_ hnm_ hz_ hQ_
  have hrx := hP.2.2.2.2.2
  refine tz_aload_n C_ 0 rfl rfl td_P_play_0 ?_
  refine tz_get C_ tci_P 2 (by decide) tw_224 hP.1 rfl td_P_play_1 ?_
  refine tz_aload_n C_ 2 rfl rfl td_P_play_4 ?_
  refine tz_cV C_ tmi_R_become tw_293 tw_294 tw_564 hP.2.2.2.1.1 rfl (As := [.ref b]) (by exact (ct_R_become (n := n) (g := g) (n2 := n0) (g2 := g0) ⟨hP.2.2.2.1.1, hP.2.2.2.1.2⟩ ⟨hB.1, hB.2⟩ (by omega))) rfl (rest := []) rfl (by decide) (Nat.le_of_ble_eq_true rfl) td_P_play_5 (st1 := []) rfl (fun f1 hF1 => ?_)
  obtain ⟨hP2, hq2⟩ := hF1
  refine tz_aload_n C_ 0 rfl rfl td_P_play_8 ?_
  refine tz_iload_n C_ 3 rfl rfl td_P_play_9 ?_
  have k3 : f1 a = some (tz_obj 4 [.ref (a + 1), .ref (a + 2), .ref r, .ref x, .int fo]) := ((hq2 _ (by omega)).trans hP.1)
  refine tz_wput C_ tci_P 4 (by decide) tw_226 rfl k3 (Nat.le_of_ble_eq_true rfl) ⟨rfl, rfl⟩ (fs' := [.ref (a + 1), .ref (a + 2), .ref r, .ref x, .int fo0]) rfl td_P_play_10 (fun f4 hs4 hq4 => ?_)
  refine tz_iconst C_ (v := 0) (by decide) td_P_play_13 ?_
  refine tz_istore C_ (lv' := [(0, .ref a), (1, .ref t), (2, .ref b), (3, .int fo0), (4, .int 0)]) [1, 2, 3, 4, 0] (by decide) rfl td_P_play_14 ?_
  have k5 : f4 (a + 1) = some (tz_obj 0 [.int z, .int (nI k)]) := ((hq4 _ (by omega)).trans ((hq2 _ (by omega)).trans hP.2.1))
  have k6 : f4 (a + 2) = some (tz_obj 9 [.ref (a + 2 + 1), .int (nI tn)]) := ((hq4 _ (by omega)).trans ((hq2 _ (by omega)).trans hP.2.2.1.1))
  have k7 : f4 (a + 2 + 1) = some (tz_ints cs 120 tg) := ((hq4 _ (by omega)).trans ((hq2 _ (by omega)).trans hP.2.2.1.2))
  have k8 : f4 r = some (tz_obj 5 [.ref (r + 1), .int (nI n0)]) := ((hq4 _ (by omega)).trans hP2.1)
  have k9 : f4 (r + 1) = some (tz_ints cs 120 (va_cpy g0 g 0 0 120)) := ((hq4 _ (by omega)).trans hP2.2)
  have k10 : f4 x = some (tz_obj 5 [.ref (x + 1), .int (nI n2)]) := ((hq4 _ (by omega)).trans ((hq2 _ (by omega)).trans hP.2.2.2.2.1.1))
  have k11 : f4 (x + 1) = some (tz_ints cs 120 g2) := ((hq4 _ (by omega)).trans ((hq2 _ (by omega)).trans hP.2.2.2.2.1.2))
  have kp12 : tz_Tape cs f4 t R nl o mp ml := hT.fr (fun q h1_ h2_ => ((hq4 q (by omega)).trans (hq2 q (by omega))))
  have loop16 : ∀ (kk16 : Nat) (r1 : Nat) (x1 : Nat) (fo1 : Int32) (z1 : Int32) (kA : Nat) (tn1 : Nat) (tg1 : Nat → Int32) (n1 : Nat) (g1 : Nat → Int32) (n3 : Nat) (g3 : Nat → Int32) (i : Nat) (fL : tz_PH), (tz_Pl cs fL a r1 x1 fo1 z1 kA tn1 tg1 n1 g1 n3 g3) → (tz_Tape cs fL t R nl o mp ml) → (∀ q, (q < a ∨ a + 8 ≤ q) → fL q = f q) → (i ≤ nl) → (n1 ≤ 120) → (tn1 ≤ 120) → (tz_rI lay R n0 g0 fo0 i n1 g1 fo1) → (nl - i) < kk16 → tz_V p_ l e_ rm_P_play s_ m_ ar_ be_ me_ c_ Q_ A D 7 fL sz 0 0 16 [(0, .ref a), (1, .ref t), (2, .ref b), (3, .int fo0), (4, .int (nI i))] [] := by
    intro kk16
    induction kk16 with
    | zero => intro r1 x1 fo1 z1 kA tn1 tg1 n1 g1 n3 g3 i fL hP1 hT1 hfr hi hn1 htn1 hI hm16; omega
    | succ kk16 ih16 =>
      intro r1 x1 fo1 z1 kA tn1 tg1 n1 g1 n3 g3 i fL hP1 hT1 hfr hi hn1 htn1 hI hm16
      have hV1 : tz_Lv L0 fL o nl lay := hV.fr (fun q h9 => hfr q (by omega))
      have hrx1 := hP1.2.2.2.2.2
      refine tz_iload C_ 4 rfl td_P_play_16 ?_
      refine tz_aload_n C_ 1 rfl rfl td_P_play_18 ?_
      refine tz_get C_ tci_T 1 (by decide) tw_107 hT1.1 rfl td_P_play_19 ?_
      refine tz_rV C_ tmi_S_inAll tw_478 tw_479 tw_565 hT1.2.2.1.1 rfl (As := []) (by exact (ct_S_inAll (n := nl) (o := o) ⟨hT1.2.2.1.1, hT1.2.2.1.2⟩)) rfl (rest := [.int (nI i)]) rfl (by decide) (Nat.le_of_ble_eq_true rfl) td_P_play_22 (st1 := [.int (nI nl), .int (nI i)]) rfl ?_
      refine tz_icmp_ge C_ td_P_play_25 (fun h25 => ?_) (fun h25 => ?_)
      · skip
        replace h25 := (nI_leI (a := nl) (b := i) (by omega) (by omega)).mp h25
        refine tz_aload_n C_ 0 rfl rfl td_P_play_95 ?_
        refine tz_get C_ tci_P 2 (by decide) tw_224 hP1.1 rfl td_P_play_96 ?_
        refine tz_raret C_ (r := some r1) hr_ hk_ hQ_ rfl td_P_play_99 ?_
        have e9 : i = nl := by omega
        subst e9
        exact ⟨r1, rfl, ⟨x1, fo1, z1, kA, tn1, tg1, n1, g1, n3, g3, hP1, hI, hn1, htn1⟩, hfr⟩
      · skip
        replace h25 := mt (nI_leI (a := nl) (b := i) (by omega) (by omega)).mpr h25
        refine tz_aload_n C_ 1 rfl rfl td_P_play_28 ?_
        refine tz_get C_ tci_T 1 (by decide) tw_107 hT1.1 rfl td_P_play_29 ?_
        refine tz_iload C_ 4 rfl td_P_play_32 ?_
        refine tz_rV C_ tmi_S_at tw_522 tw_523 tw_566 hT1.2.2.1.1 rfl (As := [.int (nI i)]) (by exact (ct_S_atN (n := nl) (o := o) ⟨hT1.2.2.1.1, hT1.2.2.1.2⟩ (by omega) (by omega))) rfl (rest := []) rfl (by decide) (Nat.le_of_ble_eq_true rfl) td_P_play_34 (st1 := [va_rf (o i)]) rfl ?_
        refine tz_astoreQ C_ (lv' := [(0, .ref a), (1, .ref t), (2, .ref b), (3, .int fo0), (4, .int (nI i)), (5, va_rf (o i))]) [1, 2, 3, 4, 5, 0] (by decide) rfl td_P_play_37 ?_
        refine tz_aloadQ C_ 5 rfl td_P_play_39 ?_
        refine tz_ifnull C_ td_P_play_41 (fun h41 => ?_) (fun q41 h41 => ?_)
        · skip
          obtain ⟨b41, hb41, -⟩ := hV1 i (by omega)
          rw [h41] at hb41; cases hb41
        · skip
          obtain ⟨b41, hb41, hl41, hv41⟩ := hV1 i (by omega)
          have e41 : b41 = q41 := Option.some.inj (hb41.symm.trans h41)
          rw [e41] at hv41 hl41
          rw [h41]
          refine tz_aload C_ 5 rfl td_P_play_44 ?_
          refine tz_get C_ tci_L 3 (by decide) tw_501 hv41 rfl td_P_play_46 ?_
          refine tz_if_ne C_ td_P_play_49 (fun h49 => ?_) (fun h49 => ?_)
          · skip
            refine tz_aload_n C_ 0 rfl rfl td_P_play_55 ?_
            refine tz_get C_ tci_P 3 (by decide) tw_225 hP1.1 rfl td_P_play_56 ?_
            refine tz_cV C_ tmi_R_empty tw_453 tw_454 tw_567 hP1.2.2.2.2.1.1 rfl (As := []) (by exact (ct_R_empty (n := n3) (g := g3) ⟨hP1.2.2.2.2.1.1, hP1.2.2.2.2.1.2⟩)) rfl (rest := []) rfl (by decide) (Nat.le_of_ble_eq_true rfl) td_P_play_59 (st1 := []) rfl (fun f13 hF13 => ?_)
            obtain ⟨hP14, hq14⟩ := hF13
            refine tz_aload_n C_ 0 rfl rfl td_P_play_62 ?_
            refine tz_aload C_ 5 rfl td_P_play_63 ?_
            refine tz_aload_n C_ 1 rfl rfl td_P_play_65 ?_
            have k15 : f13 a = some (tz_obj 4 [.ref (a + 1), .ref (a + 2), .ref r1, .ref x1, .int fo1]) := ((hq14 _ (by omega)).trans hP1.1)
            have k16 : f13 (a + 1) = some (tz_obj 0 [.int z1, .int (nI kA)]) := ((hq14 _ (by omega)).trans hP1.2.1)
            have k17 : f13 (a + 2) = some (tz_obj 9 [.ref (a + 2 + 1), .int (nI tn1)]) := ((hq14 _ (by omega)).trans hP1.2.2.1.1)
            have k18 : f13 (a + 2 + 1) = some (tz_ints cs 120 tg1) := ((hq14 _ (by omega)).trans hP1.2.2.1.2)
            have k19 : f13 r1 = some (tz_obj 5 [.ref (r1 + 1), .int (nI n1)]) := ((hq14 _ (by omega)).trans hP1.2.2.2.1.1)
            have k20 : f13 (r1 + 1) = some (tz_ints cs 120 g1) := ((hq14 _ (by omega)).trans hP1.2.2.2.1.2)
            have k21 : f13 q41 = some (tz_obj 2 [.int ((lay i).1), .int ((lay i).2.1), .int ((lay i).2.2.1), .int ((lay i).2.2.2)]) := ((hq14 _ (by omega)).trans hv41)
            have kp22 : tz_Tape cs f13 t R nl o mp ml := hT1.fr (fun q h1_ h2_ => (hq14 q (by omega)))
            refine tz_cV C_ tmi_P_makeNext tw_570 tw_3 tw_568 k15 rfl (As := [.ref q41, .ref t]) (by exact (ct_P_makeNext ⟨k15, k16, ⟨k17, k18⟩, ⟨k19, k20⟩, ⟨hP14.1, hP14.2⟩, hrx1⟩ hn1 htn1 k21 (hcan i (by omega)) kp22 hRn (by omega) (by omega))) rfl (rest := []) rfl (by decide) (Nat.le_of_ble_eq_true rfl) td_P_play_66 (st1 := []) rfl (fun f23 hF23 => ?_)
            obtain ⟨⟨fo24, z24, k24, tn24, tg24, gx24, hPl24, hgx24, hfo24, htn24⟩, hq24⟩ := hF23
            refine tz_aload_n C_ 0 rfl rfl td_P_play_69 ?_
            refine tz_get C_ tci_P 3 (by decide) tw_225 hPl24.1 rfl td_P_play_70 ?_
            refine tz_astore C_ (lv' := [(0, .ref a), (1, .ref t), (2, .ref b), (3, .int fo0), (4, .int (nI i)), (5, .ref q41), (6, .ref x1)]) [1, 2, 3, 4, 5, 6, 0] (by decide) rfl td_P_play_73 ?_
            refine tz_aload_n C_ 0 rfl rfl td_P_play_75 ?_
            refine tz_aload_n C_ 0 rfl rfl td_P_play_76 ?_
            refine tz_get C_ tci_P 2 (by decide) tw_224 hPl24.1 rfl td_P_play_77 ?_
            refine tz_wput C_ tci_P 3 (by decide) tw_225 rfl hPl24.1 (Nat.le_of_ble_eq_true rfl) ⟨rfl, rfl⟩ (fs' := [.ref (a + 1), .ref (a + 2), .ref r1, .ref r1, .int fo24]) rfl td_P_play_80 (fun f25 hs25 hq25 => ?_)
            refine tz_aload_n C_ 0 rfl rfl td_P_play_83 ?_
            refine tz_aload C_ 6 rfl td_P_play_84 ?_
            refine tz_wput C_ tci_P 2 (by decide) tw_224 rfl hs25 (Nat.le_of_ble_eq_true rfl) ⟨rfl, rfl⟩ (fs' := [.ref (a + 1), .ref (a + 2), .ref x1, .ref r1, .int fo24]) rfl td_P_play_86 (fun f26 hs26 hq26 => ?_)
            refine tz_iinc C_ (k := 1) (v := nI (i + 1)) (lv' := [(0, .ref a), (1, .ref t), (2, .ref b), (3, .int fo0), (4, .int (nI (i + 1))), (5, .ref q41), (6, .ref x1)]) 4 rfl (nI_1 i) [1, 2, 3, 4, 0, 5, 6] (by decide) rfl td_P_play_89 ?_
            refine tz_goto C_ td_P_play_92 ?_
            have k27 : f26 (a + 1) = some (tz_obj 0 [.int z24, .int (nI k24)]) := ((hq26 _ (by omega)).trans ((hq25 _ (by omega)).trans hPl24.2.1))
            have k28 : f26 (a + 2) = some (tz_obj 9 [.ref (a + 2 + 1), .int (nI tn24)]) := ((hq26 _ (by omega)).trans ((hq25 _ (by omega)).trans hPl24.2.2.1.1))
            have k29 : f26 (a + 2 + 1) = some (tz_ints cs 120 tg24) := ((hq26 _ (by omega)).trans ((hq25 _ (by omega)).trans hPl24.2.2.1.2))
            have k30 : f26 x1 = some (tz_obj 5 [.ref (x1 + 1), .int (nI (tz_fx (lay i) R n1 g1).1)]) := ((hq26 _ (by omega)).trans ((hq25 _ (by omega)).trans hPl24.2.2.2.2.1.1))
            have k31 : f26 (x1 + 1) = some (tz_ints cs 120 gx24) := ((hq26 _ (by omega)).trans ((hq25 _ (by omega)).trans hPl24.2.2.2.2.1.2))
            have k32 : f26 r1 = some (tz_obj 5 [.ref (r1 + 1), .int (nI n1)]) := ((hq26 _ (by omega)).trans ((hq25 _ (by omega)).trans hPl24.2.2.2.1.1))
            have k33 : f26 (r1 + 1) = some (tz_ints cs 120 g1) := ((hq26 _ (by omega)).trans ((hq25 _ (by omega)).trans hPl24.2.2.2.1.2))
            have kp34 : tz_Tape cs f26 t R nl o mp ml := kp22.fr (fun q h1_ h2_ => ((hq26 q (by omega)).trans ((hq25 q (by omega)).trans (hq24 q (by omega)))))
            refine tz_lvs [0, 1, 2, 3, 4] rfl ?_
            exact ih16 x1 r1 fo24 z24 k24 tn24 tg24 (tz_fx (lay i) R n1 g1).1 gx24 n1 g1 (i + 1) f26 (⟨hs26, k27, ⟨k28, k29⟩, ⟨k30, k31⟩, ⟨k32, k33⟩, by omega⟩) kp34 (fun q hh => by rw [hq26 q (by omega), hq25 q (by omega), hq24 q (by omega), hq14 q (by omega), hfr q (by omega)]) (by omega) (tz_fx_le hn1) htn24 (tz_rI_on hn1 hI h49 hgx24 hfo24) (by omega)
          · skip
            refine tz_goto C_ td_P_play_52 ?_
            refine tz_iinc C_ (k := 1) (v := nI (i + 1)) (lv' := [(0, .ref a), (1, .ref t), (2, .ref b), (3, .int fo0), (4, .int (nI (i + 1))), (5, .ref q41)]) 4 rfl (nI_1 i) [1, 2, 3, 4, 0, 5] (by decide) rfl td_P_play_89 ?_
            refine tz_goto C_ td_P_play_92 ?_
            refine tz_lvs [0, 1, 2, 3, 4] rfl ?_
            exact ih16 r1 x1 fo1 z1 kA tn1 tg1 n1 g1 n3 g3 (i + 1) fL (⟨hP1.1, hP1.2.1, ⟨hP1.2.2.1.1, hP1.2.2.1.2⟩, ⟨hP1.2.2.2.1.1, hP1.2.2.2.1.2⟩, ⟨hP1.2.2.2.2.1.1, hP1.2.2.2.2.1.2⟩, by omega⟩) hT1 (fun q hh => by rw [hfr q (by omega)]) (by omega) hn1 htn1 (tz_rI_off hI h49) (by omega)
  exact loop16 _ r x fo0 z k tn tg n0 (va_cpy g0 g 0 0 120) n2 g2 0 f4 (⟨hs4, k5, ⟨k6, k7⟩, ⟨k8, k9⟩, ⟨k10, k11⟩, by omega⟩) kp12 (fun q hh => by rw [hq4 q (by omega), hq2 q (by omega)]) (Nat.zero_le _) hn0 htn (⟨rfl, fun j hj => tz_cpy_in (by omega), rfl⟩) (Nat.lt_succ_self _)
