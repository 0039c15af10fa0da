
def tz_ss (s : tz_SG) (k : Nat) (q : Int32 × Nat × (Nat → Int32)) : tz_SG := (s.1, s.2.1, va_up s.2.2.1 k q, s.2.2.2)
theorem tz_Shs.set {cs : Nat → ClassId} {f f' : tz_PH} {b k n : Nat} {x : Int32} {g : Nat → Int32} {Sb : Nat → Int32 × Nat × (Nat → Int32)} (h : tz_Shs cs f b Sb) (hs : tz_Sh cs f' (b + 1 + 2 * k) x n g) (hq : ∀ q, b ≤ q ∧ q < b + 9 ∧ (q < b + 1 + 2 * k ∨ b + 1 + 2 * k + 2 ≤ q) → f' q = f q) : tz_Shs cs f' b (va_up Sb k (x, n, g)) := by
  refine ⟨(hq _ (by omega)).trans h.1, fun s hs4 => ?_⟩
  by_cases e : s = k
  · subst e
    simp only [va_up, if_true]
    exact hs
  · simp only [va_up, if_neg e]
    exact (h.2 s hs4).fr (fun q a c => hq q (by omega))
theorem tz_agQ.set {Sb Sb' : Nat → Int32 × Nat × (Nat → Int32)} {k : Nat} {x x' : Int32 × Nat × (Nat → Int32)} (h : tz_agQ Sb Sb') (hx : x.1 = x'.1 ∧ x.2.1 = x'.2.1 ∧ ∀ j, j < x'.2.1 → x.2.2 j = x'.2.2 j) : tz_agQ (va_up Sb k x) (va_up Sb' k x') := by
  intro s hs
  by_cases e : s = k
  · subst e
    simp only [va_up, if_true]
    exact hx
  · simp only [va_up, if_neg e]
    exact h s hs
abbrev tz_sb (s : tz_SG) (k : Nat) : Int32 := (s.2.2.1 k).1
abbrev tz_sn (s : tz_SG) (k : Nat) : Nat := (s.2.2.1 k).2.1
abbrev tz_sv (s : tz_SG) (k : Nat) : Nat → Int32 := (s.2.2.1 k).2.2
def sp_sheet (s : tz_SG) (x b n : Int32) : tz_AN := match tz_pk x with
  | none => tz_an s tz_BE
  | some k => if b = 0 ∨ b = 8 ∨ b = 16 ∨ b = 32 then (if n < 0 then tz_an s tz_SI else if n ≤ 120 then (if b = 0 then 0 else n, tz_ss s k (b, if b = 0 then 0 else n.toNatClampNeg, fun _ => 0)) else tz_an s tz_BE) else tz_an s tz_BE
def sp_write (s : tz_SG) (x i v : Int32) : tz_AN := match tz_pk x with
  | none => tz_an s tz_BE
  | some k => if tz_sb s k = 0 then tz_an s tz_MI_ else if 0 ≤ i ∧ i < nI (tz_sn s k) then (0, tz_ss s k (tz_sb s k, tz_sn s k, tz_qset (tz_sb s k) (tz_sn s k) (tz_sv s k) i v)) else tz_an s tz_BE
def sp_copy (s : tz_SG) (x i y j n : Int32) : tz_AN := match tz_pk x with
  | none => tz_an s tz_BE
  | some a => match tz_pk y with
    | none => tz_an s tz_BE
    | some b => if tz_sb s a = 0 ∨ tz_sb s b = 0 then tz_an s tz_MI_ else if ¬ tz_sb s a = tz_sb s b then tz_an s tz_KI else
      if tz_hld (nI (tz_sn s a)) i n ∧ tz_hld (nI (tz_sn s b)) j n then (n, tz_ss s b (tz_sb s b, tz_sn s b, va_cpy (tz_sv s a) (tz_sv s b) i.toNatClampNeg j.toNatClampNeg n.toNatClampNeg)) else tz_an s tz_BE
def tz_lyg (s : tz_SG) (k : Nat) : Nat → Int32 := fun j => tz_smp (tz_sb s k) (tz_sv s k j)
def sp_lay (s : tz_SG) (p x : Int32) : tz_AN := match tz_pk p with
  | none => tz_an s tz_BE
  | some a => match tz_pk x with
    | none => tz_an s tz_BE
    | some b => if tz_sb s b = 0 then tz_an s tz_MI_ else (nI (tz_sn s b) - nI (tz_lost (tz_sn s b) (tz_lyg s b)), tz_act s (tz_sr (tz_cur s) a (tz_sn s b, tz_lyg s b)))
theorem tz_qset_cg {n : Nat} {b : Int32} {g g' : Nat → Int32} {i v : Int32} (h : ∀ j, j < n → g j = g' j) : ∀ j, j < n → tz_qset b n g i v j = tz_qset b n g' i v j := by
  intro j hj
  unfold tz_qset
  split
  · simp only [upd]
    split
    · rfl
    · exact h j hj
  · exact h j hj
theorem tz_cpy_cg {n m i j k : Nat} {g g' q q' : Nat → Int32} (hg : ∀ x, x < n → g x = g' x) (hq : ∀ x, x < m → q x = q' x) (hi : i + k ≤ n) : ∀ x, x < m → va_cpy g q i j k x = va_cpy g' q' i j k x := by
  intro x hx
  unfold va_cpy
  split
  · exact hg _ (by omega)
  · exact hq x hx

abbrev rm_X_sheet : Room := { frames := 2, cells := 0, slots := 0, locals := 45 }
set_option maxHeartbeats 4000000 in
set_option maxRecDepth 100000 in
theorem ct_X_sheet {l : Launch} {A : Nat → Prop} {D : va_G} {cs : Nat → ClassId} {sz : Nat} {f : tz_PH} {B L0 : Nat} {σ : tz_SG} (hX : tz_AX cs L0 f B σ) (hW : tz_WF σ) (hB : B + 179 ≤ L0) {s b n : Int32} : tz_CN l tyX_sheet prog_1_method_8_code 5 (some (.int)) rm_X_sheet 0 0 A D cs sz [.ref B, .int s, .int b, .int n] f (some (.int (sp_sheet σ s b n).1)) (fun f' => tz_AX cs L0 f' B (sp_sheet σ s b n).2 ∧ ∀ q, (q < B ∨ B + 179 ≤ q) → f' q = f q) := by
  refine tz_C.ofB (lv0 := [(0, .ref B), (1, .int s), (2, .int b), (3, .int n)]) (plainFor_of_name (by decide)) (Nat.le_of_ble_eq_true rfl) rfl ?_
  intro p_ e_ s_ m_ ar_ be_ me_ c_ Q_ C_ hr_ hk_ hnm_ hz_ hQ_
  obtain ⟨R, o, mp, ml, nx, St, Sb, hXB, hag, hnx, hH, hQ⟩ := hX
  obtain ⟨hB0, hT, hHi, hShs, hTuX, hAlX, hPlX, hRoX⟩ := hXB
  have hTu9 := hTuX
  obtain ⟨tn, tg, hTu, htn⟩ := hTu9
  have hAl9 := hAlX
  obtain ⟨zA, kA, hAl⟩ := hAl9
  have hPl9 := hPlX
  obtain ⟨pr, px, pfo, pz, pk, ptn, ptg, pn, pg, pn2, pg2, hPl, hpn, hptn⟩ := hPl9
  have hRo9 := hRoX
  obtain ⟨jn, jg, hRo, hjn⟩ := hRo9
  have hrx := hPl.2.2.2.2.2
  have hRn : ∀ p, p < 4 → (R p).1 ≤ 120 := fun p hp => by rw [(hag.1 p hp).1]; exact (hW.cur.1 p hp).1
  have hnl : (tz_cur σ).2.1 ≤ 8 := hW.cur.2.1
  have hkp : σ.2.1 ≤ 20 := hW.1
  have hSn : ∀ s, s < 4 → (Sb s).2.1 ≤ 120 := fun s hs => by rw [(hQ s hs).2.1]; exact (hW.2.2 s hs).1
  refine tz_aload_n C_ 0 rfl rfl td_X_sheet_0 ?_
  refine tz_iload_n C_ 1 rfl rfl td_X_sheet_1 ?_
  refine tz_rV C_ tmi_X_sheetAt tw_398 tw_2 tw_396 hB0 rfl (As := [.int s]) (by exact (ct_X_sheetAt hB0 hShs.1)) rfl (rest := []) rfl (by decide) (Nat.le_of_ble_eq_true rfl) td_X_sheet_2 (st1 := [va_rf (tz_qof (B + 157) s)]) rfl ?_
  refine tz_astoreQ C_ (lv' := [(0, .ref B), (1, .int s), (2, .int b), (3, .int n), (4, va_rf (tz_qof (B + 157) s))]) [1, 2, 3, 4, 0] (by decide) rfl td_X_sheet_5 ?_
  refine tz_aloadQ C_ 4 rfl td_X_sheet_7 ?_
  refine tz_ifnull C_ td_X_sheet_9 (fun h9 => ?_) (fun q9 h9 => ?_)
  · skip
    rw [h9]
    have hpk9 := tz_qpk_none h9
    refine tz_aload_n C_ 0 rfl rfl td_X_sheet_19 ?_
    refine tz_ldc C_ tw_273 td_X_sheet_20 ?_
    refine tz_cV C_ tmi_X_answer tw_276 tw_0 tw_274 hB0 rfl (As := [.int (-100001)]) (by exact (ct_X_answer (v := -100001) hB0)) rfl (rest := []) rfl (by decide) (Nat.le_of_ble_eq_true rfl) td_X_sheet_22 (st1 := [.int (-100001)]) rfl (fun f1 hF1 => ?_)
    obtain ⟨hs2, hq2⟩ := hF1
    refine tz_riret C_ hr_ hk_ hQ_ rfl td_X_sheet_25 ?_
    have k3 : f1 (B + 166) = some (tz_obj 9 [.ref (B + 166 + 1), .int (nI tn)]) := ((hq2 _ (by omega)).trans hTu.1)
    have k4 : f1 (B + 166 + 1) = some (tz_ints cs 120 tg) := ((hq2 _ (by omega)).trans hTu.2)
    have k5 : f1 (B + 168) = some (tz_obj 0 [.int zA, .int (nI kA)]) := ((hq2 _ (by omega)).trans hAl)
    have kp6 : tz_Tape cs f1 (B + 1) R (tz_cur σ).2.1 o mp ml := hT.fr (fun q h1_ h2_ => (hq2 q (by omega)))
    have kp7 : tz_Hist cs f1 (B + 15) nx σ.2.1 St := hHi.fr (fun q h1_ h2_ => (hq2 q (by omega)))
    have kp8 : tz_Shs cs f1 (B + 157) Sb := hShs.fr (fun q h1_ h2_ => (hq2 q (by omega)))
    have kp9 : tz_PlX cs f1 (B + 169) := hPlX.fr (fun q h1_ h2_ => (hq2 q (by omega)))
    have kp10 : tz_RoX cs f1 (B + 177) := hRoX.fr (fun q h1_ h2_ => (hq2 q (by omega)))
    have e9 : sp_sheet σ s b n = tz_an σ (-100001) := by simp only [sp_sheet, hpk9]
    rw [e9]
    exact ⟨rfl, ⟨R, o, mp, ml, nx, St, Sb, ⟨hs2, kp6, kp7, kp8, ⟨_, _, ⟨k3, k4⟩, htn⟩, ⟨_, _, k5⟩, kp9, kp10⟩, hag.fr (fun q h9 => (hq2 q (by omega))), hnx, hH.fr (fun q h9 => (hq2 q (by omega))), hQ⟩, (fun q hh => by rw [hq2 q (by omega)])⟩
  · skip
    obtain ⟨kq9, hkq9, ekq9, eqkq9⟩ := tz_qof_some h9
    rw [h9]
    subst eqkq9
    subst ekq9
    have hpk9 := tz_pk_N hkq9
    have hSnkq9 := hSn kq9 hkq9
    have hbkq9 : (Sb kq9).1 = tz_sb σ kq9 := (hQ kq9 hkq9).1
    have hnkq9 : (Sb kq9).2.1 = tz_sn σ kq9 := (hQ kq9 hkq9).2.1
    have hvkq9 : ∀ j, j < tz_sn σ kq9 → (Sb kq9).2.2 j = tz_sv σ kq9 j := (hQ kq9 hkq9).2.2
    refine tz_iload_n C_ 2 rfl rfl td_X_sheet_12 ?_
    refine tz_rS C_ tmi_Q_canHave tw_401 tw_400 (As := [.int b]) (by exact ct_Q_canHave) rfl (rest := []) rfl (by decide) (Nat.le_of_ble_eq_true rfl) td_X_sheet_13 (st1 := [.int (tz_p (b = 0 ∨ b = 8 ∨ b = 16 ∨ b = 32))]) rfl ?_
    refine tz_if_ne C_ td_X_sheet_16 (fun h16 => ?_) (fun h16 => ?_)
    · skip
      replace h16 := tz_p1.mp h16
      refine tz_iload_n C_ 3 rfl rfl td_X_sheet_26 ?_
      refine tz_if_ge C_ td_X_sheet_27 (fun h27 => ?_) (fun h27 => ?_)
      · skip
        refine tz_iload_n C_ 3 rfl rfl td_X_sheet_37 ?_
        refine tz_bipush C_ (v := 120) (by decide) td_X_sheet_38 ?_
        refine tz_icmp_le C_ td_X_sheet_40 (fun h40 => ?_) (fun h40 => ?_)
        · skip
          obtain ⟨m, hm, em⟩ := tz_toN (Int32.not_lt.mpr h27) (show n ≤ nI 120 from h40) (by decide)
          subst em
          refine tz_aload C_ 4 rfl td_X_sheet_50 ?_
          refine tz_iload_n C_ 2 rfl rfl td_X_sheet_52 ?_
          refine tz_iload_n C_ 2 rfl rfl td_X_sheet_53 ?_
          refine tz_if_ne C_ td_X_sheet_54 (fun h54 => ?_) (fun h54 => ?_)
          · skip
            refine tz_iload_n C_ 3 rfl rfl td_X_sheet_61 ?_
            refine tz_cV C_ tmi_Q_restart tw_405 tw_406 tw_404 (hShs.2 kq9 hkq9).1 rfl (As := [.int b, .int (nI m)]) (by exact (ct_Q_restart (b := (Sb kq9).1) (n := (Sb kq9).2.1) (g := (Sb kq9).2.2) (k := m) ⟨(hShs.2 kq9 hkq9).1, (hShs.2 kq9 hkq9).2⟩ (by omega))) rfl (rest := []) rfl (by decide) (Nat.le_of_ble_eq_true rfl) td_X_sheet_62 (st1 := []) rfl (fun f11 hF11 => ?_)
            obtain ⟨hP12, hq12⟩ := hF11
            refine tz_aload C_ 4 rfl td_X_sheet_65 ?_
            refine tz_rV C_ tmi_Q_length tw_412 tw_413 tw_411 hP12.1 rfl (As := []) (by exact (ct_Q_length (b := b) (n := m) (g := tz_fl (fun _ => 0) ((Sb kq9).2.2) 120) ⟨hP12.1, hP12.2⟩)) rfl (rest := []) rfl (by decide) (Nat.le_of_ble_eq_true rfl) td_X_sheet_67 (st1 := [.int (nI m)]) rfl ?_
            refine tz_riret C_ hr_ hk_ hQ_ rfl td_X_sheet_70 ?_
            have k13 : f11 (B + 166) = some (tz_obj 9 [.ref (B + 166 + 1), .int (nI tn)]) := ((hq12 _ (by omega)).trans hTu.1)
            have k14 : f11 (B + 166 + 1) = some (tz_ints cs 120 tg) := ((hq12 _ (by omega)).trans hTu.2)
            have k15 : f11 (B + 168) = some (tz_obj 0 [.int zA, .int (nI kA)]) := ((hq12 _ (by omega)).trans hAl)
            have k16 : f11 B = some (tz_obj 10 [.ref (B + 1), .ref (B + 15), .ref (B + 157), .ref (B + 166), .ref (B + 168), .ref (B + 169), .ref (B + 177), .int σ.2.2.2]) := ((hq12 _ (by omega)).trans hB0)
            have kp17 : tz_Tape cs f11 (B + 1) R (tz_cur σ).2.1 o mp ml := hT.fr (fun q h1_ h2_ => (hq12 q (by omega)))
            have kp18 : tz_Hist cs f11 (B + 15) nx σ.2.1 St := hHi.fr (fun q h1_ h2_ => (hq12 q (by omega)))
            have kp19 : tz_PlX cs f11 (B + 169) := hPlX.fr (fun q h1_ h2_ => (hq12 q (by omega)))
            have kp20 : tz_RoX cs f11 (B + 177) := hRoX.fr (fun q h1_ h2_ => (hq12 q (by omega)))
            have e9 : sp_sheet σ (nI kq9) b (nI m) = (nI m, tz_ss σ kq9 (b, m, fun _ => 0)) := by simp only [sp_sheet, hpk9]; rw [if_pos h16, if_neg (Int32.not_lt.mpr h27), if_pos h40]; rw [if_neg h54, if_neg h54, nI_clamp (by omega)]
            rw [e9]
            refine ⟨rfl, ⟨R, o, mp, ml, nx, St, _, ⟨k16, kp17, kp18, hShs.set (k := kq9) ⟨hP12.1, hP12.2⟩ (fun q hh => by rw [hq12 q (by omega)]), ⟨_, _, ⟨k13, k14⟩, htn⟩, ⟨_, _, k15⟩, kp19, kp20⟩, hag.fr (fun q h9 => (hq12 q (by omega))), hnx, hH.fr (fun q h9 => (hq12 q (by omega))), hQ.set ?_⟩, (fun q hh => by rw [hq12 q (by omega)])⟩
            exact ⟨rfl, rfl, fun j hj => tz_fl_in (h := fun _ => 0) (i := 120) (Nat.lt_of_lt_of_le (show j < m from hj) hm)⟩
          · skip
            refine tz_iconst C_ (v := 0) (by decide) td_X_sheet_57 ?_
            refine tz_goto C_ td_X_sheet_58 ?_
            refine tz_cV C_ tmi_Q_restart tw_405 tw_406 tw_404 (hShs.2 kq9 hkq9).1 rfl (As := [.int b, .int 0]) (by exact (ct_Q_restart (b := (Sb kq9).1) (n := (Sb kq9).2.1) (g := (Sb kq9).2.2) (k := 0) ⟨(hShs.2 kq9 hkq9).1, (hShs.2 kq9 hkq9).2⟩ (by omega))) rfl (rest := []) rfl (by decide) (Nat.le_of_ble_eq_true rfl) td_X_sheet_62 (st1 := []) rfl (fun f21 hF21 => ?_)
            obtain ⟨hP22, hq22⟩ := hF21
            refine tz_aload C_ 4 rfl td_X_sheet_65 ?_
            refine tz_rV C_ tmi_Q_length tw_412 tw_413 tw_411 hP22.1 rfl (As := []) (by exact (ct_Q_length (b := b) (n := 0) (g := tz_fl (fun _ => 0) ((Sb kq9).2.2) 120) ⟨hP22.1, hP22.2⟩)) rfl (rest := []) rfl (by decide) (Nat.le_of_ble_eq_true rfl) td_X_sheet_67 (st1 := [.int (nI 0)]) rfl ?_
            refine tz_riret C_ hr_ hk_ hQ_ rfl td_X_sheet_70 ?_
            have k23 : f21 (B + 166) = some (tz_obj 9 [.ref (B + 166 + 1), .int (nI tn)]) := ((hq22 _ (by omega)).trans hTu.1)
            have k24 : f21 (B + 166 + 1) = some (tz_ints cs 120 tg) := ((hq22 _ (by omega)).trans hTu.2)
            have k25 : f21 (B + 168) = some (tz_obj 0 [.int zA, .int (nI kA)]) := ((hq22 _ (by omega)).trans hAl)
            have k26 : f21 B = some (tz_obj 10 [.ref (B + 1), .ref (B + 15), .ref (B + 157), .ref (B + 166), .ref (B + 168), .ref (B + 169), .ref (B + 177), .int σ.2.2.2]) := ((hq22 _ (by omega)).trans hB0)
            have kp27 : tz_Tape cs f21 (B + 1) R (tz_cur σ).2.1 o mp ml := hT.fr (fun q h1_ h2_ => (hq22 q (by omega)))
            have kp28 : tz_Hist cs f21 (B + 15) nx σ.2.1 St := hHi.fr (fun q h1_ h2_ => (hq22 q (by omega)))
            have kp29 : tz_PlX cs f21 (B + 169) := hPlX.fr (fun q h1_ h2_ => (hq22 q (by omega)))
            have kp30 : tz_RoX cs f21 (B + 177) := hRoX.fr (fun q h1_ h2_ => (hq22 q (by omega)))
            have e9 : sp_sheet σ (nI kq9) b (nI m) = (nI 0, tz_ss σ kq9 (b, 0, fun _ => 0)) := by simp only [sp_sheet, hpk9]; rw [if_pos h16, if_neg (Int32.not_lt.mpr h27), if_pos h40]; rw [if_pos h54, if_pos h54]; rfl
            rw [e9]
            refine ⟨rfl, ⟨R, o, mp, ml, nx, St, _, ⟨k26, kp27, kp28, hShs.set (k := kq9) ⟨hP22.1, hP22.2⟩ (fun q hh => by rw [hq22 q (by omega)]), ⟨_, _, ⟨k23, k24⟩, htn⟩, ⟨_, _, k25⟩, kp29, kp30⟩, hag.fr (fun q h9 => (hq22 q (by omega))), hnx, hH.fr (fun q h9 => (hq22 q (by omega))), hQ.set ?_⟩, (fun q hh => by rw [hq22 q (by omega)])⟩
            exact ⟨rfl, rfl, fun j hj => absurd hj (Nat.not_lt_zero j)⟩
        · skip
          refine tz_aload_n C_ 0 rfl rfl td_X_sheet_43 ?_
          refine tz_ldc C_ tw_273 td_X_sheet_44 ?_
          refine tz_cV C_ tmi_X_answer tw_276 tw_0 tw_274 hB0 rfl (As := [.int (-100001)]) (by exact (ct_X_answer (v := -100001) hB0)) rfl (rest := []) rfl (by decide) (Nat.le_of_ble_eq_true rfl) td_X_sheet_46 (st1 := [.int (-100001)]) rfl (fun f31 hF31 => ?_)
          obtain ⟨hs32, hq32⟩ := hF31
          refine tz_riret C_ hr_ hk_ hQ_ rfl td_X_sheet_49 ?_
          have k33 : f31 (B + 166) = some (tz_obj 9 [.ref (B + 166 + 1), .int (nI tn)]) := ((hq32 _ (by omega)).trans hTu.1)
          have k34 : f31 (B + 166 + 1) = some (tz_ints cs 120 tg) := ((hq32 _ (by omega)).trans hTu.2)
          have k35 : f31 (B + 168) = some (tz_obj 0 [.int zA, .int (nI kA)]) := ((hq32 _ (by omega)).trans hAl)
          have kp36 : tz_Tape cs f31 (B + 1) R (tz_cur σ).2.1 o mp ml := hT.fr (fun q h1_ h2_ => (hq32 q (by omega)))
          have kp37 : tz_Hist cs f31 (B + 15) nx σ.2.1 St := hHi.fr (fun q h1_ h2_ => (hq32 q (by omega)))
          have kp38 : tz_Shs cs f31 (B + 157) Sb := hShs.fr (fun q h1_ h2_ => (hq32 q (by omega)))
          have kp39 : tz_PlX cs f31 (B + 169) := hPlX.fr (fun q h1_ h2_ => (hq32 q (by omega)))
          have kp40 : tz_RoX cs f31 (B + 177) := hRoX.fr (fun q h1_ h2_ => (hq32 q (by omega)))
          have e9 : sp_sheet σ (nI kq9) b n = tz_an σ (-100001) := by simp only [sp_sheet, hpk9]; rw [if_pos h16, if_neg (Int32.not_lt.mpr h27), if_neg h40]
          rw [e9]
          exact ⟨rfl, ⟨R, o, mp, ml, nx, St, Sb, ⟨hs32, kp36, kp37, kp38, ⟨_, _, ⟨k33, k34⟩, htn⟩, ⟨_, _, k35⟩, kp39, kp40⟩, hag.fr (fun q h9 => (hq32 q (by omega))), hnx, hH.fr (fun q h9 => (hq32 q (by omega))), hQ⟩, (fun q hh => by rw [hq32 q (by omega)])⟩
      · skip
        refine tz_aload_n C_ 0 rfl rfl td_X_sheet_30 ?_
        refine tz_ldc C_ tw_403 td_X_sheet_31 ?_
        refine tz_cV C_ tmi_X_answer tw_276 tw_0 tw_274 hB0 rfl (As := [.int (-100003)]) (by exact (ct_X_answer (v := -100003) hB0)) rfl (rest := []) rfl (by decide) (Nat.le_of_ble_eq_true rfl) td_X_sheet_33 (st1 := [.int (-100003)]) rfl (fun f41 hF41 => ?_)
        obtain ⟨hs42, hq42⟩ := hF41
        refine tz_riret C_ hr_ hk_ hQ_ rfl td_X_sheet_36 ?_
        have k43 : f41 (B + 166) = some (tz_obj 9 [.ref (B + 166 + 1), .int (nI tn)]) := ((hq42 _ (by omega)).trans hTu.1)
        have k44 : f41 (B + 166 + 1) = some (tz_ints cs 120 tg) := ((hq42 _ (by omega)).trans hTu.2)
        have k45 : f41 (B + 168) = some (tz_obj 0 [.int zA, .int (nI kA)]) := ((hq42 _ (by omega)).trans hAl)
        have kp46 : tz_Tape cs f41 (B + 1) R (tz_cur σ).2.1 o mp ml := hT.fr (fun q h1_ h2_ => (hq42 q (by omega)))
        have kp47 : tz_Hist cs f41 (B + 15) nx σ.2.1 St := hHi.fr (fun q h1_ h2_ => (hq42 q (by omega)))
        have kp48 : tz_Shs cs f41 (B + 157) Sb := hShs.fr (fun q h1_ h2_ => (hq42 q (by omega)))
        have kp49 : tz_PlX cs f41 (B + 169) := hPlX.fr (fun q h1_ h2_ => (hq42 q (by omega)))
        have kp50 : tz_RoX cs f41 (B + 177) := hRoX.fr (fun q h1_ h2_ => (hq42 q (by omega)))
        have e9 : sp_sheet σ (nI kq9) b n = tz_an σ (-100003) := by simp only [sp_sheet, hpk9]; rw [if_pos h16, if_pos (Int32.not_le.mp h27)]
        rw [e9]
        exact ⟨rfl, ⟨R, o, mp, ml, nx, St, Sb, ⟨hs42, kp46, kp47, kp48, ⟨_, _, ⟨k43, k44⟩, htn⟩, ⟨_, _, k45⟩, kp49, kp50⟩, hag.fr (fun q h9 => (hq42 q (by omega))), hnx, hH.fr (fun q h9 => (hq42 q (by omega))), hQ⟩, (fun q hh => by rw [hq42 q (by omega)])⟩
    · skip
      replace h16 := tz_p0.mp h16
      refine tz_aload_n C_ 0 rfl rfl td_X_sheet_19 ?_
      refine tz_ldc C_ tw_273 td_X_sheet_20 ?_
      refine tz_cV C_ tmi_X_answer tw_276 tw_0 tw_274 hB0 rfl (As := [.int (-100001)]) (by exact (ct_X_answer (v := -100001) hB0)) rfl (rest := []) rfl (by decide) (Nat.le_of_ble_eq_true rfl) td_X_sheet_22 (st1 := [.int (-100001)]) rfl (fun f51 hF51 => ?_)
      obtain ⟨hs52, hq52⟩ := hF51
      refine tz_riret C_ hr_ hk_ hQ_ rfl td_X_sheet_25 ?_
      have k53 : f51 (B + 166) = some (tz_obj 9 [.ref (B + 166 + 1), .int (nI tn)]) := ((hq52 _ (by omega)).trans hTu.1)
      have k54 : f51 (B + 166 + 1) = some (tz_ints cs 120 tg) := ((hq52 _ (by omega)).trans hTu.2)
      have k55 : f51 (B + 168) = some (tz_obj 0 [.int zA, .int (nI kA)]) := ((hq52 _ (by omega)).trans hAl)
      have kp56 : tz_Tape cs f51 (B + 1) R (tz_cur σ).2.1 o mp ml := hT.fr (fun q h1_ h2_ => (hq52 q (by omega)))
      have kp57 : tz_Hist cs f51 (B + 15) nx σ.2.1 St := hHi.fr (fun q h1_ h2_ => (hq52 q (by omega)))
      have kp58 : tz_Shs cs f51 (B + 157) Sb := hShs.fr (fun q h1_ h2_ => (hq52 q (by omega)))
      have kp59 : tz_PlX cs f51 (B + 169) := hPlX.fr (fun q h1_ h2_ => (hq52 q (by omega)))
      have kp60 : tz_RoX cs f51 (B + 177) := hRoX.fr (fun q h1_ h2_ => (hq52 q (by omega)))
      have e9 : sp_sheet σ (nI kq9) b n = tz_an σ (-100001) := by simp only [sp_sheet, hpk9]; rw [if_neg h16]
      rw [e9]
      exact ⟨rfl, ⟨R, o, mp, ml, nx, St, Sb, ⟨hs52, kp56, kp57, kp58, ⟨_, _, ⟨k53, k54⟩, htn⟩, ⟨_, _, k55⟩, kp59, kp60⟩, hag.fr (fun q h9 => (hq52 q (by omega))), hnx, hH.fr (fun q h9 => (hq52 q (by omega))), hQ⟩, (fun q hh => by rw [hq52 q (by omega)])⟩

abbrev rm_X_write : Room := { frames := 2, cells := 0, slots := 0, locals := 44 }
set_option maxHeartbeats 4000000 in
set_option maxRecDepth 100000 in
theorem ct_X_write {l : Launch} {A : Nat → Prop} {D : va_G} {cs : Nat → ClassId} {sz : Nat} {f : tz_PH} {B L0 : Nat} {σ : tz_SG} (hX : tz_AX cs L0 f B σ) (hW : tz_WF σ) (hB : B + 179 ≤ L0) {s i v : Int32} : tz_CN l tyX_write prog_1_method_9_code 5 (some (.int)) rm_X_write 0 0 A D cs sz [.ref B, .int s, .int i, .int v] f (some (.int (sp_write σ s i v).1)) (fun f' => tz_AX cs L0 f' B (sp_write σ s i v).2 ∧ ∀ q, (q < B ∨ B + 179 ≤ q) → f' q = f q) := by
  refine tz_C.ofB (lv0 := [(0, .ref B), (1, .int s), (2, .int i), (3, .int v)]) (plainFor_of_name (by decide)) (Nat.le_of_ble_eq_true rfl) rfl ?_
  intro p_ e_ s_ m_ ar_ be_ me_ c_ Q_ C_ hr_ hk_ hnm_ hz_ hQ_
  obtain ⟨R, o, mp, ml, nx, St, Sb, hXB, hag, hnx, hH, hQ⟩ := hX
  obtain ⟨hB0, hT, hHi, hShs, hTuX, hAlX, hPlX, hRoX⟩ := hXB
  have hTu9 := hTuX
  obtain ⟨tn, tg, hTu, htn⟩ := hTu9
  have hAl9 := hAlX
  obtain ⟨zA, kA, hAl⟩ := hAl9
  have hPl9 := hPlX
  obtain ⟨pr, px, pfo, pz, pk, ptn, ptg, pn, pg, pn2, pg2, hPl, hpn, hptn⟩ := hPl9
  have hRo9 := hRoX
  obtain ⟨jn, jg, hRo, hjn⟩ := hRo9
  have hrx := hPl.2.2.2.2.2
  have hRn : ∀ p, p < 4 → (R p).1 ≤ 120 := fun p hp => by rw [(hag.1 p hp).1]; exact (hW.cur.1 p hp).1
  have hnl : (tz_cur σ).2.1 ≤ 8 := hW.cur.2.1
  have hkp : σ.2.1 ≤ 20 := hW.1
  have hSn : ∀ s, s < 4 → (Sb s).2.1 ≤ 120 := fun s hs => by rw [(hQ s hs).2.1]; exact (hW.2.2 s hs).1
  refine tz_aload_n C_ 0 rfl rfl td_X_write_0 ?_
  refine tz_iload_n C_ 1 rfl rfl td_X_write_1 ?_
  refine tz_rV C_ tmi_X_sheetAt tw_398 tw_2 tw_396 hB0 rfl (As := [.int s]) (by exact (ct_X_sheetAt hB0 hShs.1)) rfl (rest := []) rfl (by decide) (Nat.le_of_ble_eq_true rfl) td_X_write_2 (st1 := [va_rf (tz_qof (B + 157) s)]) rfl ?_
  refine tz_astoreQ C_ (lv' := [(0, .ref B), (1, .int s), (2, .int i), (3, .int v), (4, va_rf (tz_qof (B + 157) s))]) [1, 2, 3, 4, 0] (by decide) rfl td_X_write_5 ?_
  refine tz_aloadQ C_ 4 rfl td_X_write_7 ?_
  refine tz_ifnonnull C_ td_X_write_9 (fun q9 h9 => ?_) (fun h9 => ?_)
  · skip
    obtain ⟨kq9, hkq9, ekq9, eqkq9⟩ := tz_qof_some h9
    rw [h9]
    subst eqkq9
    subst ekq9
    have hpk9 := tz_pk_N hkq9
    have hSnkq9 := hSn kq9 hkq9
    have hbkq9 : (Sb kq9).1 = tz_sb σ kq9 := (hQ kq9 hkq9).1
    have hnkq9 : (Sb kq9).2.1 = tz_sn σ kq9 := (hQ kq9 hkq9).2.1
    have hvkq9 : ∀ j, j < tz_sn σ kq9 → (Sb kq9).2.2 j = tz_sv σ kq9 j := (hQ kq9 hkq9).2.2
    refine tz_aload C_ 4 rfl td_X_write_19 ?_
    refine tz_rV C_ tmi_Q_isMissing tw_420 tw_421 tw_419 (hShs.2 kq9 hkq9).1 rfl (As := []) (by exact (ct_Q_isMissing (b := (Sb kq9).1) (n := (Sb kq9).2.1) (g := (Sb kq9).2.2) ⟨(hShs.2 kq9 hkq9).1, (hShs.2 kq9 hkq9).2⟩)) rfl (rest := []) rfl (by decide) (Nat.le_of_ble_eq_true rfl) td_X_write_21 (st1 := [.int (tz_p (((Sb kq9).1) = 0))]) rfl ?_
    refine tz_if_eq C_ td_X_write_24 (fun h24 => ?_) (fun h24 => ?_)
    · skip
      replace h24 := tz_p0.mp h24
      refine tz_aload C_ 4 rfl td_X_write_34 ?_
      refine tz_iload_n C_ 2 rfl rfl td_X_write_36 ?_
      refine tz_rV C_ tmi_Q_has tw_425 tw_426 tw_424 (hShs.2 kq9 hkq9).1 rfl (As := [.int i]) (by exact (ct_Q_has (b := (Sb kq9).1) (n := (Sb kq9).2.1) (g := (Sb kq9).2.2) ⟨(hShs.2 kq9 hkq9).1, (hShs.2 kq9 hkq9).2⟩ (by omega))) rfl (rest := []) rfl (by decide) (Nat.le_of_ble_eq_true rfl) td_X_write_37 (st1 := [.int (tz_p (0 ≤ i ∧ i < nI ((Sb kq9).2.1)))]) rfl ?_
      refine tz_if_ne C_ td_X_write_40 (fun h40 => ?_) (fun h40 => ?_)
      · skip
        replace h40 := tz_p1.mp h40
        refine tz_aload C_ 4 rfl td_X_write_50 ?_
        refine tz_iload_n C_ 2 rfl rfl td_X_write_52 ?_
        refine tz_iload_n C_ 3 rfl rfl td_X_write_53 ?_
        refine tz_cV C_ tmi_Q_set tw_429 tw_430 tw_428 (hShs.2 kq9 hkq9).1 rfl (As := [.int i, .int v]) (by exact (ct_Q_set (b := (Sb kq9).1) (n := (Sb kq9).2.1) (g := (Sb kq9).2.2) ⟨(hShs.2 kq9 hkq9).1, (hShs.2 kq9 hkq9).2⟩ (by omega))) rfl (rest := []) rfl (by decide) (Nat.le_of_ble_eq_true rfl) td_X_write_54 (st1 := []) rfl (fun f1 hF1 => ?_)
        obtain ⟨hP2, hq2⟩ := hF1
        refine tz_iconst C_ (v := 0) (by decide) td_X_write_57 ?_
        refine tz_riret C_ hr_ hk_ hQ_ rfl td_X_write_58 ?_
        have k3 : f1 (B + 166) = some (tz_obj 9 [.ref (B + 166 + 1), .int (nI tn)]) := ((hq2 _ (by omega)).trans hTu.1)
        have k4 : f1 (B + 166 + 1) = some (tz_ints cs 120 tg) := ((hq2 _ (by omega)).trans hTu.2)
        have k5 : f1 (B + 168) = some (tz_obj 0 [.int zA, .int (nI kA)]) := ((hq2 _ (by omega)).trans hAl)
        have k6 : f1 B = some (tz_obj 10 [.ref (B + 1), .ref (B + 15), .ref (B + 157), .ref (B + 166), .ref (B + 168), .ref (B + 169), .ref (B + 177), .int σ.2.2.2]) := ((hq2 _ (by omega)).trans hB0)
        have kp7 : tz_Tape cs f1 (B + 1) R (tz_cur σ).2.1 o mp ml := hT.fr (fun q h1_ h2_ => (hq2 q (by omega)))
        have kp8 : tz_Hist cs f1 (B + 15) nx σ.2.1 St := hHi.fr (fun q h1_ h2_ => (hq2 q (by omega)))
        have kp9 : tz_PlX cs f1 (B + 169) := hPlX.fr (fun q h1_ h2_ => (hq2 q (by omega)))
        have kp10 : tz_RoX cs f1 (B + 177) := hRoX.fr (fun q h1_ h2_ => (hq2 q (by omega)))
        have e9 : sp_write σ (nI kq9) i v = (0, tz_ss σ kq9 (tz_sb σ kq9, tz_sn σ kq9, tz_qset (tz_sb σ kq9) (tz_sn σ kq9) (tz_sv σ kq9) i v)) := by simp only [sp_write, hpk9]; rw [if_neg (hbkq9 ▸ h24), if_pos (hnkq9 ▸ h40)]
        rw [e9]
        refine ⟨rfl, ⟨R, o, mp, ml, nx, St, _, ⟨k6, kp7, kp8, hShs.set (k := kq9) ⟨hP2.1, hP2.2⟩ (fun q hh => by rw [hq2 q (by omega)]), ⟨_, _, ⟨k3, k4⟩, htn⟩, ⟨_, _, k5⟩, kp9, kp10⟩, hag.fr (fun q h9 => (hq2 q (by omega))), hnx, hH.fr (fun q h9 => (hq2 q (by omega))), hQ.set ?_⟩, (fun q hh => by rw [hq2 q (by omega)])⟩
        rw [hbkq9, hnkq9]
        exact ⟨rfl, rfl, tz_qset_cg hvkq9⟩
      · skip
        replace h40 := tz_p0.mp h40
        refine tz_aload_n C_ 0 rfl rfl td_X_write_43 ?_
        refine tz_ldc C_ tw_273 td_X_write_44 ?_
        refine tz_cV C_ tmi_X_answer tw_276 tw_0 tw_274 hB0 rfl (As := [.int (-100001)]) (by exact (ct_X_answer (v := -100001) hB0)) rfl (rest := []) rfl (by decide) (Nat.le_of_ble_eq_true rfl) td_X_write_46 (st1 := [.int (-100001)]) rfl (fun f11 hF11 => ?_)
        obtain ⟨hs12, hq12⟩ := hF11
        refine tz_riret C_ hr_ hk_ hQ_ rfl td_X_write_49 ?_
        have k13 : f11 (B + 166) = some (tz_obj 9 [.ref (B + 166 + 1), .int (nI tn)]) := ((hq12 _ (by omega)).trans hTu.1)
        have k14 : f11 (B + 166 + 1) = some (tz_ints cs 120 tg) := ((hq12 _ (by omega)).trans hTu.2)
        have k15 : f11 (B + 168) = some (tz_obj 0 [.int zA, .int (nI kA)]) := ((hq12 _ (by omega)).trans hAl)
        have kp16 : tz_Tape cs f11 (B + 1) R (tz_cur σ).2.1 o mp ml := hT.fr (fun q h1_ h2_ => (hq12 q (by omega)))
        have kp17 : tz_Hist cs f11 (B + 15) nx σ.2.1 St := hHi.fr (fun q h1_ h2_ => (hq12 q (by omega)))
        have kp18 : tz_Shs cs f11 (B + 157) Sb := hShs.fr (fun q h1_ h2_ => (hq12 q (by omega)))
        have kp19 : tz_PlX cs f11 (B + 169) := hPlX.fr (fun q h1_ h2_ => (hq12 q (by omega)))
        have kp20 : tz_RoX cs f11 (B + 177) := hRoX.fr (fun q h1_ h2_ => (hq12 q (by omega)))
        have e9 : sp_write σ (nI kq9) i v = tz_an σ (-100001) := by simp only [sp_write, hpk9]; rw [if_neg (hbkq9 ▸ h24), if_neg (hnkq9 ▸ h40)]
        rw [e9]
        exact ⟨rfl, ⟨R, o, mp, ml, nx, St, Sb, ⟨hs12, kp16, kp17, kp18, ⟨_, _, ⟨k13, k14⟩, htn⟩, ⟨_, _, k15⟩, kp19, kp20⟩, hag.fr (fun q h9 => (hq12 q (by omega))), hnx, hH.fr (fun q h9 => (hq12 q (by omega))), hQ⟩, (fun q hh => by rw [hq12 q (by omega)])⟩
    · skip
      replace h24 := tz_p1.mp h24
      refine tz_aload_n C_ 0 rfl rfl td_X_write_27 ?_
      refine tz_ldc C_ tw_423 td_X_write_28 ?_
      refine tz_cV C_ tmi_X_answer tw_276 tw_0 tw_274 hB0 rfl (As := [.int (-100002)]) (by exact (ct_X_answer (v := -100002) hB0)) rfl (rest := []) rfl (by decide) (Nat.le_of_ble_eq_true rfl) td_X_write_30 (st1 := [.int (-100002)]) rfl (fun f21 hF21 => ?_)
      obtain ⟨hs22, hq22⟩ := hF21
      refine tz_riret C_ hr_ hk_ hQ_ rfl td_X_write_33 ?_
      have k23 : f21 (B + 166) = some (tz_obj 9 [.ref (B + 166 + 1), .int (nI tn)]) := ((hq22 _ (by omega)).trans hTu.1)
      have k24 : f21 (B + 166 + 1) = some (tz_ints cs 120 tg) := ((hq22 _ (by omega)).trans hTu.2)
      have k25 : f21 (B + 168) = some (tz_obj 0 [.int zA, .int (nI kA)]) := ((hq22 _ (by omega)).trans hAl)
      have kp26 : tz_Tape cs f21 (B + 1) R (tz_cur σ).2.1 o mp ml := hT.fr (fun q h1_ h2_ => (hq22 q (by omega)))
      have kp27 : tz_Hist cs f21 (B + 15) nx σ.2.1 St := hHi.fr (fun q h1_ h2_ => (hq22 q (by omega)))
      have kp28 : tz_Shs cs f21 (B + 157) Sb := hShs.fr (fun q h1_ h2_ => (hq22 q (by omega)))
      have kp29 : tz_PlX cs f21 (B + 169) := hPlX.fr (fun q h1_ h2_ => (hq22 q (by omega)))
      have kp30 : tz_RoX cs f21 (B + 177) := hRoX.fr (fun q h1_ h2_ => (hq22 q (by omega)))
      have e9 : sp_write σ (nI kq9) i v = tz_an σ (-100002) := by simp only [sp_write, hpk9]; rw [if_pos (hbkq9 ▸ h24)]
      rw [e9]
      exact ⟨rfl, ⟨R, o, mp, ml, nx, St, Sb, ⟨hs22, kp26, kp27, kp28, ⟨_, _, ⟨k23, k24⟩, htn⟩, ⟨_, _, k25⟩, kp29, kp30⟩, hag.fr (fun q h9 => (hq22 q (by omega))), hnx, hH.fr (fun q h9 => (hq22 q (by omega))), hQ⟩, (fun q hh => by rw [hq22 q (by omega)])⟩
  · skip
    rw [h9]
    have hpk9 := tz_qpk_none h9
    refine tz_aload_n C_ 0 rfl rfl td_X_write_12 ?_
    refine tz_ldc C_ tw_273 td_X_write_13 ?_
    refine tz_cV C_ tmi_X_answer tw_276 tw_0 tw_274 hB0 rfl (As := [.int (-100001)]) (by exact (ct_X_answer (v := -100001) hB0)) rfl (rest := []) rfl (by decide) (Nat.le_of_ble_eq_true rfl) td_X_write_15 (st1 := [.int (-100001)]) rfl (fun f31 hF31 => ?_)
    obtain ⟨hs32, hq32⟩ := hF31
    refine tz_riret C_ hr_ hk_ hQ_ rfl td_X_write_18 ?_
    have k33 : f31 (B + 166) = some (tz_obj 9 [.ref (B + 166 + 1), .int (nI tn)]) := ((hq32 _ (by omega)).trans hTu.1)
    have k34 : f31 (B + 166 + 1) = some (tz_ints cs 120 tg) := ((hq32 _ (by omega)).trans hTu.2)
    have k35 : f31 (B + 168) = some (tz_obj 0 [.int zA, .int (nI kA)]) := ((hq32 _ (by omega)).trans hAl)
    have kp36 : tz_Tape cs f31 (B + 1) R (tz_cur σ).2.1 o mp ml := hT.fr (fun q h1_ h2_ => (hq32 q (by omega)))
    have kp37 : tz_Hist cs f31 (B + 15) nx σ.2.1 St := hHi.fr (fun q h1_ h2_ => (hq32 q (by omega)))
    have kp38 : tz_Shs cs f31 (B + 157) Sb := hShs.fr (fun q h1_ h2_ => (hq32 q (by omega)))
    have kp39 : tz_PlX cs f31 (B + 169) := hPlX.fr (fun q h1_ h2_ => (hq32 q (by omega)))
    have kp40 : tz_RoX cs f31 (B + 177) := hRoX.fr (fun q h1_ h2_ => (hq32 q (by omega)))
    have e9 : sp_write σ s i v = tz_an σ (-100001) := by simp only [sp_write, hpk9]
    rw [e9]
    exact ⟨rfl, ⟨R, o, mp, ml, nx, St, Sb, ⟨hs32, kp36, kp37, kp38, ⟨_, _, ⟨k33, k34⟩, htn⟩, ⟨_, _, k35⟩, kp39, kp40⟩, hag.fr (fun q h9 => (hq32 q (by omega))), hnx, hH.fr (fun q h9 => (hq32 q (by omega))), hQ⟩, (fun q hh => by rw [hq32 q (by omega)])⟩

abbrev rm_X_copy : Room := { frames := 2, cells := 0, slots := 0, locals := 46 }
set_option maxHeartbeats 4000000 in
set_option maxRecDepth 100000 in
theorem ct_X_copy {l : Launch} {A : Nat → Prop} {D : va_G} {cs : Nat → ClassId} {sz : Nat} {f : tz_PH} {B L0 : Nat} {σ : tz_SG} (hX : tz_AX cs L0 f B σ) (hW : tz_WF σ) (hB : B + 179 ≤ L0) {s i t j n : Int32} : tz_CN l tyX_copy prog_1_method_10_code 8 (some (.int)) rm_X_copy 0 0 A D cs sz [.ref B, .int s, .int i, .int t, .int j, .int n] f (some (.int (sp_copy σ s i t j n).1)) (fun f' => tz_AX cs L0 f' B (sp_copy σ s i t j n).2 ∧ ∀ q, (q < B ∨ B + 179 ≤ q) → f' q = f q) := by
  refine tz_C.ofB (lv0 := [(0, .ref B), (1, .int s), (2, .int i), (3, .int t), (4, .int j), (5, .int n)]) (plainFor_of_name (by decide)) (Nat.le_of_ble_eq_true rfl) rfl ?_
  intro p_ e_ s_ m_ ar_ be_ me_ c_ Q_ C_ hr_ hk_ hnm_ hz_ hQ_
  obtain ⟨R, o, mp, ml, nx, St, Sb, hXB, hag, hnx, hH, hQ⟩ := hX
  obtain ⟨hB0, hT, hHi, hShs, hTuX, hAlX, hPlX, hRoX⟩ := hXB
  have hTu9 := hTuX
  obtain ⟨tn, tg, hTu, htn⟩ := hTu9
  have hAl9 := hAlX
  obtain ⟨zA, kA, hAl⟩ := hAl9
  have hPl9 := hPlX
  obtain ⟨pr, px, pfo, pz, pk, ptn, ptg, pn, pg, pn2, pg2, hPl, hpn, hptn⟩ := hPl9
  have hRo9 := hRoX
  obtain ⟨jn, jg, hRo, hjn⟩ := hRo9
  have hrx := hPl.2.2.2.2.2
  have hRn : ∀ p, p < 4 → (R p).1 ≤ 120 := fun p hp => by rw [(hag.1 p hp).1]; exact (hW.cur.1 p hp).1
  have hnl : (tz_cur σ).2.1 ≤ 8 := hW.cur.2.1
  have hkp : σ.2.1 ≤ 20 := hW.1
  have hSn : ∀ s, s < 4 → (Sb s).2.1 ≤ 120 := fun s hs => by rw [(hQ s hs).2.1]; exact (hW.2.2 s hs).1
  refine tz_aload_n C_ 0 rfl rfl td_X_copy_0 ?_
  refine tz_iload_n C_ 1 rfl rfl td_X_copy_1 ?_
  refine tz_rV C_ tmi_X_sheetAt tw_398 tw_2 tw_396 hB0 rfl (As := [.int s]) (by exact (ct_X_sheetAt hB0 hShs.1)) rfl (rest := []) rfl (by decide) (Nat.le_of_ble_eq_true rfl) td_X_copy_2 (st1 := [va_rf (tz_qof (B + 157) s)]) rfl ?_
  refine tz_astoreQ C_ (lv' := [(0, .ref B), (1, .int s), (2, .int i), (3, .int t), (4, .int j), (5, .int n), (6, va_rf (tz_qof (B + 157) s))]) [1, 2, 3, 4, 5, 6, 0] (by decide) rfl td_X_copy_5 ?_
  refine tz_aload_n C_ 0 rfl rfl td_X_copy_7 ?_
  refine tz_iload_n C_ 3 rfl rfl td_X_copy_8 ?_
  refine tz_rV C_ tmi_X_sheetAt tw_398 tw_2 tw_396 hB0 rfl (As := [.int t]) (by exact (ct_X_sheetAt hB0 hShs.1)) rfl (rest := []) rfl (by decide) (Nat.le_of_ble_eq_true rfl) td_X_copy_9 (st1 := [va_rf (tz_qof (B + 157) t)]) rfl ?_
  refine tz_astoreQ C_ (lv' := [(0, .ref B), (1, .int s), (2, .int i), (3, .int t), (4, .int j), (5, .int n), (6, va_rf (tz_qof (B + 157) s)), (7, va_rf (tz_qof (B + 157) t))]) [1, 2, 3, 4, 5, 6, 7, 0] (by decide) (by generalize tz_qof (B + 157) s = z9; cases z9 <;> rfl) td_X_copy_12 ?_
  refine tz_aloadQ C_ 6 rfl td_X_copy_14 ?_
  refine tz_ifnull C_ td_X_copy_16 (fun h16 => ?_) (fun q16 h16 => ?_)
  · skip
    rw [h16]
    have hpk16 := tz_qpk_none h16
    refine tz_aload_n C_ 0 rfl rfl td_X_copy_24 ?_
    refine tz_ldc C_ tw_273 td_X_copy_25 ?_
    refine tz_cV C_ tmi_X_answer tw_276 tw_0 tw_274 hB0 rfl (As := [.int (-100001)]) (by exact (ct_X_answer (v := -100001) hB0)) rfl (rest := []) rfl (by decide) (Nat.le_of_ble_eq_true rfl) td_X_copy_27 (st1 := [.int (-100001)]) rfl (fun f1 hF1 => ?_)
    obtain ⟨hs2, hq2⟩ := hF1
    refine tz_riret C_ hr_ hk_ hQ_ rfl td_X_copy_30 ?_
    have k3 : f1 (B + 166) = some (tz_obj 9 [.ref (B + 166 + 1), .int (nI tn)]) := ((hq2 _ (by omega)).trans hTu.1)
    have k4 : f1 (B + 166 + 1) = some (tz_ints cs 120 tg) := ((hq2 _ (by omega)).trans hTu.2)
    have k5 : f1 (B + 168) = some (tz_obj 0 [.int zA, .int (nI kA)]) := ((hq2 _ (by omega)).trans hAl)
    have kp6 : tz_Tape cs f1 (B + 1) R (tz_cur σ).2.1 o mp ml := hT.fr (fun q h1_ h2_ => (hq2 q (by omega)))
    have kp7 : tz_Hist cs f1 (B + 15) nx σ.2.1 St := hHi.fr (fun q h1_ h2_ => (hq2 q (by omega)))
    have kp8 : tz_Shs cs f1 (B + 157) Sb := hShs.fr (fun q h1_ h2_ => (hq2 q (by omega)))
    have kp9 : tz_PlX cs f1 (B + 169) := hPlX.fr (fun q h1_ h2_ => (hq2 q (by omega)))
    have kp10 : tz_RoX cs f1 (B + 177) := hRoX.fr (fun q h1_ h2_ => (hq2 q (by omega)))
    have e9 : sp_copy σ s i t j n = tz_an σ (-100001) := by simp only [sp_copy, hpk16]
    rw [e9]
    exact ⟨rfl, ⟨R, o, mp, ml, nx, St, Sb, ⟨hs2, kp6, kp7, kp8, ⟨_, _, ⟨k3, k4⟩, htn⟩, ⟨_, _, k5⟩, kp9, kp10⟩, hag.fr (fun q h9 => (hq2 q (by omega))), hnx, hH.fr (fun q h9 => (hq2 q (by omega))), hQ⟩, (fun q hh => by rw [hq2 q (by omega)])⟩
  · skip
    obtain ⟨kq16, hkq16, ekq16, eqkq16⟩ := tz_qof_some h16
    rw [h16]
    subst eqkq16
    subst ekq16
    have hpk16 := tz_pk_N hkq16
    have hSnkq16 := hSn kq16 hkq16
    have hbkq16 : (Sb kq16).1 = tz_sb σ kq16 := (hQ kq16 hkq16).1
    have hnkq16 : (Sb kq16).2.1 = tz_sn σ kq16 := (hQ kq16 hkq16).2.1
    have hvkq16 : ∀ j, j < tz_sn σ kq16 → (Sb kq16).2.2 j = tz_sv σ kq16 j := (hQ kq16 hkq16).2.2
    refine tz_aloadQ C_ 7 rfl td_X_copy_19 ?_
    refine tz_ifnonnull C_ td_X_copy_21 (fun q21 h21 => ?_) (fun h21 => ?_)
    · skip
      obtain ⟨kq21, hkq21, ekq21, eqkq21⟩ := tz_qof_some h21
      rw [h21]
      subst eqkq21
      subst ekq21
      have hpk21 := tz_pk_N hkq21
      have hSnkq21 := hSn kq21 hkq21
      have hbkq21 : (Sb kq21).1 = tz_sb σ kq21 := (hQ kq21 hkq21).1
      have hnkq21 : (Sb kq21).2.1 = tz_sn σ kq21 := (hQ kq21 hkq21).2.1
      have hvkq21 : ∀ j, j < tz_sn σ kq21 → (Sb kq21).2.2 j = tz_sv σ kq21 j := (hQ kq21 hkq21).2.2
      refine tz_aload C_ 6 rfl td_X_copy_31 ?_
      refine tz_rV C_ tmi_Q_isMissing tw_420 tw_421 tw_419 (hShs.2 kq16 hkq16).1 rfl (As := []) (by exact (ct_Q_isMissing (b := (Sb kq16).1) (n := (Sb kq16).2.1) (g := (Sb kq16).2.2) ⟨(hShs.2 kq16 hkq16).1, (hShs.2 kq16 hkq16).2⟩)) rfl (rest := []) rfl (by decide) (Nat.le_of_ble_eq_true rfl) td_X_copy_33 (st1 := [.int (tz_p (((Sb kq16).1) = 0))]) rfl ?_
      refine tz_if_ne C_ td_X_copy_36 (fun h36 => ?_) (fun h36 => ?_)
      · skip
        replace h36 := tz_p1.mp h36
        refine tz_aload_n C_ 0 rfl rfl td_X_copy_47 ?_
        refine tz_ldc C_ tw_423 td_X_copy_48 ?_
        refine tz_cV C_ tmi_X_answer tw_276 tw_0 tw_274 hB0 rfl (As := [.int (-100002)]) (by exact (ct_X_answer (v := -100002) hB0)) rfl (rest := []) rfl (by decide) (Nat.le_of_ble_eq_true rfl) td_X_copy_50 (st1 := [.int (-100002)]) rfl (fun f11 hF11 => ?_)
        obtain ⟨hs12, hq12⟩ := hF11
        refine tz_riret C_ hr_ hk_ hQ_ rfl td_X_copy_53 ?_
        have k13 : f11 (B + 166) = some (tz_obj 9 [.ref (B + 166 + 1), .int (nI tn)]) := ((hq12 _ (by omega)).trans hTu.1)
        have k14 : f11 (B + 166 + 1) = some (tz_ints cs 120 tg) := ((hq12 _ (by omega)).trans hTu.2)
        have k15 : f11 (B + 168) = some (tz_obj 0 [.int zA, .int (nI kA)]) := ((hq12 _ (by omega)).trans hAl)
        have kp16 : tz_Tape cs f11 (B + 1) R (tz_cur σ).2.1 o mp ml := hT.fr (fun q h1_ h2_ => (hq12 q (by omega)))
        have kp17 : tz_Hist cs f11 (B + 15) nx σ.2.1 St := hHi.fr (fun q h1_ h2_ => (hq12 q (by omega)))
        have kp18 : tz_Shs cs f11 (B + 157) Sb := hShs.fr (fun q h1_ h2_ => (hq12 q (by omega)))
        have kp19 : tz_PlX cs f11 (B + 169) := hPlX.fr (fun q h1_ h2_ => (hq12 q (by omega)))
        have kp20 : tz_RoX cs f11 (B + 177) := hRoX.fr (fun q h1_ h2_ => (hq12 q (by omega)))
        have e9 : sp_copy σ (nI kq16) i (nI kq21) j n = tz_an σ (-100002) := by simp only [sp_copy, hpk16, hpk21]; rw [if_pos (Or.inl (hbkq16 ▸ h36))]
        rw [e9]
        exact ⟨rfl, ⟨R, o, mp, ml, nx, St, Sb, ⟨hs12, kp16, kp17, kp18, ⟨_, _, ⟨k13, k14⟩, htn⟩, ⟨_, _, k15⟩, kp19, kp20⟩, hag.fr (fun q h9 => (hq12 q (by omega))), hnx, hH.fr (fun q h9 => (hq12 q (by omega))), hQ⟩, (fun q hh => by rw [hq12 q (by omega)])⟩
      · skip
        replace h36 := tz_p0.mp h36
        refine tz_aload C_ 7 rfl td_X_copy_39 ?_
        refine tz_rV C_ tmi_Q_isMissing tw_420 tw_421 tw_419 (hShs.2 kq21 hkq21).1 rfl (As := []) (by exact (ct_Q_isMissing (b := (Sb kq21).1) (n := (Sb kq21).2.1) (g := (Sb kq21).2.2) ⟨(hShs.2 kq21 hkq21).1, (hShs.2 kq21 hkq21).2⟩)) rfl (rest := []) rfl (by decide) (Nat.le_of_ble_eq_true rfl) td_X_copy_41 (st1 := [.int (tz_p (((Sb kq21).1) = 0))]) rfl ?_
        refine tz_if_eq C_ td_X_copy_44 (fun h44 => ?_) (fun h44 => ?_)
        · skip
          replace h44 := tz_p0.mp h44
          refine tz_aload C_ 6 rfl td_X_copy_54 ?_
          refine tz_rV C_ tmi_Q_bits tw_438 tw_439 tw_437 (hShs.2 kq16 hkq16).1 rfl (As := []) (by exact (ct_Q_bits (b := (Sb kq16).1) (n := (Sb kq16).2.1) (g := (Sb kq16).2.2) ⟨(hShs.2 kq16 hkq16).1, (hShs.2 kq16 hkq16).2⟩)) rfl (rest := []) rfl (by decide) (Nat.le_of_ble_eq_true rfl) td_X_copy_56 (st1 := [.int ((Sb kq16).1)]) rfl ?_
          refine tz_aload C_ 7 rfl td_X_copy_59 ?_
          refine tz_rV C_ tmi_Q_bits tw_438 tw_439 tw_437 (hShs.2 kq21 hkq21).1 rfl (As := []) (by exact (ct_Q_bits (b := (Sb kq21).1) (n := (Sb kq21).2.1) (g := (Sb kq21).2.2) ⟨(hShs.2 kq21 hkq21).1, (hShs.2 kq21 hkq21).2⟩)) rfl (rest := [.int ((Sb kq16).1)]) rfl (by decide) (Nat.le_of_ble_eq_true rfl) td_X_copy_61 (st1 := [.int ((Sb kq21).1), .int ((Sb kq16).1)]) rfl ?_
          refine tz_icmp_eq C_ td_X_copy_64 (fun h64 => ?_) (fun h64 => ?_)
          · skip
            refine tz_aload C_ 6 rfl td_X_copy_74 ?_
            refine tz_rV C_ tmi_Q_length tw_412 tw_413 tw_411 (hShs.2 kq16 hkq16).1 rfl (As := []) (by exact (ct_Q_length (b := (Sb kq16).1) (n := (Sb kq16).2.1) (g := (Sb kq16).2.2) ⟨(hShs.2 kq16 hkq16).1, (hShs.2 kq16 hkq16).2⟩)) rfl (rest := []) rfl (by decide) (Nat.le_of_ble_eq_true rfl) td_X_copy_76 (st1 := [.int (nI ((Sb kq16).2.1))]) rfl ?_
            refine tz_iload_n C_ 2 rfl rfl td_X_copy_79 ?_
            refine tz_iload C_ 5 rfl td_X_copy_80 ?_
            refine tz_rS C_ tmi_X_holds tw_347 tw_346 (As := [.int (nI ((Sb kq16).2.1)), .int i, .int n]) (by exact ct_X_holds) rfl (rest := []) rfl (by decide) (Nat.le_of_ble_eq_true rfl) td_X_copy_82 (st1 := [.int (tz_p (tz_hld (nI ((Sb kq16).2.1)) i n))]) rfl ?_
            refine tz_if_eq C_ td_X_copy_85 (fun h85 => ?_) (fun h85 => ?_)
            · skip
              replace h85 := tz_p0.mp h85
              refine tz_aload_n C_ 0 rfl rfl td_X_copy_103 ?_
              refine tz_ldc C_ tw_273 td_X_copy_104 ?_
              refine tz_cV C_ tmi_X_answer tw_276 tw_0 tw_274 hB0 rfl (As := [.int (-100001)]) (by exact (ct_X_answer (v := -100001) hB0)) rfl (rest := []) rfl (by decide) (Nat.le_of_ble_eq_true rfl) td_X_copy_106 (st1 := [.int (-100001)]) rfl (fun f21 hF21 => ?_)
              obtain ⟨hs22, hq22⟩ := hF21
              refine tz_riret C_ hr_ hk_ hQ_ rfl td_X_copy_109 ?_
              have k23 : f21 (B + 166) = some (tz_obj 9 [.ref (B + 166 + 1), .int (nI tn)]) := ((hq22 _ (by omega)).trans hTu.1)
              have k24 : f21 (B + 166 + 1) = some (tz_ints cs 120 tg) := ((hq22 _ (by omega)).trans hTu.2)
              have k25 : f21 (B + 168) = some (tz_obj 0 [.int zA, .int (nI kA)]) := ((hq22 _ (by omega)).trans hAl)
              have kp26 : tz_Tape cs f21 (B + 1) R (tz_cur σ).2.1 o mp ml := hT.fr (fun q h1_ h2_ => (hq22 q (by omega)))
              have kp27 : tz_Hist cs f21 (B + 15) nx σ.2.1 St := hHi.fr (fun q h1_ h2_ => (hq22 q (by omega)))
              have kp28 : tz_Shs cs f21 (B + 157) Sb := hShs.fr (fun q h1_ h2_ => (hq22 q (by omega)))
              have kp29 : tz_PlX cs f21 (B + 169) := hPlX.fr (fun q h1_ h2_ => (hq22 q (by omega)))
              have kp30 : tz_RoX cs f21 (B + 177) := hRoX.fr (fun q h1_ h2_ => (hq22 q (by omega)))
              have e9 : sp_copy σ (nI kq16) i (nI kq21) j n = tz_an σ (-100001) := by simp only [sp_copy, hpk16, hpk21]; rw [if_neg (not_or.mpr ⟨hbkq16 ▸ h36, hbkq21 ▸ h44⟩), if_neg (fun z => z (hbkq16 ▸ hbkq21 ▸ h64)), if_neg (fun z => h85 (hnkq16 ▸ z.1))]
              rw [e9]
              exact ⟨rfl, ⟨R, o, mp, ml, nx, St, Sb, ⟨hs22, kp26, kp27, kp28, ⟨_, _, ⟨k23, k24⟩, htn⟩, ⟨_, _, k25⟩, kp29, kp30⟩, hag.fr (fun q h9 => (hq22 q (by omega))), hnx, hH.fr (fun q h9 => (hq22 q (by omega))), hQ⟩, (fun q hh => by rw [hq22 q (by omega)])⟩
            · skip
              replace h85 := tz_p1.mp h85
              refine tz_aload C_ 7 rfl td_X_copy_88 ?_
              refine tz_rV C_ tmi_Q_length tw_412 tw_413 tw_411 (hShs.2 kq21 hkq21).1 rfl (As := []) (by exact (ct_Q_length (b := (Sb kq21).1) (n := (Sb kq21).2.1) (g := (Sb kq21).2.2) ⟨(hShs.2 kq21 hkq21).1, (hShs.2 kq21 hkq21).2⟩)) rfl (rest := []) rfl (by decide) (Nat.le_of_ble_eq_true rfl) td_X_copy_90 (st1 := [.int (nI ((Sb kq21).2.1))]) rfl ?_
              refine tz_iload C_ 4 rfl td_X_copy_93 ?_
              refine tz_iload C_ 5 rfl td_X_copy_95 ?_
              refine tz_rS C_ tmi_X_holds tw_347 tw_346 (As := [.int (nI ((Sb kq21).2.1)), .int j, .int n]) (by exact ct_X_holds) rfl (rest := []) rfl (by decide) (Nat.le_of_ble_eq_true rfl) td_X_copy_97 (st1 := [.int (tz_p (tz_hld (nI ((Sb kq21).2.1)) j n))]) rfl ?_
              refine tz_if_ne C_ td_X_copy_100 (fun h100 => ?_) (fun h100 => ?_)
              · skip
                replace h100 := tz_p1.mp h100
                have h85q := h85
                have h100q := h100
                obtain ⟨i9, k9, ei9, ek9, hi9⟩ := tz_hld_N hSnkq16 h85
                subst ei9
                subst ek9
                obtain ⟨j9, k8, ej9, ek8, hj9⟩ := tz_hld_N hSnkq21 h100
                subst ej9
                have ek7 : k9 = k8 := (nI_eq (by omega) (by omega)).mp ek8
                subst ek7
                refine tz_aload C_ 7 rfl td_X_copy_110 ?_
                refine tz_aload C_ 6 rfl td_X_copy_112 ?_
                refine tz_iload_n C_ 2 rfl rfl td_X_copy_114 ?_
                refine tz_iload C_ 4 rfl td_X_copy_115 ?_
                refine tz_iload C_ 5 rfl td_X_copy_117 ?_
                refine tz_cV C_ tmi_Q_take tw_443 tw_444 tw_442 (hShs.2 kq21 hkq21).1 rfl (As := [.ref (B + 157 + 1 + 2 * kq16), .int (nI i9), .int (nI j9), .int (nI k9)]) (by exact (ct_Q_take (b := (Sb kq21).1) (n := (Sb kq21).2.1) (g := (Sb kq21).2.2) (b2 := (Sb kq16).1) (n2 := (Sb kq16).2.1) (g2 := (Sb kq16).2.2) (i := i9) (j := j9) (k := k9) ⟨(hShs.2 kq21 hkq21).1, (hShs.2 kq21 hkq21).2⟩ (by omega) ⟨(hShs.2 kq16 hkq16).1, (hShs.2 kq16 hkq16).2⟩ (by omega) (by omega) (by omega))) rfl (rest := []) rfl (by decide) (Nat.le_of_ble_eq_true rfl) td_X_copy_119 (st1 := []) rfl (fun f31 hF31 => ?_)
                obtain ⟨hP32, hq32⟩ := hF31
                refine tz_iload C_ 5 rfl td_X_copy_122 ?_
                refine tz_riret C_ hr_ hk_ hQ_ rfl td_X_copy_124 ?_
                have k33 : f31 (B + 166) = some (tz_obj 9 [.ref (B + 166 + 1), .int (nI tn)]) := ((hq32 _ (by omega)).trans hTu.1)
                have k34 : f31 (B + 166 + 1) = some (tz_ints cs 120 tg) := ((hq32 _ (by omega)).trans hTu.2)
                have k35 : f31 (B + 168) = some (tz_obj 0 [.int zA, .int (nI kA)]) := ((hq32 _ (by omega)).trans hAl)
                have k36 : f31 B = some (tz_obj 10 [.ref (B + 1), .ref (B + 15), .ref (B + 157), .ref (B + 166), .ref (B + 168), .ref (B + 169), .ref (B + 177), .int σ.2.2.2]) := ((hq32 _ (by omega)).trans hB0)
                have kp37 : tz_Tape cs f31 (B + 1) R (tz_cur σ).2.1 o mp ml := hT.fr (fun q h1_ h2_ => (hq32 q (by omega)))
                have kp38 : tz_Hist cs f31 (B + 15) nx σ.2.1 St := hHi.fr (fun q h1_ h2_ => (hq32 q (by omega)))
                have kp39 : tz_PlX cs f31 (B + 169) := hPlX.fr (fun q h1_ h2_ => (hq32 q (by omega)))
                have kp40 : tz_RoX cs f31 (B + 177) := hRoX.fr (fun q h1_ h2_ => (hq32 q (by omega)))
                have e9 : sp_copy σ (nI kq16) (nI i9) (nI kq21) (nI j9) (nI k9) = (nI k9, tz_ss σ kq21 (tz_sb σ kq21, tz_sn σ kq21, va_cpy (tz_sv σ kq16) (tz_sv σ kq21) i9 j9 k9)) := by simp only [sp_copy, hpk16, hpk21]; rw [if_neg (not_or.mpr ⟨hbkq16 ▸ h36, hbkq21 ▸ h44⟩), if_neg (fun z => z (hbkq16 ▸ hbkq21 ▸ h64)), if_pos ⟨hnkq16 ▸ h85q, hnkq21 ▸ h100q⟩, nI_clamp (by omega), nI_clamp (by omega), nI_clamp (by omega)]
                rw [e9]
                refine ⟨rfl, ⟨R, o, mp, ml, nx, St, _, ⟨k36, kp37, kp38, hShs.set (k := kq21) ⟨hP32.1, hP32.2⟩ (fun q hh => by rw [hq32 q (by omega)]), ⟨_, _, ⟨k33, k34⟩, htn⟩, ⟨_, _, k35⟩, kp39, kp40⟩, hag.fr (fun q h9 => (hq32 q (by omega))), hnx, hH.fr (fun q h9 => (hq32 q (by omega))), hQ.set ?_⟩, (fun q hh => by rw [hq32 q (by omega)])⟩
                rw [hbkq21, hnkq21]
                exact ⟨rfl, rfl, tz_cpy_cg hvkq16 hvkq21 (by omega)⟩
              · skip
                replace h100 := tz_p0.mp h100
                refine tz_aload_n C_ 0 rfl rfl td_X_copy_103 ?_
                refine tz_ldc C_ tw_273 td_X_copy_104 ?_
                refine tz_cV C_ tmi_X_answer tw_276 tw_0 tw_274 hB0 rfl (As := [.int (-100001)]) (by exact (ct_X_answer (v := -100001) hB0)) rfl (rest := []) rfl (by decide) (Nat.le_of_ble_eq_true rfl) td_X_copy_106 (st1 := [.int (-100001)]) rfl (fun f41 hF41 => ?_)
                obtain ⟨hs42, hq42⟩ := hF41
                refine tz_riret C_ hr_ hk_ hQ_ rfl td_X_copy_109 ?_
                have k43 : f41 (B + 166) = some (tz_obj 9 [.ref (B + 166 + 1), .int (nI tn)]) := ((hq42 _ (by omega)).trans hTu.1)
                have k44 : f41 (B + 166 + 1) = some (tz_ints cs 120 tg) := ((hq42 _ (by omega)).trans hTu.2)
                have k45 : f41 (B + 168) = some (tz_obj 0 [.int zA, .int (nI kA)]) := ((hq42 _ (by omega)).trans hAl)
                have kp46 : tz_Tape cs f41 (B + 1) R (tz_cur σ).2.1 o mp ml := hT.fr (fun q h1_ h2_ => (hq42 q (by omega)))
                have kp47 : tz_Hist cs f41 (B + 15) nx σ.2.1 St := hHi.fr (fun q h1_ h2_ => (hq42 q (by omega)))
                have kp48 : tz_Shs cs f41 (B + 157) Sb := hShs.fr (fun q h1_ h2_ => (hq42 q (by omega)))
                have kp49 : tz_PlX cs f41 (B + 169) := hPlX.fr (fun q h1_ h2_ => (hq42 q (by omega)))
                have kp50 : tz_RoX cs f41 (B + 177) := hRoX.fr (fun q h1_ h2_ => (hq42 q (by omega)))
                have e9 : sp_copy σ (nI kq16) i (nI kq21) j n = tz_an σ (-100001) := by simp only [sp_copy, hpk16, hpk21]; rw [if_neg (not_or.mpr ⟨hbkq16 ▸ h36, hbkq21 ▸ h44⟩), if_neg (fun z => z (hbkq16 ▸ hbkq21 ▸ h64)), if_neg (fun z => h100 (hnkq21 ▸ z.2))]
                rw [e9]
                exact ⟨rfl, ⟨R, o, mp, ml, nx, St, Sb, ⟨hs42, kp46, kp47, kp48, ⟨_, _, ⟨k43, k44⟩, htn⟩, ⟨_, _, k45⟩, kp49, kp50⟩, hag.fr (fun q h9 => (hq42 q (by omega))), hnx, hH.fr (fun q h9 => (hq42 q (by omega))), hQ⟩, (fun q hh => by rw [hq42 q (by omega)])⟩
          · skip
            refine tz_aload_n C_ 0 rfl rfl td_X_copy_67 ?_
            refine tz_ldc C_ tw_441 td_X_copy_68 ?_
            refine tz_cV C_ tmi_X_answer tw_276 tw_0 tw_274 hB0 rfl (As := [.int (-100004)]) (by exact (ct_X_answer (v := -100004) hB0)) rfl (rest := []) rfl (by decide) (Nat.le_of_ble_eq_true rfl) td_X_copy_70 (st1 := [.int (-100004)]) rfl (fun f51 hF51 => ?_)
            obtain ⟨hs52, hq52⟩ := hF51
            refine tz_riret C_ hr_ hk_ hQ_ rfl td_X_copy_73 ?_
            have k53 : f51 (B + 166) = some (tz_obj 9 [.ref (B + 166 + 1), .int (nI tn)]) := ((hq52 _ (by omega)).trans hTu.1)
            have k54 : f51 (B + 166 + 1) = some (tz_ints cs 120 tg) := ((hq52 _ (by omega)).trans hTu.2)
            have k55 : f51 (B + 168) = some (tz_obj 0 [.int zA, .int (nI kA)]) := ((hq52 _ (by omega)).trans hAl)
            have kp56 : tz_Tape cs f51 (B + 1) R (tz_cur σ).2.1 o mp ml := hT.fr (fun q h1_ h2_ => (hq52 q (by omega)))
            have kp57 : tz_Hist cs f51 (B + 15) nx σ.2.1 St := hHi.fr (fun q h1_ h2_ => (hq52 q (by omega)))
            have kp58 : tz_Shs cs f51 (B + 157) Sb := hShs.fr (fun q h1_ h2_ => (hq52 q (by omega)))
            have kp59 : tz_PlX cs f51 (B + 169) := hPlX.fr (fun q h1_ h2_ => (hq52 q (by omega)))
            have kp60 : tz_RoX cs f51 (B + 177) := hRoX.fr (fun q h1_ h2_ => (hq52 q (by omega)))
            have e9 : sp_copy σ (nI kq16) i (nI kq21) j n = tz_an σ (-100004) := by simp only [sp_copy, hpk16, hpk21]; rw [if_neg (not_or.mpr ⟨hbkq16 ▸ h36, hbkq21 ▸ h44⟩), if_pos (hbkq16 ▸ hbkq21 ▸ h64)]
            rw [e9]
            exact ⟨rfl, ⟨R, o, mp, ml, nx, St, Sb, ⟨hs52, kp56, kp57, kp58, ⟨_, _, ⟨k53, k54⟩, htn⟩, ⟨_, _, k55⟩, kp59, kp60⟩, hag.fr (fun q h9 => (hq52 q (by omega))), hnx, hH.fr (fun q h9 => (hq52 q (by omega))), hQ⟩, (fun q hh => by rw [hq52 q (by omega)])⟩
        · skip
          replace h44 := tz_p1.mp h44
          refine tz_aload_n C_ 0 rfl rfl td_X_copy_47 ?_
          refine tz_ldc C_ tw_423 td_X_copy_48 ?_
          refine tz_cV C_ tmi_X_answer tw_276 tw_0 tw_274 hB0 rfl (As := [.int (-100002)]) (by exact (ct_X_answer (v := -100002) hB0)) rfl (rest := []) rfl (by decide) (Nat.le_of_ble_eq_true rfl) td_X_copy_50 (st1 := [.int (-100002)]) rfl (fun f61 hF61 => ?_)
          obtain ⟨hs62, hq62⟩ := hF61
          refine tz_riret C_ hr_ hk_ hQ_ rfl td_X_copy_53 ?_
          have k63 : f61 (B + 166) = some (tz_obj 9 [.ref (B + 166 + 1), .int (nI tn)]) := ((hq62 _ (by omega)).trans hTu.1)
          have k64 : f61 (B + 166 + 1) = some (tz_ints cs 120 tg) := ((hq62 _ (by omega)).trans hTu.2)
          have k65 : f61 (B + 168) = some (tz_obj 0 [.int zA, .int (nI kA)]) := ((hq62 _ (by omega)).trans hAl)
          have kp66 : tz_Tape cs f61 (B + 1) R (tz_cur σ).2.1 o mp ml := hT.fr (fun q h1_ h2_ => (hq62 q (by omega)))
          have kp67 : tz_Hist cs f61 (B + 15) nx σ.2.1 St := hHi.fr (fun q h1_ h2_ => (hq62 q (by omega)))
          have kp68 : tz_Shs cs f61 (B + 157) Sb := hShs.fr (fun q h1_ h2_ => (hq62 q (by omega)))
          have kp69 : tz_PlX cs f61 (B + 169) := hPlX.fr (fun q h1_ h2_ => (hq62 q (by omega)))
          have kp70 : tz_RoX cs f61 (B + 177) := hRoX.fr (fun q h1_ h2_ => (hq62 q (by omega)))
          have e9 : sp_copy σ (nI kq16) i (nI kq21) j n = tz_an σ (-100002) := by simp only [sp_copy, hpk16, hpk21]; rw [if_pos (Or.inr (hbkq21 ▸ h44))]
          rw [e9]
          exact ⟨rfl, ⟨R, o, mp, ml, nx, St, Sb, ⟨hs62, kp66, kp67, kp68, ⟨_, _, ⟨k63, k64⟩, htn⟩, ⟨_, _, k65⟩, kp69, kp70⟩, hag.fr (fun q h9 => (hq62 q (by omega))), hnx, hH.fr (fun q h9 => (hq62 q (by omega))), hQ⟩, (fun q hh => by rw [hq62 q (by omega)])⟩
    · skip
      rw [h21]
      have hpk21 := tz_qpk_none h21
      refine tz_aload_n C_ 0 rfl rfl td_X_copy_24 ?_
      refine tz_ldc C_ tw_273 td_X_copy_25 ?_
      refine tz_cV C_ tmi_X_answer tw_276 tw_0 tw_274 hB0 rfl (As := [.int (-100001)]) (by exact (ct_X_answer (v := -100001) hB0)) rfl (rest := []) rfl (by decide) (Nat.le_of_ble_eq_true rfl) td_X_copy_27 (st1 := [.int (-100001)]) rfl (fun f71 hF71 => ?_)
      obtain ⟨hs72, hq72⟩ := hF71
      refine tz_riret C_ hr_ hk_ hQ_ rfl td_X_copy_30 ?_
      have k73 : f71 (B + 166) = some (tz_obj 9 [.ref (B + 166 + 1), .int (nI tn)]) := ((hq72 _ (by omega)).trans hTu.1)
      have k74 : f71 (B + 166 + 1) = some (tz_ints cs 120 tg) := ((hq72 _ (by omega)).trans hTu.2)
      have k75 : f71 (B + 168) = some (tz_obj 0 [.int zA, .int (nI kA)]) := ((hq72 _ (by omega)).trans hAl)
      have kp76 : tz_Tape cs f71 (B + 1) R (tz_cur σ).2.1 o mp ml := hT.fr (fun q h1_ h2_ => (hq72 q (by omega)))
      have kp77 : tz_Hist cs f71 (B + 15) nx σ.2.1 St := hHi.fr (fun q h1_ h2_ => (hq72 q (by omega)))
      have kp78 : tz_Shs cs f71 (B + 157) Sb := hShs.fr (fun q h1_ h2_ => (hq72 q (by omega)))
      have kp79 : tz_PlX cs f71 (B + 169) := hPlX.fr (fun q h1_ h2_ => (hq72 q (by omega)))
      have kp80 : tz_RoX cs f71 (B + 177) := hRoX.fr (fun q h1_ h2_ => (hq72 q (by omega)))
      have e9 : sp_copy σ (nI kq16) i t j n = tz_an σ (-100001) := by simp only [sp_copy, hpk16, hpk21]
      rw [e9]
      exact ⟨rfl, ⟨R, o, mp, ml, nx, St, Sb, ⟨hs72, kp76, kp77, kp78, ⟨_, _, ⟨k73, k74⟩, htn⟩, ⟨_, _, k75⟩, kp79, kp80⟩, hag.fr (fun q h9 => (hq72 q (by omega))), hnx, hH.fr (fun q h9 => (hq72 q (by omega))), hQ⟩, (fun q hh => by rw [hq72 q (by omega)])⟩
