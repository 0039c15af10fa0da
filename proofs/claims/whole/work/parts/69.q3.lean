
theorem lw_cmp {L t : Nat} (hL : L ≤ 3072) (ht : 6 * t ≤ L) : nI L - 6 < nI (6 * t) ↔ ¬ 6 * t + 6 ≤ L := by
  have e1 : (nI L - 6).toInt = (L : Int) - 6 := tz_tS (nI_toInt (by omega)) (b := 6) rfl (by omega)
  rw [Int32.lt_iff_toInt_lt, e1, nI_toInt (by omega)]
  omega
set_option maxHeartbeats 4000000 in
set_option maxRecDepth 100000 in
theorem lw_loop {p : Program} {l : Launch} {e : Env} {s : State} {m : MethodId} {below : List Frame} {meth : Method} {c : Code} {A : Nat → Prop} {D : va_G} {cs : Nat → ClassId} {b L B : Nat} {xs : Nat → Int32} (C_ : tz_Cx p s m #[Value.ref b] c A D cs "TapeBenchLaw" code 4) (hr : meth.sig.returnType = ret) (hlocks : meth.locks = false) (hXs : va_X b L xs s s.heap) (hbl : b < s.heap.size) (hbA : ¬ A b) (hA : ∀ q, B ≤ q → A q) (hAf : ∀ q, A q → s.heap.size ≤ q) (hL : L ≤ 3072) : ∀ (k t sz : Nat) (f : tz_PH) (σ : tz_SG), lw_I cs f B σ → B + 188 ≤ sz → 6 * t ≤ L → L - 6 * t < k → tz_V p l e room_1 s m #[Value.ref b] below meth c (lw_Z below #[Value.ref b] s) A D 4 f sz (188 + t) (16677 + 4 * t) 18 [(0, .ref b), (1, .ref B), (2, .ref (B + 179)), (3, .int (nI (6 * t)))] [] := by
  intro k
  induction k with
  | zero => intro t sz f σ _ _ _ h; omega
  | succ k ih =>
    intro t sz f σ hI hsz ht hm
    refine tz_iload_n C_ 3 rfl rfl td_W_law_18 ?_
    refine tz_aload_n C_ 0 rfl rfl td_W_law_19 ?_
    refine tz_slen C_ hXs hbl hbA td_W_law_20 ?_
    refine tz_bipush C_ (v := 6) (by decide) td_W_law_21 ?_
    refine tz_isub C_ td_W_law_23 ?_
    refine tz_icmp_gt C_ td_W_law_24 (fun h => ?_) (fun h => ?_)
    · refine tz_iconst C_ (v := 1) (by decide) td_W_law_1250 ?_
      intro H locs ls hz hP hS hl9
      obtain ⟨hx, hb, hml, hown, hts, hE⟩ := id C_
      refine va_forget (fun q hq => hAf _ (hS.2.2 q hq)) ?_
      refine W.widen (k := 600000) (n := 7302249) (by omega) (by omega) ?_
      exact lw_ret hx hb hr hlocks td_W_law_1251.1
    have h6 : 6 * t + 6 ≤ L := Classical.not_not.mp (fun z => h ((lw_cmp hL ht).mpr z))
    refine tz_aload_n C_ 0 rfl rfl td_W_law_27 ?_
    refine tz_iload_n C_ 3 rfl rfl td_W_law_28 ?_
    refine tz_sld C_ hXs hbl hbA (k := 6 * t) (by omega) (by omega) td_W_law_29 ?_
    refine tz_bipush C_ (v := 31) (by decide) td_W_law_30 ?_
    refine tz_iand C_ td_W_law_32 ?_
    have kk : ∀ (f' : tz_PH) (σ' : tz_SG) (sz' : Nat), lw_I cs f' B σ' → B + 188 ≤ sz' → tz_V p l e room_1 s m #[Value.ref b] below meth c (lw_Z below #[Value.ref b] s) A D 4 f' sz' (188 + t + 1) (16677 + 4 * t + 4) 1244 [(0, .ref b), (1, .ref B), (2, .ref (B + 179)), (3, .int (nI (6 * t)))] [] := by
      intro f' σ' sz' hI' hsz'
      refine tz_iinc C_ (k := 6) (v := nI (6 * (t + 1))) (lv' := [(0, .ref b), (1, .ref B), (2, .ref (B + 179)), (3, .int (nI (6 * (t + 1))))]) 3 rfl (by show nI (6 * t) + nI 6 = _; rw [nI_add]; exact congrArg nI (by omega)) [1, 2, 3, 0] (by decide) rfl td_W_law_1244 ?_
      refine tz_goto C_ td_W_law_1247 ?_
      exact ih (t + 1) sz' f' σ' hI' hsz' (by omega) (by omega)
    by_cases h0 : xs (6 * t) &&& 31 = 0
    · exact tz_tableIn C_ td_W_law_33 (off := 131) (tgt := 164) (by rw [h0]; decide) (by decide) (lw_c_pass C_ hXs hbl hbA hA (by omega) hL hI hsz (by omega) (by omega) kk)
    by_cases h1 : xs (6 * t) &&& 31 = 1
    · exact tz_tableIn C_ td_W_law_33 (off := 164) (tgt := 197) (by rw [h1]; decide) (by decide) (lw_c_put C_ hXs hbl hbA hA (by omega) hL hI hsz (by omega) (by omega) kk)
    by_cases h2 : xs (6 * t) &&& 31 = 2
    · exact tz_tableIn C_ td_W_law_33 (off := 207) (tgt := 240) (by rw [h2]; decide) (by decide) (lw_c_lose C_ hXs hbl hbA hA (by omega) hL hI hsz (by omega) (by omega) kk)
    by_cases h3 : xs (6 * t) &&& 31 = 3
    · exact tz_tableIn C_ td_W_law_33 (off := 250) (tgt := 283) (by rw [h3]; decide) (by decide) (lw_c_sample C_ hXs hbl hbA hA (by omega) hL hI hsz (by omega) (by omega) kk)
    by_cases h4 : xs (6 * t) &&& 31 = 4
    · exact tz_tableIn C_ td_W_law_33 (off := 283) (tgt := 316) (by rw [h4]; decide) (by decide) (lw_c_about C_ hXs hbl hbA hA (by omega) hL hI hsz (by omega) (by omega) kk)
    by_cases h5 : xs (6 * t) &&& 31 = 5
    · exact tz_tableIn C_ td_W_law_33 (off := 316) (tgt := 349) (by rw [h5]; decide) (by decide) (lw_c_turn C_ hXs hbl hbA hA (by omega) hL hI hsz (by omega) (by omega) kk)
    by_cases h6 : xs (6 * t) &&& 31 = 6
    · exact tz_tableIn C_ td_W_law_33 (off := 349) (tgt := 382) (by rw [h6]; decide) (by decide) (lw_c_sheet C_ hXs hbl hbA hA (by omega) hL hI hsz (by omega) (by omega) kk)
    by_cases h7 : xs (6 * t) &&& 31 = 7
    · exact tz_tableIn C_ td_W_law_33 (off := 392) (tgt := 425) (by rw [h7]; decide) (by decide) (lw_c_write C_ hXs hbl hbA hA (by omega) hL hI hsz (by omega) (by omega) kk)
    by_cases h8 : xs (6 * t) &&& 31 = 8
    · exact tz_tableIn C_ td_W_law_33 (off := 435) (tgt := 468) (by rw [h8]; decide) (by decide) (lw_c_copy C_ hXs hbl hbA hA (by omega) hL hI hsz (by omega) (by omega) kk)
    by_cases h9 : xs (6 * t) &&& 31 = 9
    · exact tz_tableIn C_ td_W_law_33 (off := 498) (tgt := 531) (by rw [h9]; decide) (by decide) (lw_c_lay C_ hXs hbl hbA hA (by omega) hL hI hsz (by omega) (by omega) kk)
    by_cases h10 : xs (6 * t) &&& 31 = 10
    · exact tz_tableIn C_ td_W_law_33 (off := 531) (tgt := 564) (by rw [h10]; decide) (by decide) (lw_c_layer C_ hXs hbl hbA hA (by omega) hL hI hsz (by omega) (by omega) kk)
    by_cases h11 : xs (6 * t) &&& 31 = 11
    · exact tz_tableIn C_ td_W_law_33 (off := 574) (tgt := 607) (by rw [h11]; decide) (by decide) (lw_c_turnOn C_ hXs hbl hbA hA (by omega) hL hI hsz (by omega) (by omega) kk)
    by_cases h12 : xs (6 * t) &&& 31 = 12
    · exact tz_tableIn C_ td_W_law_33 (off := 623) (tgt := 656) (by rw [h12]; decide) (by decide) (lw_c_move C_ hXs hbl hbA hA (by omega) hL hI hsz (by omega) (by omega) kk)
    by_cases h13 : xs (6 * t) &&& 31 = 13
    · exact tz_tableIn C_ td_W_law_33 (off := 656) (tgt := 689) (by rw [h13]; decide) (by decide) (lw_c_drop C_ hXs hbl hbA hA (by omega) hL hI hsz (by omega) (by omega) kk)
    by_cases h14 : xs (6 * t) &&& 31 = 14
    · exact tz_tableIn C_ td_W_law_33 (off := 679) (tgt := 712) (by rw [h14]; decide) (by decide) (lw_c_told C_ hXs hbl hbA hA (by omega) hL hI hsz (by omega) (by omega) kk)
    by_cases h15 : xs (6 * t) &&& 31 = 15
    · exact tz_tableIn C_ td_W_law_33 (off := 712) (tgt := 745) (by rw [h15]; decide) (by decide) (lw_c_as C_ hXs hbl hbA hA (by omega) hL hI hsz (by omega) (by omega) kk)
    by_cases h16 : xs (6 * t) &&& 31 = 16
    · exact tz_tableIn C_ td_W_law_33 (off := 745) (tgt := 778) (by rw [h16]; decide) (by decide) (lw_c_size C_ hXs hbl hbA hA (by omega) hL hI hsz (by omega) (by omega) kk)
    by_cases h17 : xs (6 * t) &&& 31 = 17
    · exact tz_tableIn C_ td_W_law_33 (off := 768) (tgt := 801) (by rw [h17]; decide) (by decide) (lw_c_out C_ hXs hbl hbA hA (by omega) hL hI hsz (by omega) (by omega) kk)
    by_cases h18 : xs (6 * t) &&& 31 = 18
    · exact tz_tableIn C_ td_W_law_33 (off := 801) (tgt := 834) (by rw [h18]; decide) (by decide) (lw_c_heard C_ hXs hbl hbA hA (by omega) hL hI hsz (by omega) (by omega) kk)
    by_cases h19 : xs (6 * t) &&& 31 = 19
    · exact tz_tableIn C_ td_W_law_33 (off := 834) (tgt := 867) (by rw [h19]; decide) (by decide) (lw_c_power C_ hXs hbl hbA hA (by omega) hL hI hsz (by omega) (by omega) kk)
    by_cases h20 : xs (6 * t) &&& 31 = 20
    · exact tz_tableIn C_ td_W_law_33 (off := 858) (tgt := 891) (by rw [h20]; decide) (by decide) (lw_c_bake C_ hXs hbl hbA hA (by omega) hL hI hsz (by omega) (by omega) kk)
    by_cases h21 : xs (6 * t) &&& 31 = 21
    · exact tz_tableIn C_ td_W_law_33 (off := 891) (tgt := 924) (by rw [h21]; decide) (by decide) (lw_c_align C_ hXs hbl hbA hA (by omega) hL hI hsz (by omega) (by omega) kk)
    by_cases h22 : xs (6 * t) &&& 31 = 22
    · exact tz_tableIn C_ td_W_law_33 (off := 934) (tgt := 967) (by rw [h22]; decide) (by decide) (lw_c_differ C_ hXs hbl hbA hA (by omega) hL hI hsz (by omega) (by omega) kk)
    by_cases h23 : xs (6 * t) &&& 31 = 23
    · exact tz_tableIn C_ td_W_law_33 (off := 1003) (tgt := 1036) (by rw [h23]; decide) (by decide) (lw_c_seam C_ hXs hbl hbA hA (by omega) hL hI hsz (by omega) (by omega) kk)
    by_cases h24 : xs (6 * t) &&& 31 = 24
    · exact tz_tableIn C_ td_W_law_33 (off := 1056) (tgt := 1089) (by rw [h24]; decide) (by decide) (lw_c_join C_ hXs hbl hbA hA (by omega) hL hI hsz (by omega) (by omega) kk)
    by_cases h25 : xs (6 * t) &&& 31 = 25
    · exact tz_tableIn C_ td_W_law_33 (off := 1109) (tgt := 1142) (by rw [h25]; decide) (by decide) (lw_c_mark C_ hXs hbl hbA hA (by omega) hL hI hsz (by omega) (by omega) kk)
    by_cases h26 : xs (6 * t) &&& 31 = 26
    · exact tz_tableIn C_ td_W_law_33 (off := 1152) (tgt := 1185) (by rw [h26]; decide) (by decide) (lw_c_moment C_ hXs hbl hbA hA (by omega) hL hI hsz (by omega) (by omega) kk)
    by_cases h27 : xs (6 * t) &&& 31 = 27
    · exact tz_tableIn C_ td_W_law_33 (off := 1175) (tgt := 1208) (by rw [h27]; decide) (by decide) (lw_c_undo C_ hXs hbl hbA hA (by omega) hL hI hsz (by omega) (by omega) kk)
    by_cases h28 : xs (6 * t) &&& 31 = 28
    · exact tz_tableIn C_ td_W_law_33 (off := 1188) (tgt := 1221) (by rw [h28]; decide) (by decide) (lw_c_count C_ hXs hbl hbA hA (by omega) hL hI hsz (by omega) (by omega) kk)
    refine tz_tableOut C_ td_W_law_33 (tgt := 1244) (by decide) ?_ (tz_widen (by omega) (by omega) (kk f σ sz hI hsz))
    have n0 := lv_neT h0 (show (0 : Int32).toInt = 0 by decide)
    have n1 := lv_neT h1 (show (1 : Int32).toInt = 1 by decide)
    have n2 := lv_neT h2 (show (2 : Int32).toInt = 2 by decide)
    have n3 := lv_neT h3 (show (3 : Int32).toInt = 3 by decide)
    have n4 := lv_neT h4 (show (4 : Int32).toInt = 4 by decide)
    have n5 := lv_neT h5 (show (5 : Int32).toInt = 5 by decide)
    have n6 := lv_neT h6 (show (6 : Int32).toInt = 6 by decide)
    have n7 := lv_neT h7 (show (7 : Int32).toInt = 7 by decide)
    have n8 := lv_neT h8 (show (8 : Int32).toInt = 8 by decide)
    have n9 := lv_neT h9 (show (9 : Int32).toInt = 9 by decide)
    have n10 := lv_neT h10 (show (10 : Int32).toInt = 10 by decide)
    have n11 := lv_neT h11 (show (11 : Int32).toInt = 11 by decide)
    have n12 := lv_neT h12 (show (12 : Int32).toInt = 12 by decide)
    have n13 := lv_neT h13 (show (13 : Int32).toInt = 13 by decide)
    have n14 := lv_neT h14 (show (14 : Int32).toInt = 14 by decide)
    have n15 := lv_neT h15 (show (15 : Int32).toInt = 15 by decide)
    have n16 := lv_neT h16 (show (16 : Int32).toInt = 16 by decide)
    have n17 := lv_neT h17 (show (17 : Int32).toInt = 17 by decide)
    have n18 := lv_neT h18 (show (18 : Int32).toInt = 18 by decide)
    have n19 := lv_neT h19 (show (19 : Int32).toInt = 19 by decide)
    have n20 := lv_neT h20 (show (20 : Int32).toInt = 20 by decide)
    have n21 := lv_neT h21 (show (21 : Int32).toInt = 21 by decide)
    have n22 := lv_neT h22 (show (22 : Int32).toInt = 22 by decide)
    have n23 := lv_neT h23 (show (23 : Int32).toInt = 23 by decide)
    have n24 := lv_neT h24 (show (24 : Int32).toInt = 24 by decide)
    have n25 := lv_neT h25 (show (25 : Int32).toInt = 25 by decide)
    have n26 := lv_neT h26 (show (26 : Int32).toInt = 26 by decide)
    have n27 := lv_neT h27 (show (27 : Int32).toInt = 27 by decide)
    have n28 := lv_neT h28 (show (28 : Int32).toInt = 28 by decide)
    omega

set_option maxHeartbeats 4000000 in
set_option maxRecDepth 100000 in
theorem lw_begin {p : Program} {l : Launch} {e : Env} {s : State} {m : MethodId} {below : List Frame} {meth : Method} {c : Code} {A : Nat → Prop} {D : va_G} {cs : Nat → ClassId} {b L B : Nat} {xs : Nat → Int32} {f : tz_PH} (C_ : tz_Cx p s m #[Value.ref b] c A D cs "TapeBenchLaw" code 4) (hr : meth.sig.returnType = ret) (hlocks : meth.locks = false) (hXs : va_X b L xs s s.heap) (hbl : b < s.heap.size) (hbA : ¬ A b) (hA : ∀ q, B ≤ q → A q) (hAf : ∀ q, A q → s.heap.size ≤ q) (hL : L ≤ 3072) : tz_V p l e room_1 s m #[Value.ref b] below meth c (lw_Z below #[Value.ref b] s) A D 4 f B 0 0 0 [(0, .ref b)] [] := by
  refine tz_wnew C_ tci_X tw_57 tw_58 tw_42 (hA _ (by omega)) (fs := [.null, .null, .null, .null, .null, .null, .null, .int 0]) (fun j hj => by rcases (show j = 0 ∨ j = 1 ∨ j = 2 ∨ j = 3 ∨ j = 4 ∨ j = 5 ∨ j = 6 ∨ j = 7 by omega) with rfl | rfl | rfl | rfl | rfl | rfl | rfl | rfl <;> rfl) (by decide) td_W_law_0 (sz' := B + 1) (cells' := 1) (slots' := 8) ⟨rfl, rfl, rfl⟩ (fun f1 hs1 hq1 => ?_)
  refine tz_dup C_ rfl td_W_law_3 ?_
  refine tz_cI C_ tmi_X_init rfl tw_60 tw_59 (As := []) (by exact (ct_X_init (a := B) rfl hs1 (fun q hq => hA q (by omega)))) rfl (rest := [.ref B]) rfl (by decide) (Nat.le_of_ble_eq_true rfl) td_W_law_4 (sz' := B + 179) (cells' := 179) (slots' := 4644) ⟨rfl, rfl, rfl⟩ (fun f2 hF2 => ?_)
  obtain ⟨hPx, hqx⟩ := hF2
  refine tz_astore_n C_ (lv' := [(0, .ref b), (1, .ref B)]) [1, 0] rfl (by decide) rfl td_W_law_7 ?_
  refine tz_wnew C_ tci_M tw_747 tw_748 tw_53 (hA _ (by omega)) (fs := [.null, .null, .int 0, .int 0, .null, .null, .null, .int 0, .null, .int 0, .null, .null, .int 0]) (fun j hj => by rcases (show j = 0 ∨ j = 1 ∨ j = 2 ∨ j = 3 ∨ j = 4 ∨ j = 5 ∨ j = 6 ∨ j = 7 ∨ j = 8 ∨ j = 9 ∨ j = 10 ∨ j = 11 ∨ j = 12 by omega) with rfl | rfl | rfl | rfl | rfl | rfl | rfl | rfl | rfl | rfl | rfl | rfl | rfl <;> rfl) (by decide) td_W_law_8 (sz' := B + 180) (cells' := 180) (slots' := 4657) ⟨rfl, rfl, rfl⟩ (fun f3 hs3 hq3 => ?_)
  refine tz_dup C_ rfl td_W_law_11 ?_
  refine tz_cI C_ tmi_M_init rfl tw_750 tw_749 (As := []) (by exact (ct_M_init (M := B + 179) rfl hs3 (fun q hq => hA q (by omega)))) rfl (rest := [.ref (B + 179)]) rfl (by decide) (Nat.le_of_ble_eq_true rfl) td_W_law_12 (sz' := B + 188) (cells' := 188) (slots' := 16677) ⟨rfl, rfl, rfl⟩ (fun f4 hF4 => ?_)
  obtain ⟨hPm, hqm⟩ := hF4
  refine tz_astore_n C_ (lv' := [(0, .ref b), (1, .ref B), (2, .ref (B + 179))]) [1, 2, 0] rfl (by decide) rfl td_W_law_15 ?_
  refine tz_iconst C_ (v := 0) (by decide) td_W_law_16 ?_
  refine tz_istore_n C_ (lv' := [(0, .ref b), (1, .ref B), (2, .ref (B + 179)), (3, .int 0)]) [1, 2, 3, 0] rfl (by decide) rfl td_W_law_17 ?_
  exact lw_loop C_ hr hlocks hXs hbl hbA hA hAf hL _ 0 (B + 188) f4 tz_s0 ⟨(tz_AX_0 hPx).fr (fun q a1 => ((hqm q (by omega)).trans (hq3 q (by omega)))), hPm, tz_WF_0⟩ (Nat.le_refl _) (Nat.zero_le _) (Nat.lt_succ_self _)
