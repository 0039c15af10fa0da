abbrev rm_X_init : Room := { frames := 4, cells := 178, slots := 4636, locals := 73 }
set_option maxHeartbeats 4000000 in
set_option maxRecDepth 100000 in
theorem ct_X_init {l : Launch} {A : Nat → Prop} {D : va_G} {cs : Nat → ClassId} {sz : Nat} {f : tz_PH} {a : Nat} (hz0 : sz = a + 1) (h0 : f a = some (tz_obj 10 [.null, .null, .null, .null, .null, .null, .null, .int 0])) (hA : ∀ q, sz ≤ q → A q) : tz_CN l tyX_init prog_1_method_1_code 2 (none) rm_X_init 178 4636 A D cs sz [.ref a] f (none) (fun f' => tz_XB cs f' a (fun _ => (0, (fun _ => 0))) 0 (fun _ => none) (fun _ => 0) (tz_fl (fun _ => -1) (fun _ => 0) 6) 0 0 (fun _ => ((-1 : Int32), 0, (fun _ => 0), 0, (fun _ => none), (fun _ => 0), (fun _ => 0))) (fun _ => ((0 : Int32), 0, (fun _ => 0))) 0 ∧ ∀ q, (q < a ∨ a + 179 ≤ q) → f' q = f q) := by
  refine tz_C.ofB (lv0 := [(0, .ref a)]) (plainFor_of_name (by decide)) (Nat.le_of_ble_eq_true rfl) rfl ?_
  intro p_ e_ s_ m_ ar_ be_ me_ c_ Q_ C_ hr_ hk_ hnm_ hz_ hQ_
  subst hz0
  refine tz_aload_n C_ 0 rfl rfl td_X_init_0 ?_
  refine tz_objInit C_ tw_62 tw_63 tw_64 (by decide) td_X_init_1 ?_
  refine tz_aload_n C_ 0 rfl rfl td_X_init_4 ?_
  refine tz_wnew C_ tci_T tw_65 tw_66 tw_43 (hA _ (by omega)) (fs := [.null, .null, .null, .null]) (fun j hj => by rcases (show j = 0 ∨ j = 1 ∨ j = 2 ∨ j = 3 by omega) with rfl | rfl | rfl | rfl <;> rfl) (by decide) td_X_init_5 (sz' := a + 2) (cells' := 1) (slots' := 4) ⟨rfl, rfl, rfl⟩ (fun f1 hs1 hq1 => ?_)
  refine tz_dup C_ rfl td_X_init_8 ?_
  refine tz_cI C_ tmi_T_init rfl tw_68 tw_67 (As := []) (by exact (ct_T_init (a := a + 1) rfl hs1 (fun q hq => hA q (by omega)))) rfl (rest := [.ref (a + 1), .ref a]) rfl (by decide) (Nat.le_of_ble_eq_true rfl) td_X_init_9 (sz' := a + 15) (cells' := 14) (slots' := 518) ⟨rfl, rfl, rfl⟩ (fun f2 hF2 => ?_)
  obtain ⟨hP3, hq3⟩ := hF2
  have k4 : f2 a = some (tz_obj 10 [.null, .null, .null, .null, .null, .null, .null, .int 0]) := ((hq3 _ (by omega)).trans ((hq1 _ (by omega)).trans h0))
  refine tz_wputF C_ hnm_ tci_X 0 (by decide) tw_240 ⟨rfl, rfl⟩ k4 (Nat.le_of_ble_eq_true rfl) ⟨rfl, rfl⟩ (fs' := [.ref (a + 1), .null, .null, .null, .null, .null, .null, .int 0]) rfl td_X_init_12 (fun f5 hs5 hq5 => ?_)
  refine tz_aload_n C_ 0 rfl rfl td_X_init_15 ?_
  refine tz_wnew C_ tci_H tw_124 tw_125 tw_47 (hA _ (by omega)) (fs := [.null, .int 0, .int 0]) (fun j hj => by rcases (show j = 0 ∨ j = 1 ∨ j = 2 by omega) with rfl | rfl | rfl <;> rfl) (by decide) td_X_init_16 (sz' := a + 16) (cells' := 15) (slots' := 521) ⟨rfl, rfl, rfl⟩ (fun f6 hs6 hq6 => ?_)
  refine tz_dup C_ rfl td_X_init_19 ?_
  refine tz_cI C_ tmi_H_init rfl tw_127 tw_126 (As := []) (by exact (ct_H_init (a := a + 15) rfl hs6 (fun q hq => hA q (by omega)))) rfl (rest := [.ref (a + 15), .ref a]) rfl (by decide) (Nat.le_of_ble_eq_true rfl) td_X_init_20 (sz' := a + 157) (cells' := 156) (slots' := 3521) ⟨rfl, rfl, rfl⟩ (fun f7 hF7 => ?_)
  obtain ⟨hP8, hq8⟩ := hF7
  have k9 : f7 a = some (tz_obj 10 [.ref (a + 1), .null, .null, .null, .null, .null, .null, .int 0]) := ((hq8 _ (by omega)).trans ((hq6 _ (by omega)).trans hs5))
  refine tz_wputF C_ hnm_ tci_X 1 (by decide) tw_241 ⟨rfl, rfl⟩ k9 (Nat.le_of_ble_eq_true rfl) ⟨rfl, rfl⟩ (fs' := [.ref (a + 1), .ref (a + 15), .null, .null, .null, .null, .null, .int 0]) rfl td_X_init_23 (fun f10 hs10 hq10 => ?_)
  refine tz_aload_n C_ 0 rfl rfl td_X_init_26 ?_
  refine tz_iconst C_ (v := 4) (by decide) td_X_init_27 ?_
  refine tz_wnewR C_ (t := 3) rfl tw_167 tw_168 (hA _ (by omega)) (nA := 4) (by decide) (by decide) td_X_init_28 (sz' := a + 158) (cells' := 157) (slots' := 3525) ⟨rfl, rfl, rfl⟩ (fun f11 hs11 hq11 => ?_)
  have k12 : f11 a = some (tz_obj 10 [.ref (a + 1), .ref (a + 15), .null, .null, .null, .null, .null, .int 0]) := ((hq11 _ (by omega)).trans hs10)
  refine tz_wputF C_ hnm_ tci_X 2 (by decide) tw_242 ⟨rfl, rfl⟩ k12 (Nat.le_of_ble_eq_true rfl) ⟨rfl, rfl⟩ (fs' := [.ref (a + 1), .ref (a + 15), .ref (a + 157), .null, .null, .null, .null, .int 0]) rfl td_X_init_31 (fun f13 hs13 hq13 => ?_)
  refine tz_iconst C_ (v := 0) (by decide) td_X_init_34 ?_
  refine tz_istore_n C_ (lv' := [(0, .ref a), (1, .int 0)]) [1, 0] rfl (by decide) rfl td_X_init_35 ?_
  have k14 : f13 (a + 157) = some (tz_refs cs 3 4 (fun _ => none)) := ((hq13 _ (by omega)).trans hs11)
  have kp15 : tz_Tape cs f13 (a + 1) (fun _ => (0, (fun _ => 0))) 0 (fun _ => none) (fun _ => 0) (tz_fl (fun _ => -1) (fun _ => 0) 6) := hP3.fr (fun q h1_ h2_ => ((hq13 q (by omega)).trans ((hq11 q (by omega)).trans ((hq10 q (by omega)).trans ((hq8 q (by omega)).trans ((hq6 q (by omega)).trans (hq5 q (by omega))))))))
  have kp16 : tz_Hist cs f13 (a + 15) 0 0 (fun _ => ((-1 : Int32), 0, (fun _ => 0), 0, (fun _ => none), (fun _ => 0), (fun _ => 0))) := hP8.fr (fun q h1_ h2_ => ((hq13 q (by omega)).trans ((hq11 q (by omega)).trans (hq10 q (by omega)))))
  have loop36 : ∀ (kk36 : Nat) (i : Nat) (fL : tz_PH), (fL (a + 157) = some (tz_refs cs 3 4 (tz_upto (tz_sha (a + 157)) i))) → (∀ p, p < i → tz_Sh cs fL (a + 158 + 2 * p) 0 0 (fun _ => 0)) → (∀ q, (q < a ∨ a + 179 ≤ q) → fL q = f q) → (i ≤ 4) → (fL a = some (tz_obj 10 [.ref (a + 1), .ref (a + 15), .ref (a + 157), .null, .null, .null, .null, .int 0])) → (tz_Tape cs fL (a + 1) (fun _ => (0, (fun _ => 0))) 0 (fun _ => none) (fun _ => 0) (tz_fl (fun _ => -1) (fun _ => 0) 6)) → (tz_Hist cs fL (a + 15) 0 0 (fun _ => ((-1 : Int32), 0, (fun _ => 0), 0, (fun _ => none), (fun _ => 0), (fun _ => 0)))) → (4 - i) < kk36 → tz_V p_ l e_ rm_X_init s_ m_ ar_ be_ me_ c_ Q_ A D 2 fL (a + 158 + 2 * i) (157 + 2 * i) (3525 + 123 * i) 36 [(0, .ref a), (1, .int (nI i))] [] := by
    intro kk36
    induction kk36 with
    | zero => intro i fL hU hrows hfr hi hT0 hT1 hT2 hm36; omega
    | succ kk36 ih36 =>
      intro i fL hU hrows hfr hi hT0 hT1 hT2 hm36
      refine tz_iload_n C_ 1 rfl rfl td_X_init_36 ?_
      refine tz_iconst C_ (v := 4) (by decide) td_X_init_37 ?_
      refine tz_icmp_ge C_ td_X_init_38 (fun h38 => ?_) (fun h38 => ?_)
      · skip
        replace h38 := (nI_leI (a := 4) (b := i) (by omega) (by omega)).mp h38
        have e9 : i = 4 := by omega
        subst e9
        refine tz_same hU (tz_ref_ext (g' := tz_sha (a + 157)) (tz_upto_n (by omega))) (fun fS hsS hqS => ?_)
        refine tz_aload_n C_ 0 rfl rfl td_X_init_60 ?_
        refine tz_wnew C_ tci_U tw_184 tw_185 tw_50 (hA _ (by omega)) (fs := [.null, .int 0]) (fun j hj => by rcases (show j = 0 ∨ j = 1 by omega) with rfl | rfl <;> rfl) (by decide) td_X_init_61 (sz' := a + 167) (cells' := 166) (slots' := 4019) ⟨rfl, rfl, rfl⟩ (fun f17 hs17 hq17 => ?_)
        refine tz_dup C_ rfl td_X_init_64 ?_
        refine tz_cIN C_ tmi_U_init rfl tw_187 tw_186 (As := []) (by exact (ct_U_init (a := a + 166) rfl hs17 (fun q hq => hA q (by omega)))) rfl (rest := [.ref (a + 166), .ref a]) rfl (by decide) (Nat.le_of_ble_eq_true rfl) td_X_init_65 (sz' := a + 168) (cells' := 167) (slots' := 4139) ⟨rfl, rfl, rfl⟩ (fun f18 hF18 => ?_)
        obtain ⟨hP19, hq19⟩ := hF18
        have k20 : f18 a = some (tz_obj 10 [.ref (a + 1), .ref (a + 15), .ref (a + 157), .null, .null, .null, .null, .int 0]) := ((hq19 _ (by omega)).trans ((hq17 _ (by omega)).trans ((hqS _ (by omega)).trans hT0)))
        refine tz_wputF C_ hnm_ tci_X 3 (by decide) tw_243 ⟨rfl, rfl⟩ k20 (Nat.le_of_ble_eq_true rfl) ⟨rfl, rfl⟩ (fs' := [.ref (a + 1), .ref (a + 15), .ref (a + 157), .ref (a + 166), .null, .null, .null, .int 0]) rfl td_X_init_68 (fun f21 hs21 hq21 => ?_)
        refine tz_aload_n C_ 0 rfl rfl td_X_init_71 ?_
        refine tz_wnew C_ tci_A tw_197 tw_198 tw_51 (hA _ (by omega)) (fs := [.int 0, .int 0]) (fun j hj => by rcases (show j = 0 ∨ j = 1 by omega) with rfl | rfl <;> rfl) (by decide) td_X_init_72 (sz' := a + 169) (cells' := 168) (slots' := 4141) ⟨rfl, rfl, rfl⟩ (fun f22 hs22 hq22 => ?_)
        refine tz_dup C_ rfl td_X_init_75 ?_
        refine tz_cIN C_ tmi_A_init rfl tw_200 tw_199 (As := []) (by exact (ct_A_init (a := a + 168) rfl hs22 (fun q hq => hA q (by omega)))) rfl (rest := [.ref (a + 168), .ref a]) rfl (by decide) (Nat.le_of_ble_eq_true rfl) td_X_init_76 (sz' := a + 169) (cells' := 168) (slots' := 4141) ⟨rfl, rfl, rfl⟩ (fun f23 hF23 => ?_)
        obtain ⟨hP24, hq24⟩ := hF23
        have k25 : f23 a = some (tz_obj 10 [.ref (a + 1), .ref (a + 15), .ref (a + 157), .ref (a + 166), .null, .null, .null, .int 0]) := ((hq24 _ (by omega)).trans ((hq22 _ (by omega)).trans hs21))
        refine tz_wputF C_ hnm_ tci_X 4 (by decide) tw_244 ⟨rfl, rfl⟩ k25 (Nat.le_of_ble_eq_true rfl) ⟨rfl, rfl⟩ (fs' := [.ref (a + 1), .ref (a + 15), .ref (a + 157), .ref (a + 166), .ref (a + 168), .null, .null, .int 0]) rfl td_X_init_79 (fun f26 hs26 hq26 => ?_)
        refine tz_aload_n C_ 0 rfl rfl td_X_init_82 ?_
        refine tz_wnew C_ tci_P tw_210 tw_211 tw_52 (hA _ (by omega)) (fs := [.null, .null, .null, .null, .int 0]) (fun j hj => by rcases (show j = 0 ∨ j = 1 ∨ j = 2 ∨ j = 3 ∨ j = 4 by omega) with rfl | rfl | rfl | rfl | rfl <;> rfl) (by decide) td_X_init_83 (sz' := a + 170) (cells' := 169) (slots' := 4146) ⟨rfl, rfl, rfl⟩ (fun f27 hs27 hq27 => ?_)
        refine tz_dup C_ rfl td_X_init_86 ?_
        refine tz_cIN C_ tmi_P_init rfl tw_213 tw_212 (As := []) (by exact (ct_P_init (a := a + 169) rfl hs27 (fun q hq => hA q (by omega)))) rfl (rest := [.ref (a + 169), .ref a]) rfl (by decide) (Nat.le_of_ble_eq_true rfl) td_X_init_87 (sz' := a + 177) (cells' := 176) (slots' := 4514) ⟨rfl, rfl, rfl⟩ (fun f28 hF28 => ?_)
        obtain ⟨hP29, hq29⟩ := hF28
        have k30 : f28 a = some (tz_obj 10 [.ref (a + 1), .ref (a + 15), .ref (a + 157), .ref (a + 166), .ref (a + 168), .null, .null, .int 0]) := ((hq29 _ (by omega)).trans ((hq27 _ (by omega)).trans hs26))
        refine tz_wputF C_ hnm_ tci_X 5 (by decide) tw_245 ⟨rfl, rfl⟩ k30 (Nat.le_of_ble_eq_true rfl) ⟨rfl, rfl⟩ (fs' := [.ref (a + 1), .ref (a + 15), .ref (a + 157), .ref (a + 166), .ref (a + 168), .ref (a + 169), .null, .int 0]) rfl td_X_init_90 (fun f31 hs31 hq31 => ?_)
        refine tz_aload_n C_ 0 rfl rfl td_X_init_93 ?_
        refine tz_wnew C_ tci_R tw_238 tw_88 tw_45 (hA _ (by omega)) (fs := [.null, .int 0]) (fun j hj => by rcases (show j = 0 ∨ j = 1 by omega) with rfl | rfl <;> rfl) (by decide) td_X_init_94 (sz' := a + 178) (cells' := 177) (slots' := 4516) ⟨rfl, rfl, rfl⟩ (fun f32 hs32 hq32 => ?_)
        refine tz_dup C_ rfl td_X_init_97 ?_
        refine tz_cIN C_ tmi_R_init rfl tw_90 tw_239 (As := []) (by exact (ct_R_init (a := a + 177) rfl hs32 (fun q hq => hA q (by omega)))) rfl (rest := [.ref (a + 177), .ref a]) rfl (by decide) (Nat.le_of_ble_eq_true rfl) td_X_init_98 (sz' := a + 179) (cells' := 178) (slots' := 4636) ⟨rfl, rfl, rfl⟩ (fun f33 hF33 => ?_)
        obtain ⟨hP34, hq34⟩ := hF33
        have k35 : f33 a = some (tz_obj 10 [.ref (a + 1), .ref (a + 15), .ref (a + 157), .ref (a + 166), .ref (a + 168), .ref (a + 169), .null, .int 0]) := ((hq34 _ (by omega)).trans ((hq32 _ (by omega)).trans hs31))
        refine tz_wputF C_ hnm_ tci_X 6 (by decide) tw_246 ⟨rfl, rfl⟩ k35 (Nat.le_of_ble_eq_true rfl) ⟨rfl, rfl⟩ (fs' := [.ref (a + 1), .ref (a + 15), .ref (a + 157), .ref (a + 166), .ref (a + 168), .ref (a + 169), .ref (a + 177), .int 0]) rfl td_X_init_101 (fun f36 hs36 hq36 => ?_)
        refine tz_aload_n C_ 0 rfl rfl td_X_init_104 ?_
        refine tz_iconst C_ (v := 0) (by decide) td_X_init_105 ?_
        refine tz_wput C_ tci_X 7 (by decide) tw_247 rfl hs36 (Nat.le_of_ble_eq_true rfl) ⟨rfl, rfl⟩ (fs' := [.ref (a + 1), .ref (a + 15), .ref (a + 157), .ref (a + 166), .ref (a + 168), .ref (a + 169), .ref (a + 177), .int 0]) rfl td_X_init_106 (fun f37 hs37 hq37 => ?_)
        refine tz_rvret C_ hr_ hk_ hQ_ rfl td_X_init_109 ?_
        have kp38 : tz_Tape cs f37 (a + 1) (fun _ => (0, (fun _ => 0))) 0 (fun _ => none) (fun _ => 0) (tz_fl (fun _ => -1) (fun _ => 0) 6) := hT1.fr (fun q h1_ h2_ => ((hq37 q (by omega)).trans ((hq36 q (by omega)).trans ((hq34 q (by omega)).trans ((hq32 q (by omega)).trans ((hq31 q (by omega)).trans ((hq29 q (by omega)).trans ((hq27 q (by omega)).trans ((hq26 q (by omega)).trans ((hq24 q (by omega)).trans ((hq22 q (by omega)).trans ((hq21 q (by omega)).trans ((hq19 q (by omega)).trans ((hq17 q (by omega)).trans (hqS q (by omega))))))))))))))))
        have kp39 : tz_Hist cs f37 (a + 15) 0 0 (fun _ => ((-1 : Int32), 0, (fun _ => 0), 0, (fun _ => none), (fun _ => 0), (fun _ => 0))) := hT2.fr (fun q h1_ h2_ => ((hq37 q (by omega)).trans ((hq36 q (by omega)).trans ((hq34 q (by omega)).trans ((hq32 q (by omega)).trans ((hq31 q (by omega)).trans ((hq29 q (by omega)).trans ((hq27 q (by omega)).trans ((hq26 q (by omega)).trans ((hq24 q (by omega)).trans ((hq22 q (by omega)).trans ((hq21 q (by omega)).trans ((hq19 q (by omega)).trans ((hq17 q (by omega)).trans (hqS q (by omega))))))))))))))))
        have k40 : f37 (a + 157) = some (tz_refs cs 3 4 (tz_sha (a + 157))) := ((hq37 _ (by omega)).trans ((hq36 _ (by omega)).trans ((hq34 _ (by omega)).trans ((hq32 _ (by omega)).trans ((hq31 _ (by omega)).trans ((hq29 _ (by omega)).trans ((hq27 _ (by omega)).trans ((hq26 _ (by omega)).trans ((hq24 _ (by omega)).trans ((hq22 _ (by omega)).trans ((hq21 _ (by omega)).trans ((hq19 _ (by omega)).trans ((hq17 _ (by omega)).trans hsS)))))))))))))
        have kp41 : tz_Tu cs f37 (a + 166) 0 (fun _ => 0) := hP19.fr (fun q h1_ h2_ => ((hq37 q (by omega)).trans ((hq36 q (by omega)).trans ((hq34 q (by omega)).trans ((hq32 q (by omega)).trans ((hq31 q (by omega)).trans ((hq29 q (by omega)).trans ((hq27 q (by omega)).trans ((hq26 q (by omega)).trans ((hq24 q (by omega)).trans ((hq22 q (by omega)).trans (hq21 q (by omega)))))))))))))
        have k42 : f37 (a + 168) = some (tz_obj 0 [.int 0, .int 0]) := ((hq37 _ (by omega)).trans ((hq36 _ (by omega)).trans ((hq34 _ (by omega)).trans ((hq32 _ (by omega)).trans ((hq31 _ (by omega)).trans ((hq29 _ (by omega)).trans ((hq27 _ (by omega)).trans ((hq26 _ (by omega)).trans hP24))))))))
        have kp43 : tz_Pl cs f37 (a + 169) (a + 169 + 4) (a + 169 + 6) (-1) 0 0 0 (fun _ => 0) 0 (fun _ => 0) 0 (fun _ => 0) := hP29.fr (fun q h1_ h2_ => ((hq37 q (by omega)).trans ((hq36 q (by omega)).trans ((hq34 q (by omega)).trans ((hq32 q (by omega)).trans (hq31 q (by omega)))))))
        have kp44 : tz_Row cs f37 (a + 177) 0 (fun _ => 0) := hP34.fr (fun q h1_ h2_ => ((hq37 q (by omega)).trans (hq36 q (by omega))))
        exact ⟨rfl, ⟨hs37, kp38, kp39, ⟨k40, fun p hp => (hrows p (by omega)).fr (fun q a1 a2 => ((hq37 q (by omega)).trans ((hq36 q (by omega)).trans ((hq34 q (by omega)).trans ((hq32 q (by omega)).trans ((hq31 q (by omega)).trans ((hq29 q (by omega)).trans ((hq27 q (by omega)).trans ((hq26 q (by omega)).trans ((hq24 q (by omega)).trans ((hq22 q (by omega)).trans ((hq21 q (by omega)).trans ((hq19 q (by omega)).trans ((hq17 q (by omega)).trans (hqS q (by omega))))))))))))))))⟩, ⟨_, _, kp41, by decide⟩, ⟨_, _, k42⟩, ⟨_, _, _, _, _, _, _, _, _, _, _, kp43, by decide, by decide⟩, ⟨_, _, kp44, by decide⟩⟩, (fun q hh => by rw [hq37 q (by omega), hq36 q (by omega), hq34 q (by omega), hq32 q (by omega), hq31 q (by omega), hq29 q (by omega), hq27 q (by omega), hq26 q (by omega), hq24 q (by omega), hq22 q (by omega), hq21 q (by omega), hq19 q (by omega), hq17 q (by omega), hqS q (by omega), hfr q (by omega)])⟩
      · skip
        replace h38 := mt (nI_leI (a := 4) (b := i) (by omega) (by omega)).mpr h38
        refine tz_aload_n C_ 0 rfl rfl td_X_init_41 ?_
        refine tz_get C_ tci_X 2 (by decide) tw_242 hT0 rfl td_X_init_42 ?_
        refine tz_iload_n C_ 1 rfl rfl td_X_init_45 ?_
        refine tz_wnew C_ tci_Q tw_167 tw_169 tw_49 (hA _ (by omega)) (fs := [.null, .int 0, .int 0]) (fun j hj => by rcases (show j = 0 ∨ j = 1 ∨ j = 2 by omega) with rfl | rfl | rfl <;> rfl) ⟨by show _ ≤ (178 : Nat); omega, by show _ ≤ (4636 : Nat); omega⟩ td_X_init_46 (sz' := a + 158 + 2 * i + 1) (cells' := 157 + 2 * i + 1) (slots' := 3525 + 123 * i + 3) ⟨rfl, rfl, rfl⟩ (fun f45 hs45 hq45 => ?_)
        refine tz_dup C_ rfl td_X_init_49 ?_
        refine tz_cIN C_ tmi_Q_init rfl tw_171 tw_170 (As := []) (by exact (ct_Q_init (a := a + 158 + 2 * i) rfl hs45 (fun q hq => hA q (by omega)))) rfl (rest := [.ref (a + 158 + 2 * i), .int (nI i), .ref (a + 157)]) rfl ⟨rfl, rfl, by show 157 + 2 * i + 1 + 1 ≤ (178 : Nat); omega, by show 3525 + 123 * i + 3 + 120 ≤ (4636 : Nat); omega, by decide, by decide⟩ (Nat.le_of_ble_eq_true rfl) td_X_init_50 (sz' := a + 158 + 2 * i + 2) (cells' := 157 + 2 * i + 2) (slots' := 3525 + 123 * i + 123) ⟨rfl, rfl, rfl⟩ (fun f46 hF46 => ?_)
        obtain ⟨hP47, hq47⟩ := hF46
        have k48 : f46 (a + 157) = some (tz_refs cs 3 4 (tz_upto (tz_sha (a + 157)) i)) := ((hq47 _ (by omega)).trans ((hq45 _ (by omega)).trans hU))
        refine tz_waastN C_ (t := 3) rfl k48 hP47.1 rfl (by omega) (by decide) td_X_init_53 (fun f49 hs49 hq49 => ?_)
        refine tz_iinc C_ (k := 1) (v := nI (i + 1)) (lv' := [(0, .ref a), (1, .int (nI (i + 1)))]) 1 rfl (nI_1 i) [1, 0] (by decide) rfl td_X_init_54 ?_
        refine tz_goto C_ td_X_init_57 ?_
        have kp50 : tz_Sh cs f49 (a + 158 + 2 * i) 0 0 (fun _ => 0) := hP47.fr (fun q h1_ h2_ => (hq49 q (by omega)))
        have k51 : f49 a = some (tz_obj 10 [.ref (a + 1), .ref (a + 15), .ref (a + 157), .null, .null, .null, .null, .int 0]) := ((hq49 _ (by omega)).trans ((hq47 _ (by omega)).trans ((hq45 _ (by omega)).trans hT0)))
        have kp52 : tz_Tape cs f49 (a + 1) (fun _ => (0, (fun _ => 0))) 0 (fun _ => none) (fun _ => 0) (tz_fl (fun _ => -1) (fun _ => 0) 6) := hT1.fr (fun q h1_ h2_ => ((hq49 q (by omega)).trans ((hq47 q (by omega)).trans (hq45 q (by omega)))))
        have kp53 : tz_Hist cs f49 (a + 15) 0 0 (fun _ => ((-1 : Int32), 0, (fun _ => 0), 0, (fun _ => none), (fun _ => 0), (fun _ => 0))) := hT2.fr (fun q h1_ h2_ => ((hq49 q (by omega)).trans ((hq47 q (by omega)).trans (hq45 q (by omega)))))
        exact ih36 (i + 1) f49 (by rw [← tz_upto_s (o := tz_sha (a + 157)) (i := i) (x := some (a + 158 + 2 * i)) rfl]; exact hs49) (fun p hp => if e : p = i then (by rw [e]; exact kp50) else (hrows p (by omega)).fr (fun q a1 a2 => ((hq49 q (by omega)).trans ((hq47 q (by omega)).trans (hq45 q (by omega)))))) (fun q hh => by rw [hq49 q (by omega), hq47 q (by omega), hq45 q (by omega), hfr q (by omega)]) (by omega) k51 kp52 kp53 (by omega)
  exact loop36 _ 0 f13 (by rw [tz_upto_0]; exact k14) (fun p hp => absurd hp (by omega)) (fun q hh => by rw [hq13 q (by omega), hq11 q (by omega), hq10 q (by omega), hq8 q (by omega), hq6 q (by omega), hq5 q (by omega), hq3 q (by omega), hq1 q (by omega)]) (Nat.zero_le _) hs13 kp15 kp16 (Nat.lt_succ_self _)


def tz_t0 : tz_TS := (fun _ => (0, fun _ => 0), 0, fun _ => (0, 0, 0, 0), fun _ => 0, fun _ => -1)
def tz_s0 : tz_SG := (fun _ => tz_t0, 0, fun _ => (0, 0, fun _ => 0), 0)
theorem tz_en_0 : tz_en (tz_cpf (fun _ => -1) (fun _ => 0) 526 6) tz_t0 := by
  refine ⟨fun p hp => ?_, fun p hp j hj => absurd hj (Nat.not_lt_zero _), ?_, fun k hk => absurd hk (Nat.not_lt_zero _), fun k hk => ⟨?_, ?_⟩⟩
  · rw [tz_cpf_out (by omega)]; rfl
  · rw [tz_cpf_out (by omega)]; rfl
  · rw [tz_cpf_out (by omega)]; rfl
  · rw [tz_cpf_in hk]; rfl
theorem tz_WT_0 : tz_WT tz_t0 := ⟨fun p _ => ⟨(show (0 : Nat) ≤ 120 by decide), fun j hj => absurd hj (Nat.not_lt_zero _)⟩, (show (0 : Nat) ≤ 8 by decide), fun k hk => absurd hk (Nat.not_lt_zero _), fun k _ => ⟨⟨(show (0 : Int32) ≤ 0 by decide), (show (0 : Int32) < 4 by decide)⟩, (show (-1 : Int32) ≤ -1 by decide), (show (-1 : Int32) < 120 by decide)⟩⟩
theorem tz_WF_0 : tz_WF tz_s0 := ⟨(show (0 : Nat) ≤ 20 by decide), fun j _ => tz_WT_0, fun k _ => ⟨(show (0 : Nat) ≤ 120 by decide), Or.inl rfl⟩⟩
theorem tz_AX_0 {cs : Nat → ClassId} {L0 B : Nat} {f : tz_PH} (h : tz_XB cs f B (fun _ => (0, (fun _ => 0))) 0 (fun _ => none) (fun _ => 0) (tz_fl (fun _ => -1) (fun _ => 0) 6) 0 0 (fun _ => ((-1 : Int32), 0, (fun _ => 0), 0, (fun _ => none), (fun _ => 0), (fun _ => 0))) (fun _ => ((0 : Int32), 0, (fun _ => 0))) 0) : tz_AX cs L0 f B tz_s0 :=
  ⟨_, _, _, _, _, _, _, h, ⟨fun p _ => ⟨rfl, fun j _ => rfl⟩, fun k hk => absurd hk (Nat.not_lt_zero _), fun k _ b hb => (by cases hb), fun k _ => rfl, fun k hk => tz_fl_in hk⟩, by decide, fun j hj => absurd hj (Nat.not_lt_zero _), fun s _ => ⟨rfl, rfl, fun j _ => rfl⟩⟩

abbrev rm_M_init : Room := { frames := 1, cells := 8, slots := 12020, locals := 12 }
set_option maxHeartbeats 4000000 in
set_option maxRecDepth 100000 in
theorem ct_M_init {l : Launch} {A : Nat → Prop} {D : va_G} {cs : Nat → ClassId} {sz : Nat} {f : tz_PH} {M : Nat} (hz0 : sz = M + 1) (h0 : f M = some (tz_obj 11 [.null, .null, .int 0, .int 0, .null, .null, .null, .int 0, .null, .int 0, .null, .null, .int 0])) (hA : ∀ q, sz ≤ q → A q) : tz_CN l tyM_init prog_13_method_1_code 2 (none) rm_M_init 8 12020 A D cs sz [.ref M] f (none) (fun f' => tz_AM cs f' M tz_s0 ∧ ∀ q, (q < M ∨ M + 9 ≤ q) → f' q = f q) := by
  refine tz_C.ofB (lv0 := [(0, .ref M)]) (plainFor_of_name (by decide)) (Nat.le_of_ble_eq_true rfl) rfl ?_
  intro p_ e_ s_ m_ ar_ be_ me_ c_ Q_ C_ hr_ hk_ hnm_ hz_ hQ_
  subst hz0
  refine tz_aload_n C_ 0 rfl rfl td_M_init_0 ?_
  refine tz_objInit C_ tw_752 tw_63 tw_64 (by decide) td_M_init_1 ?_
  refine tz_aload_n C_ 0 rfl rfl td_M_init_4 ?_
  refine tz_sipush C_ (v := 532) (by decide) td_M_init_5 ?_
  refine tz_wnewI C_ tw_100 (hA _ (by omega)) (nA := 532) (by decide) (by decide) td_M_init_8 (sz' := M + 2) (cells' := 1) (slots' := 532) ⟨rfl, rfl, rfl⟩ (fun f1 hs1 hq1 => ?_)
  have k2 : f1 M = some (tz_obj 11 [.null, .null, .int 0, .int 0, .null, .null, .null, .int 0, .null, .int 0, .null, .null, .int 0]) := ((hq1 _ (by omega)).trans h0)
  refine tz_wputF C_ hnm_ tci_M 0 (by decide) tw_753 ⟨rfl, rfl⟩ k2 (Nat.le_of_ble_eq_true rfl) ⟨rfl, rfl⟩ (fs' := [.ref (M + 1), .null, .int 0, .int 0, .null, .null, .null, .int 0, .null, .int 0, .null, .null, .int 0]) rfl td_M_init_10 (fun f3 hs3 hq3 => ?_)
  refine tz_aload_n C_ 0 rfl rfl td_M_init_13 ?_
  refine tz_sipush C_ (v := 10640) (by decide) td_M_init_14 ?_
  refine tz_wnewI C_ tw_100 (hA _ (by omega)) (nA := 10640) (by decide) (by decide) td_M_init_17 (sz' := M + 3) (cells' := 2) (slots' := 11172) ⟨rfl, rfl, rfl⟩ (fun f4 hs4 hq4 => ?_)
  have k5 : f4 M = some (tz_obj 11 [.ref (M + 1), .null, .int 0, .int 0, .null, .null, .null, .int 0, .null, .int 0, .null, .null, .int 0]) := ((hq4 _ (by omega)).trans hs3)
  refine tz_wputF C_ hnm_ tci_M 1 (by decide) tw_754 ⟨rfl, rfl⟩ k5 (Nat.le_of_ble_eq_true rfl) ⟨rfl, rfl⟩ (fs' := [.ref (M + 1), .ref (M + 2), .int 0, .int 0, .null, .null, .null, .int 0, .null, .int 0, .null, .null, .int 0]) rfl td_M_init_19 (fun f6 hs6 hq6 => ?_)
  refine tz_aload_n C_ 0 rfl rfl td_M_init_22 ?_
  refine tz_iconst C_ (v := 4) (by decide) td_M_init_23 ?_
  refine tz_wnewI C_ tw_100 (hA _ (by omega)) (nA := 4) (by decide) (by decide) td_M_init_24 (sz' := M + 4) (cells' := 3) (slots' := 11176) ⟨rfl, rfl, rfl⟩ (fun f7 hs7 hq7 => ?_)
  have k8 : f7 M = some (tz_obj 11 [.ref (M + 1), .ref (M + 2), .int 0, .int 0, .null, .null, .null, .int 0, .null, .int 0, .null, .null, .int 0]) := ((hq7 _ (by omega)).trans hs6)
  refine tz_wputF C_ hnm_ tci_M 4 (by decide) tw_757 ⟨rfl, rfl⟩ k8 (Nat.le_of_ble_eq_true rfl) ⟨rfl, rfl⟩ (fs' := [.ref (M + 1), .ref (M + 2), .int 0, .int 0, .ref (M + 3), .null, .null, .int 0, .null, .int 0, .null, .null, .int 0]) rfl td_M_init_26 (fun f9 hs9 hq9 => ?_)
  refine tz_aload_n C_ 0 rfl rfl td_M_init_29 ?_
  refine tz_iconst C_ (v := 4) (by decide) td_M_init_30 ?_
  refine tz_wnewI C_ tw_100 (hA _ (by omega)) (nA := 4) (by decide) (by decide) td_M_init_31 (sz' := M + 5) (cells' := 4) (slots' := 11180) ⟨rfl, rfl, rfl⟩ (fun f10 hs10 hq10 => ?_)
  have k11 : f10 M = some (tz_obj 11 [.ref (M + 1), .ref (M + 2), .int 0, .int 0, .ref (M + 3), .null, .null, .int 0, .null, .int 0, .null, .null, .int 0]) := ((hq10 _ (by omega)).trans hs9)
  refine tz_wputF C_ hnm_ tci_M 5 (by decide) tw_758 ⟨rfl, rfl⟩ k11 (Nat.le_of_ble_eq_true rfl) ⟨rfl, rfl⟩ (fs' := [.ref (M + 1), .ref (M + 2), .int 0, .int 0, .ref (M + 3), .ref (M + 4), .null, .int 0, .null, .int 0, .null, .null, .int 0]) rfl td_M_init_33 (fun f12 hs12 hq12 => ?_)
  refine tz_aload_n C_ 0 rfl rfl td_M_init_36 ?_
  refine tz_sipush C_ (v := 480) (by decide) td_M_init_37 ?_
  refine tz_wnewI C_ tw_100 (hA _ (by omega)) (nA := 480) (by decide) (by decide) td_M_init_40 (sz' := M + 6) (cells' := 5) (slots' := 11660) ⟨rfl, rfl, rfl⟩ (fun f13 hs13 hq13 => ?_)
  have k14 : f13 M = some (tz_obj 11 [.ref (M + 1), .ref (M + 2), .int 0, .int 0, .ref (M + 3), .ref (M + 4), .null, .int 0, .null, .int 0, .null, .null, .int 0]) := ((hq13 _ (by omega)).trans hs12)
  refine tz_wputF C_ hnm_ tci_M 6 (by decide) tw_759 ⟨rfl, rfl⟩ k14 (Nat.le_of_ble_eq_true rfl) ⟨rfl, rfl⟩ (fs' := [.ref (M + 1), .ref (M + 2), .int 0, .int 0, .ref (M + 3), .ref (M + 4), .ref (M + 5), .int 0, .null, .int 0, .null, .null, .int 0]) rfl td_M_init_42 (fun f15 hs15 hq15 => ?_)
  refine tz_aload_n C_ 0 rfl rfl td_M_init_45 ?_
  refine tz_bipush C_ (v := 120) (by decide) td_M_init_46 ?_
  refine tz_wnewI C_ tw_100 (hA _ (by omega)) (nA := 120) (by decide) (by decide) td_M_init_48 (sz' := M + 7) (cells' := 6) (slots' := 11780) ⟨rfl, rfl, rfl⟩ (fun f16 hs16 hq16 => ?_)
  have k17 : f16 M = some (tz_obj 11 [.ref (M + 1), .ref (M + 2), .int 0, .int 0, .ref (M + 3), .ref (M + 4), .ref (M + 5), .int 0, .null, .int 0, .null, .null, .int 0]) := ((hq16 _ (by omega)).trans hs15)
  refine tz_wputF C_ hnm_ tci_M 8 (by decide) tw_761 ⟨rfl, rfl⟩ k17 (Nat.le_of_ble_eq_true rfl) ⟨rfl, rfl⟩ (fs' := [.ref (M + 1), .ref (M + 2), .int 0, .int 0, .ref (M + 3), .ref (M + 4), .ref (M + 5), .int 0, .ref (M + 6), .int 0, .null, .null, .int 0]) rfl td_M_init_50 (fun f18 hs18 hq18 => ?_)
  refine tz_aload_n C_ 0 rfl rfl td_M_init_53 ?_
  refine tz_bipush C_ (v := 120) (by decide) td_M_init_54 ?_
  refine tz_wnewI C_ tw_100 (hA _ (by omega)) (nA := 120) (by decide) (by decide) td_M_init_56 (sz' := M + 8) (cells' := 7) (slots' := 11900) ⟨rfl, rfl, rfl⟩ (fun f19 hs19 hq19 => ?_)
  have k20 : f19 M = some (tz_obj 11 [.ref (M + 1), .ref (M + 2), .int 0, .int 0, .ref (M + 3), .ref (M + 4), .ref (M + 5), .int 0, .ref (M + 6), .int 0, .null, .null, .int 0]) := ((hq19 _ (by omega)).trans hs18)
  refine tz_wputF C_ hnm_ tci_M 10 (by decide) tw_763 ⟨rfl, rfl⟩ k20 (Nat.le_of_ble_eq_true rfl) ⟨rfl, rfl⟩ (fs' := [.ref (M + 1), .ref (M + 2), .int 0, .int 0, .ref (M + 3), .ref (M + 4), .ref (M + 5), .int 0, .ref (M + 6), .int 0, .ref (M + 7), .null, .int 0]) rfl td_M_init_58 (fun f21 hs21 hq21 => ?_)
  refine tz_aload_n C_ 0 rfl rfl td_M_init_61 ?_
  refine tz_bipush C_ (v := 120) (by decide) td_M_init_62 ?_
  refine tz_wnewI C_ tw_100 (hA _ (by omega)) (nA := 120) (by decide) (by decide) td_M_init_64 (sz' := M + 9) (cells' := 8) (slots' := 12020) ⟨rfl, rfl, rfl⟩ (fun f22 hs22 hq22 => ?_)
  have k23 : f22 M = some (tz_obj 11 [.ref (M + 1), .ref (M + 2), .int 0, .int 0, .ref (M + 3), .ref (M + 4), .ref (M + 5), .int 0, .ref (M + 6), .int 0, .ref (M + 7), .null, .int 0]) := ((hq22 _ (by omega)).trans hs21)
  refine tz_wputF C_ hnm_ tci_M 11 (by decide) tw_764 ⟨rfl, rfl⟩ k23 (Nat.le_of_ble_eq_true rfl) ⟨rfl, rfl⟩ (fs' := [.ref (M + 1), .ref (M + 2), .int 0, .int 0, .ref (M + 3), .ref (M + 4), .ref (M + 5), .int 0, .ref (M + 6), .int 0, .ref (M + 7), .ref (M + 8), .int 0]) rfl td_M_init_66 (fun f24 hs24 hq24 => ?_)
  refine tz_iconst C_ (v := 0) (by decide) td_M_init_69 ?_
  refine tz_istore_n C_ (lv' := [(0, .ref M), (1, .int 0)]) [1, 0] rfl (by decide) rfl td_M_init_70 ?_
  have k25 : f24 (M + 1) = some (tz_ints cs 532 (fun _ => 0)) := ((hq24 _ (by omega)).trans ((hq22 _ (by omega)).trans ((hq21 _ (by omega)).trans ((hq19 _ (by omega)).trans ((hq18 _ (by omega)).trans ((hq16 _ (by omega)).trans ((hq15 _ (by omega)).trans ((hq13 _ (by omega)).trans ((hq12 _ (by omega)).trans ((hq10 _ (by omega)).trans ((hq9 _ (by omega)).trans ((hq7 _ (by omega)).trans ((hq6 _ (by omega)).trans ((hq4 _ (by omega)).trans ((hq3 _ (by omega)).trans hs1)))))))))))))))
  have k26 : f24 (M + 2) = some (tz_ints cs 10640 (fun _ => 0)) := ((hq24 _ (by omega)).trans ((hq22 _ (by omega)).trans ((hq21 _ (by omega)).trans ((hq19 _ (by omega)).trans ((hq18 _ (by omega)).trans ((hq16 _ (by omega)).trans ((hq15 _ (by omega)).trans ((hq13 _ (by omega)).trans ((hq12 _ (by omega)).trans ((hq10 _ (by omega)).trans ((hq9 _ (by omega)).trans ((hq7 _ (by omega)).trans ((hq6 _ (by omega)).trans hs4)))))))))))))
  have k27 : f24 (M + 3) = some (tz_ints cs 4 (fun _ => 0)) := ((hq24 _ (by omega)).trans ((hq22 _ (by omega)).trans ((hq21 _ (by omega)).trans ((hq19 _ (by omega)).trans ((hq18 _ (by omega)).trans ((hq16 _ (by omega)).trans ((hq15 _ (by omega)).trans ((hq13 _ (by omega)).trans ((hq12 _ (by omega)).trans ((hq10 _ (by omega)).trans ((hq9 _ (by omega)).trans hs7)))))))))))
  have k28 : f24 (M + 4) = some (tz_ints cs 4 (fun _ => 0)) := ((hq24 _ (by omega)).trans ((hq22 _ (by omega)).trans ((hq21 _ (by omega)).trans ((hq19 _ (by omega)).trans ((hq18 _ (by omega)).trans ((hq16 _ (by omega)).trans ((hq15 _ (by omega)).trans ((hq13 _ (by omega)).trans ((hq12 _ (by omega)).trans hs10)))))))))
  have k29 : f24 (M + 5) = some (tz_ints cs 480 (fun _ => 0)) := ((hq24 _ (by omega)).trans ((hq22 _ (by omega)).trans ((hq21 _ (by omega)).trans ((hq19 _ (by omega)).trans ((hq18 _ (by omega)).trans ((hq16 _ (by omega)).trans ((hq15 _ (by omega)).trans hs13)))))))
  have k30 : f24 (M + 6) = some (tz_ints cs 120 (fun _ => 0)) := ((hq24 _ (by omega)).trans ((hq22 _ (by omega)).trans ((hq21 _ (by omega)).trans ((hq19 _ (by omega)).trans ((hq18 _ (by omega)).trans hs16)))))
  have k31 : f24 (M + 7) = some (tz_ints cs 120 (fun _ => 0)) := ((hq24 _ (by omega)).trans ((hq22 _ (by omega)).trans ((hq21 _ (by omega)).trans hs19)))
  have k32 : f24 (M + 8) = some (tz_ints cs 120 (fun _ => 0)) := ((hq24 _ (by omega)).trans hs22)
  have loop71 : ∀ (kk71 : Nat) (i : Nat) (fL : tz_PH), (tz_MB cs fL M 0 0 0 0 0 ((tz_cpf (fun _ => -1) (fun _ => 0) 526 i)) ((fun _ => 0)) ((fun _ => 0)) ((fun _ => 0)) ((fun _ => 0)) ((fun _ => 0)) ((fun _ => 0)) ((fun _ => 0))) → (∀ q, (q < M ∨ M + 9 ≤ q) → fL q = f q) → (i ≤ 6) → (6 - i) < kk71 → tz_V p_ l e_ rm_M_init s_ m_ ar_ be_ me_ c_ Q_ A D 2 fL (M + 9) 8 12020 71 [(0, .ref M), (1, .int (nI i))] [] := by
    intro kk71
    induction kk71 with
    | zero => intro i fL hM1 hfr hi hm71; omega
    | succ kk71 ih71 =>
      intro i fL hM1 hfr hi hm71
      refine tz_iload_n C_ 1 rfl rfl td_M_init_71 ?_
      refine tz_bipush C_ (v := 6) (by decide) td_M_init_72 ?_
      refine tz_icmp_ge C_ td_M_init_74 (fun h74 => ?_) (fun h74 => ?_)
      · skip
        replace h74 := (nI_leI (a := 6) (b := i) (by omega) (by omega)).mp h74
        refine tz_rvret C_ hr_ hk_ hQ_ rfl td_M_init_94 ?_
        have e9 : i = 6 := by omega
        subst e9
        exact ⟨rfl, ⟨_, _, _, _, _, _, _, _, _, _, _, ⟨hM1.1, hM1.2.1, hM1.2.2.1, hM1.2.2.2.1, hM1.2.2.2.2.1, hM1.2.2.2.2.2.1, hM1.2.2.2.2.2.2.1, hM1.2.2.2.2.2.2.2.1, hM1.2.2.2.2.2.2.2.2⟩, tz_en_0, fun j hj => absurd hj (Nat.not_lt_zero _), fun s _ => ⟨rfl, rfl, fun j hj => absurd hj (Nat.not_lt_zero _)⟩⟩, (fun q hh => by rw [hfr q (by omega)])⟩
      · skip
        replace h74 := mt (nI_leI (a := 6) (b := i) (by omega) (by omega)).mpr h74
        refine tz_aload_n C_ 0 rfl rfl td_M_init_77 ?_
        refine tz_get C_ tci_M 0 (by decide) tw_753 hM1.1 rfl td_M_init_78 ?_
        refine tz_sipush C_ (v := 526) (by decide) td_M_init_81 ?_
        refine tz_iload_n C_ 1 rfl rfl td_M_init_84 ?_
        refine tz_iadd C_ td_M_init_85 ?_
        rw [show (526 + (nI i) : Int32) = nI (526 + i) from nI_add (526) (i)]
        refine tz_iconst C_ (v := -1) (by decide) td_M_init_86 ?_
        refine tz_wiastN C_ hM1.2.1 (by omega) (by decide) (g' := upd ((tz_cpf (fun _ => -1) (fun _ => 0) 526 i)) ((526 + i)) (-1)) rfl td_M_init_87 (fun f33 hs33 hq33 => ?_)
        refine tz_iinc C_ (k := 1) (v := nI (i + 1)) (lv' := [(0, .ref M), (1, .int (nI (i + 1)))]) 1 rfl (nI_1 i) [1, 0] (by decide) rfl td_M_init_88 ?_
        refine tz_goto C_ td_M_init_91 ?_
        have k34 : f33 M = some (tz_obj 11 [.ref (M + 1), .ref (M + 2), .int (nI 0), .int 0, .ref (M + 3), .ref (M + 4), .ref (M + 5), .int 0, .ref (M + 6), .int 0, .ref (M + 7), .ref (M + 8), .int 0]) := ((hq33 _ (by omega)).trans hM1.1)
        have k35 : f33 (M + 2) = some (tz_ints cs 10640 ((fun _ => 0))) := ((hq33 _ (by omega)).trans hM1.2.2.1)
        have k36 : f33 (M + 3) = some (tz_ints cs 4 ((fun _ => 0))) := ((hq33 _ (by omega)).trans hM1.2.2.2.1)
        have k37 : f33 (M + 4) = some (tz_ints cs 4 ((fun _ => 0))) := ((hq33 _ (by omega)).trans hM1.2.2.2.2.1)
        have k38 : f33 (M + 5) = some (tz_ints cs 480 ((fun _ => 0))) := ((hq33 _ (by omega)).trans hM1.2.2.2.2.2.1)
        have k39 : f33 (M + 6) = some (tz_ints cs 120 ((fun _ => 0))) := ((hq33 _ (by omega)).trans hM1.2.2.2.2.2.2.1)
        have k40 : f33 (M + 7) = some (tz_ints cs 120 ((fun _ => 0))) := ((hq33 _ (by omega)).trans hM1.2.2.2.2.2.2.2.1)
        have k41 : f33 (M + 8) = some (tz_ints cs 120 ((fun _ => 0))) := ((hq33 _ (by omega)).trans hM1.2.2.2.2.2.2.2.2)
        exact ih71 (i + 1) f33 (⟨k34, tz_cpr hs33 rfl, k35, k36, k37, k38, k39, k40, k41⟩) (fun q hh => by rw [hq33 q (by omega), hfr q (by omega)]) (by omega) (by omega)
  exact loop71 _ 0 f24 (⟨hs24, by rw [tz_cpf_0]; exact k25, k26, k27, k28, k29, k30, k31, k32⟩) (fun q hh => by rw [hq24 q (by omega), hq22 q (by omega), hq21 q (by omega), hq19 q (by omega), hq18 q (by omega), hq16 q (by omega), hq15 q (by omega), hq13 q (by omega), hq12 q (by omega), hq10 q (by omega), hq9 q (by omega), hq7 q (by omega), hq6 q (by omega), hq4 q (by omega), hq3 q (by omega), hq1 q (by omega)]) (Nat.zero_le _) (Nat.lt_succ_self _)
