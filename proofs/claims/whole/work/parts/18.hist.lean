
abbrev tz_StepV (cs : Nat → ClassId) (f : tz_PH) (e : Nat) (s : tz_S7) : Prop := tz_Step cs f e s.1 s.2.1 s.2.2.1 s.2.2.2.1 s.2.2.2.2.1 s.2.2.2.2.2.1 s.2.2.2.2.2.2
def tz_sad (h : Nat) : Nat → Option Nat := fun k => some (h + 2 + 7 * k)
def tz_Hist (cs : Nat → ClassId) (f : tz_PH) (h nx kp : Nat) (St : Nat → tz_S7) : Prop := f h = some (tz_obj 1 [.ref (h + 1), .int (nI nx), .int (nI kp)]) ∧ f (h + 1) = some (tz_refs cs 2 20 (tz_sad h)) ∧ ∀ k, k < 20 → tz_StepV cs f (h + 2 + 7 * k) (St k)
theorem tz_Hist.fr {cs : Nat → ClassId} {f f' : tz_PH} {h nx kp : Nat} {St : Nat → tz_S7} (hH : tz_Hist cs f h nx kp St) (hq : ∀ q, h ≤ q → q < h + 142 → f' q = f q) : tz_Hist cs f' h nx kp St :=
  ⟨(hq _ (by omega) (by omega)).trans hH.1, (hq _ (by omega) (by omega)).trans hH.2.1, fun k hk => (hH.2.2 k hk).fr (fun q a b => hq q (by omega) (by omega))⟩
theorem tz_mn_N {a b : Nat} (ha : a < 2 ^ 31) (hb : b < 2 ^ 31) : tz_mn (nI a) (nI b) = nI (min a b) := by
  unfold tz_mn
  by_cases h : b < a
  · rw [if_pos (nI_lt h ha), Nat.min_eq_right (by omega)]
  · rw [if_neg (fun z => h ((nI_ltI hb ha).mp z)), Nat.min_eq_left (by omega)]

abbrev rm_H_stepAt : Room := { frames := 0, cells := 0, slots := 0, locals := 0 }
set_option maxHeartbeats 4000000 in
set_option maxRecDepth 100000 in
theorem ct_H_stepAt {l : Launch} {A : Nat → Prop} {D : va_G} {cs : Nat → ClassId} {sz : Nat} {f : tz_PH} {h nx kp : Nat} {St : Nat → tz_S7} (hH : tz_Hist cs f h nx kp St) {j : Nat} (hj : j < 20) : tz_CN l tyH_stepAt prog_3_method_4_code 2 (some (.object "TapeBench$Step")) rm_H_stepAt 0 0 A D cs sz [.ref h, .int (nI j)] f (some (.ref (h + 2 + 7 * j))) (fun f' => f' = f) := by
  refine tz_C.ofB (lv0 := [(0, .ref h), (1, .int (nI j))]) (plainFor_of_name (by decide)) (Nat.le_of_ble_eq_true rfl) rfl ?_
  intro p_ e_ s_ m_ ar_ be_ me_ c_ Q_ C_ hr_ hk_ hnm_ hz_ hQ_
  refine tz_iload_n C_ 1 rfl rfl td_H_stepAt_0 ?_
  refine tz_if_lt C_ td_H_stepAt_1 (fun h1 => absurd h1 (nI_pos (by omega))) (fun _ => ?_)
  refine tz_iload_n C_ 1 rfl rfl td_H_stepAt_4 ?_
  refine tz_aload_n C_ 0 rfl rfl td_H_stepAt_5 ?_
  refine tz_get C_ tci_H 0 (by decide) tw_157 hH.1 rfl td_H_stepAt_6 ?_
  refine tz_alenR C_ (t := 2) rfl hH.2.1 (v := 20) (by decide) td_H_stepAt_9 ?_
  refine tz_icmp_ge C_ td_H_stepAt_10 (fun h10 => ?_) (fun h10 => ?_)
  · skip
    replace h10 := (nI_leI (a := 20) (b := j) (by omega) (by omega)).mp h10
    omega
  · skip
    replace h10 := mt (nI_leI (a := 20) (b := j) (by omega) (by omega)).mpr h10
    refine tz_aload_n C_ 0 rfl rfl td_H_stepAt_13 ?_
    refine tz_get C_ tci_H 0 (by decide) tw_157 hH.1 rfl td_H_stepAt_14 ?_
    refine tz_iload_n C_ 1 rfl rfl td_H_stepAt_17 ?_
    refine tz_aaldN C_ (t := 2) rfl hH.2.1 (by omega) (by decide) td_H_stepAt_18 ?_
    refine tz_goto C_ td_H_stepAt_19 ?_
    refine tz_raret C_ (r := ((tz_sad h) j)) hr_ hk_ hQ_ rfl td_H_stepAt_23 ?_
    exact ⟨rfl, rfl⟩

abbrev rm_H_keep : Room := { frames := 3, cells := 0, slots := 0, locals := 62 }
set_option maxHeartbeats 4000000 in
set_option maxRecDepth 100000 in
theorem ct_H_keep {l : Launch} {A : Nat → Prop} {D : va_G} {cs : Nat → ClassId} {sz : Nat} {f : tz_PH} {h nx kp : Nat} {St : Nat → tz_S7} (hH : tz_Hist cs f h nx kp St) (hnx : nx < 20) (hkp : kp ≤ 20) {t nl : Nat} {R : tz_RR} {o : Nat → Option Nat} {mp ml : Nat → Int32} (hT : tz_Tape cs f t R nl o mp ml) {p : Int32} {L0 : Nat} (hL0 : h + 142 ≤ L0 ∧ t + 14 ≤ L0) (hok : tz_okL L0 f o) (hsep : h + 142 ≤ t ∨ t + 14 ≤ h) : tz_CN l tyH_keep prog_3_method_2_code 4 (none) rm_H_keep 0 0 A D cs sz [.ref h, .ref t, .int p] f (none) (fun f' => (∃ s7 : tz_S7, tz_Hist cs f' h ((nx + 1) % 20) (min (kp + 1) 20) (va_up St nx s7) ∧ s7.1 = p ∧ tz_held R nl o mp ml p s7.2.1 s7.2.2.1 s7.2.2.2.1 s7.2.2.2.2.1 s7.2.2.2.2.2.1 s7.2.2.2.2.2.2) ∧ ∀ q, (q < h ∨ h + 142 ≤ q) → f' q = f q) := by
  refine tz_C.ofB (lv0 := [(0, .ref h), (1, .ref t), (2, .int p)]) (plainFor_of_name (by decide)) (Nat.le_of_ble_eq_true rfl) rfl ?_
  intro p_ e_ s_ m_ ar_ be_ me_ c_ Q_ C_ hr_ hk_ hnm_ hz_ hQ_
  refine tz_aload_n C_ 0 rfl rfl td_H_keep_0 ?_
  refine tz_aload_n C_ 0 rfl rfl td_H_keep_1 ?_
  refine tz_get C_ tci_H 1 (by decide) tw_158 hH.1 rfl td_H_keep_2 ?_
  refine tz_rV C_ tmi_H_stepAt tw_285 tw_1 tw_283 hH.1 rfl (As := [.int (nI nx)]) (by exact (ct_H_stepAt hH (j := nx) (by omega))) rfl (rest := []) rfl (by decide) (Nat.le_of_ble_eq_true rfl) td_H_keep_5 (st1 := [.ref (h + 2 + 7 * nx)]) rfl ?_
  refine tz_astore_n C_ (lv' := [(0, .ref h), (1, .ref t), (2, .int p), (3, .ref (h + 2 + 7 * nx))]) [1, 2, 3, 0] rfl (by decide) rfl td_H_keep_8 ?_
  refine tz_aload_n C_ 3 rfl rfl td_H_keep_9 ?_
  refine tz_ifnonnull C_ (r := some (h + 2 + 7 * nx)) td_H_keep_10 (fun _ _ => ?_) (fun hh => by cases hh)
  refine tz_aload_n C_ 3 rfl rfl td_H_keep_14 ?_
  refine tz_aload_n C_ 1 rfl rfl td_H_keep_15 ?_
  refine tz_iload_n C_ 2 rfl rfl td_H_keep_16 ?_
  refine tz_cV C_ tmi_E_keep tw_288 tw_289 tw_287 (hH.2.2 nx hnx).1 rfl (As := [.ref t, .int p]) (by exact (ct_E_keep (hH.2.2 nx (by omega)) hT (by omega) hok (by omega))) rfl (rest := []) rfl (by decide) (Nat.le_of_ble_eq_true rfl) td_H_keep_17 (st1 := []) rfl (fun f1 hF1 => ?_)
  obtain ⟨⟨n2, g2, nl2, o2, mp2, ml2, hS2, hh2⟩, hq2⟩ := hF1
  refine tz_aload_n C_ 0 rfl rfl td_H_keep_20 ?_
  refine tz_aload_n C_ 0 rfl rfl td_H_keep_21 ?_
  have k3 : f1 h = some (tz_obj 1 [.ref (h + 1), .int (nI nx), .int (nI kp)]) := ((hq2 _ (by omega)).trans hH.1)
  refine tz_get C_ tci_H 1 (by decide) tw_158 k3 rfl td_H_keep_22 ?_
  refine tz_iconst C_ (v := 1) (by decide) td_H_keep_25 ?_
  refine tz_iadd C_ td_H_keep_26 ?_
  rw [show ((nI nx) + 1 : Int32) = nI (nx + 1) from nI_add (nx) (1)]
  refine tz_bipush C_ (v := 20) (by decide) td_H_keep_27 ?_
  refine tz_irem C_ (by decide) td_H_keep_29 ?_
  rw [show ((nI (nx + 1)) - (nI (nx + 1)) / 20 * 20 : Int32) = nI ((nx + 1) % 20) from pk_rem (a := nx + 1) (d := 20) (by omega) (by omega) (by omega)]
  refine tz_wput C_ tci_H 1 (by decide) tw_158 rfl k3 (Nat.le_of_ble_eq_true rfl) ⟨rfl, rfl⟩ (fs' := [.ref (h + 1), .int (nI ((nx + 1) % 20)), .int (nI kp)]) rfl td_H_keep_30 (fun f4 hs4 hq4 => ?_)
  refine tz_aload_n C_ 0 rfl rfl td_H_keep_33 ?_
  refine tz_aload_n C_ 0 rfl rfl td_H_keep_34 ?_
  refine tz_get C_ tci_H 2 (by decide) tw_159 hs4 rfl td_H_keep_35 ?_
  refine tz_iconst C_ (v := 1) (by decide) td_H_keep_38 ?_
  refine tz_iadd C_ td_H_keep_39 ?_
  rw [show ((nI kp) + 1 : Int32) = nI (kp + 1) from nI_add (kp) (1)]
  refine tz_bipush C_ (v := 20) (by decide) td_H_keep_40 ?_
  refine tz_rS C_ tmi_J_min tw_305 tw_304 (As := [.int (nI (kp + 1)), .int 20]) (by exact ct_J_min) rfl (rest := [.ref h]) rfl (by decide) (Nat.le_of_ble_eq_true rfl) td_H_keep_42 (st1 := [.int (tz_mn (nI (kp + 1)) 20), .ref h]) rfl ?_
  refine tz_wput C_ tci_H 2 (by decide) tw_159 rfl hs4 (Nat.le_of_ble_eq_true rfl) ⟨rfl, rfl⟩ (fs' := [.ref (h + 1), .int (nI ((nx + 1) % 20)), .int (tz_mn (nI (kp + 1)) 20)]) rfl td_H_keep_45 (fun f5 hs5 hq5 => ?_)
  refine tz_rvret C_ hr_ hk_ hQ_ rfl td_H_keep_48 ?_
  have kp6 : tz_Step cs f5 (h + 2 + 7 * nx) p n2 g2 nl2 o2 mp2 ml2 := hS2.fr (fun q h1_ h2_ => ((hq5 q (by omega)).trans (hq4 q (by omega))))
  have k7 : f5 (h + 1) = some (tz_refs cs 2 20 (tz_sad h)) := ((hq5 _ (by omega)).trans ((hq4 _ (by omega)).trans ((hq2 _ (by omega)).trans hH.2.1)))
  refine ⟨rfl, ⟨(p, n2, g2, nl2, o2, mp2, ml2), ⟨?_, k7, ?_⟩, rfl, hh2⟩, (fun q hh => by rw [hq5 q (by omega), hq4 q (by omega), hq2 q (by omega)])⟩
  · have e9 := tz_mn_N (a := kp + 1) (b := 20) (by omega) (by omega)
    rw [← e9]; exact hs5
  · intro k9 hk9
    by_cases e9 : k9 = nx
    · subst e9
      simp only [va_up, if_true]
      exact kp6
    · simp only [va_up, if_neg e9]
      exact (hH.2.2 k9 hk9).fr (fun q a9 b9 => ((hq5 q (by omega)).trans ((hq4 q (by omega)).trans (hq2 q (by omega)))))

abbrev rm_H_restore : Room := { frames := 3, cells := 0, slots := 0, locals := 61 }
set_option maxHeartbeats 4000000 in
set_option maxRecDepth 100000 in
theorem ct_H_restore {l : Launch} {A : Nat → Prop} {D : va_G} {cs : Nat → ClassId} {sz : Nat} {f : tz_PH} {h nx kp : Nat} {St : Nat → tz_S7} (hH : tz_Hist cs f h nx kp St) (hnx : nx < 20) (hkp : kp ≤ 20 ∧ 0 < kp) {t nl : Nat} {R : tz_RR} {o : Nat → Option Nat} {mp ml : Nat → Int32} (hT : tz_Tape cs f t R nl o mp ml) {L0 : Nat} (hL0 : h + 142 ≤ L0 ∧ t + 14 ≤ L0) (hok : tz_okL L0 f (St ((nx + 20 - 1) % 20)).2.2.2.2.1) (hsep : h + 142 ≤ t ∨ t + 14 ≤ h) : tz_CN l tyH_restore prog_3_method_3_code 4 (some (.int)) rm_H_restore 0 0 A D cs sz [.ref h, .ref t] f (some (.int (nI (kp - 1)))) (fun f' => (∃ (R' : tz_RR) (o' : Nat → Option Nat) (mp' ml' : Nat → Int32), tz_Hist cs f' h ((nx + 20 - 1) % 20) (kp - 1) St ∧ tz_Tape cs f' t R' (St ((nx + 20 - 1) % 20)).2.2.2.1 o' mp' ml' ∧ (∀ k, k < 4 → ((St ((nx + 20 - 1) % 20)).1 = nI k → (R' k).1 = (St ((nx + 20 - 1) % 20)).2.1 ∧ ∀ j, j < 120 → (R' k).2 j = (St ((nx + 20 - 1) % 20)).2.2.1 j) ∧ (¬ (St ((nx + 20 - 1) % 20)).1 = nI k → R' k = R k)) ∧ (∀ k, k < 8 → o' k = (St ((nx + 20 - 1) % 20)).2.2.2.2.1 k) ∧ (∀ k, k < 6 → mp' k = (St ((nx + 20 - 1) % 20)).2.2.2.2.2.1 k) ∧ (∀ k, k < 6 → ml' k = (St ((nx + 20 - 1) % 20)).2.2.2.2.2.2 k)) ∧ ∀ q, ((q < t ∨ t + 14 ≤ q) ∧ (q < h ∨ h + 2 ≤ q)) → f' q = f q) := by
  refine tz_C.ofB (lv0 := [(0, .ref h), (1, .ref t)]) (plainFor_of_name (by decide)) (Nat.le_of_ble_eq_true rfl) rfl ?_
  intro p_ e_ s_ m_ ar_ be_ me_ c_ Q_ C_ hr_ hk_ hnm_ hz_ hQ_
  refine tz_aload_n C_ 0 rfl rfl td_H_restore_0 ?_
  refine tz_get C_ tci_H 1 (by decide) tw_158 hH.1 rfl td_H_restore_1 ?_
  refine tz_bipush C_ (v := 20) (by decide) td_H_restore_4 ?_
  refine tz_iadd C_ td_H_restore_6 ?_
  rw [show ((nI nx) + 20 : Int32) = nI (nx + 20) from nI_add (nx) (20)]
  refine tz_iconst C_ (v := 1) (by decide) td_H_restore_7 ?_
  refine tz_isub C_ td_H_restore_8 ?_
  rw [show ((nI (nx + 20)) - 1 : Int32) = nI (nx + 20 - 1) from pk_sub (a := nx + 20) (b := 1) (by omega)]
  refine tz_bipush C_ (v := 20) (by decide) td_H_restore_9 ?_
  refine tz_irem C_ (by decide) td_H_restore_11 ?_
  rw [show ((nI (nx + 20 - 1)) - (nI (nx + 20 - 1)) / 20 * 20 : Int32) = nI ((nx + 20 - 1) % 20) from pk_rem (a := nx + 20 - 1) (d := 20) (by omega) (by omega) (by omega)]
  refine tz_istore_n C_ (lv' := [(0, .ref h), (1, .ref t), (2, .int (nI ((nx + 20 - 1) % 20)))]) [1, 2, 0] rfl (by decide) rfl td_H_restore_12 ?_
  refine tz_aload_n C_ 0 rfl rfl td_H_restore_13 ?_
  refine tz_iload_n C_ 2 rfl rfl td_H_restore_14 ?_
  refine tz_rV C_ tmi_H_stepAt tw_285 tw_1 tw_283 hH.1 rfl (As := [.int (nI ((nx + 20 - 1) % 20))]) (by exact (ct_H_stepAt hH (j := ((nx + 20 - 1) % 20)) (by omega))) rfl (rest := []) rfl (by decide) (Nat.le_of_ble_eq_true rfl) td_H_restore_15 (st1 := [.ref (h + 2 + 7 * ((nx + 20 - 1) % 20))]) rfl ?_
  refine tz_astore_n C_ (lv' := [(0, .ref h), (1, .ref t), (2, .int (nI ((nx + 20 - 1) % 20))), (3, .ref (h + 2 + 7 * ((nx + 20 - 1) % 20)))]) [1, 2, 3, 0] rfl (by decide) rfl td_H_restore_18 ?_
  refine tz_aload_n C_ 0 rfl rfl td_H_restore_19 ?_
  refine tz_get C_ tci_H 2 (by decide) tw_159 hH.1 rfl td_H_restore_20 ?_
  refine tz_if_eq C_ td_H_restore_23 (fun h23 => ?_) (fun h23 => ?_)
  · skip
    replace h23 := (nI_eq (a := kp) (b := 0) (by omega) (by omega)).mp h23
    omega
  · skip
    replace h23 := mt (nI_eq (a := kp) (b := 0) (by omega) (by omega)).mpr h23
    refine tz_aload_n C_ 3 rfl rfl td_H_restore_26 ?_
    refine tz_ifnonnull C_ (r := some (h + 2 + 7 * ((nx + 20 - 1) % 20))) td_H_restore_27 (fun _ _ => ?_) (fun hh => by cases hh)
    refine tz_aload_n C_ 3 rfl rfl td_H_restore_33 ?_
    refine tz_aload_n C_ 1 rfl rfl td_H_restore_34 ?_
    refine tz_cV C_ tmi_E_bringBack tw_732 tw_733 tw_731 (hH.2.2 ((nx + 20 - 1) % 20) (by omega)).1 rfl (As := [.ref t]) (by exact (ct_E_bringBack (hH.2.2 ((nx + 20 - 1) % 20) (by omega)) hT (by omega) hok (by omega))) rfl (rest := []) rfl (by decide) (Nat.le_of_ble_eq_true rfl) td_H_restore_35 (st1 := []) rfl (fun f1 hF1 => ?_)
    obtain ⟨⟨R2, o2, mp2, ml2, hT2, hR2, ho2, hmp2, hml2⟩, hq2⟩ := hF1
    refine tz_aload_n C_ 0 rfl rfl td_H_restore_38 ?_
    refine tz_iload_n C_ 2 rfl rfl td_H_restore_39 ?_
    have k3 : f1 h = some (tz_obj 1 [.ref (h + 1), .int (nI nx), .int (nI kp)]) := ((hq2 _ (by omega)).trans hH.1)
    refine tz_wput C_ tci_H 1 (by decide) tw_158 rfl k3 (Nat.le_of_ble_eq_true rfl) ⟨rfl, rfl⟩ (fs' := [.ref (h + 1), .int (nI ((nx + 20 - 1) % 20)), .int (nI kp)]) rfl td_H_restore_40 (fun f4 hs4 hq4 => ?_)
    refine tz_aload_n C_ 0 rfl rfl td_H_restore_43 ?_
    refine tz_dup C_ rfl td_H_restore_44 ?_
    refine tz_get C_ tci_H 2 (by decide) tw_159 hs4 rfl td_H_restore_45 ?_
    refine tz_iconst C_ (v := 1) (by decide) td_H_restore_48 ?_
    refine tz_isub C_ td_H_restore_49 ?_
    rw [show ((nI kp) - 1 : Int32) = nI (kp - 1) from pk_sub (a := kp) (b := 1) (by omega)]
    refine tz_wput C_ tci_H 2 (by decide) tw_159 rfl hs4 (Nat.le_of_ble_eq_true rfl) ⟨rfl, rfl⟩ (fs' := [.ref (h + 1), .int (nI ((nx + 20 - 1) % 20)), .int (nI (kp - 1))]) rfl td_H_restore_50 (fun f5 hs5 hq5 => ?_)
    refine tz_aload_n C_ 0 rfl rfl td_H_restore_53 ?_
    refine tz_get C_ tci_H 2 (by decide) tw_159 hs5 rfl td_H_restore_54 ?_
    refine tz_riret C_ hr_ hk_ hQ_ rfl td_H_restore_57 ?_
    have kp6 : tz_Tape cs f5 t R2 (St ((nx + 20 - 1) % 20)).2.2.2.1 o2 mp2 ml2 := hT2.fr (fun q h1_ h2_ => ((hq5 q (by omega)).trans (hq4 q (by omega))))
    have k7 : f5 (h + 1) = some (tz_refs cs 2 20 (tz_sad h)) := ((hq5 _ (by omega)).trans ((hq4 _ (by omega)).trans ((hq2 _ (by omega)).trans hH.2.1)))
    refine ⟨rfl, ⟨R2, o2, mp2, ml2, ⟨hs5, k7, fun k9 hk9 => (hH.2.2 k9 hk9).fr (fun q a9 b9 => ((hq5 q (by omega)).trans ((hq4 q (by omega)).trans (hq2 q (by omega)))))⟩, kp6, hR2, ho2, hmp2, hml2⟩, (fun q hh => by rw [hq5 q (by omega), hq4 q (by omega), hq2 q (by omega)])⟩

set_option maxHeartbeats 4000000 in
set_option maxRecDepth 100000 in
theorem ct_H_restore0 {l : Launch} {A : Nat → Prop} {D : va_G} {cs : Nat → ClassId} {sz : Nat} {f : tz_PH} {h nx kp : Nat} {St : Nat → tz_S7} (hH : tz_Hist cs f h nx kp St) (hnx : nx < 20) (hkp : kp = 0) {t : Nat} : tz_CN l tyH_restore prog_3_method_3_code 4 (some (.int)) rm_H_restore 0 0 A D cs sz [.ref h, .ref t] f (some (.int tz_NO)) (fun f' => f' = f) := by
  refine tz_C.ofB (lv0 := [(0, .ref h), (1, .ref t)]) (plainFor_of_name (by decide)) (Nat.le_of_ble_eq_true rfl) rfl ?_
  intro p_ e_ s_ m_ ar_ be_ me_ c_ Q_ C_ hr_ hk_ hnm_ hz_ hQ_
  refine tz_aload_n C_ 0 rfl rfl td_H_restore_0 ?_
  refine tz_get C_ tci_H 1 (by decide) tw_158 hH.1 rfl td_H_restore_1 ?_
  refine tz_bipush C_ (v := 20) (by decide) td_H_restore_4 ?_
  refine tz_iadd C_ td_H_restore_6 ?_
  rw [show ((nI nx) + 20 : Int32) = nI (nx + 20) from nI_add (nx) (20)]
  refine tz_iconst C_ (v := 1) (by decide) td_H_restore_7 ?_
  refine tz_isub C_ td_H_restore_8 ?_
  rw [show ((nI (nx + 20)) - 1 : Int32) = nI (nx + 20 - 1) from pk_sub (a := nx + 20) (b := 1) (by omega)]
  refine tz_bipush C_ (v := 20) (by decide) td_H_restore_9 ?_
  refine tz_irem C_ (by decide) td_H_restore_11 ?_
  rw [show ((nI (nx + 20 - 1)) - (nI (nx + 20 - 1)) / 20 * 20 : Int32) = nI ((nx + 20 - 1) % 20) from pk_rem (a := nx + 20 - 1) (d := 20) (by omega) (by omega) (by omega)]
  refine tz_istore_n C_ (lv' := [(0, .ref h), (1, .ref t), (2, .int (nI ((nx + 20 - 1) % 20)))]) [1, 2, 0] rfl (by decide) rfl td_H_restore_12 ?_
  refine tz_aload_n C_ 0 rfl rfl td_H_restore_13 ?_
  refine tz_iload_n C_ 2 rfl rfl td_H_restore_14 ?_
  refine tz_rV C_ tmi_H_stepAt tw_285 tw_1 tw_283 hH.1 rfl (As := [.int (nI ((nx + 20 - 1) % 20))]) (by exact (ct_H_stepAt hH (j := ((nx + 20 - 1) % 20)) (by omega))) rfl (rest := []) rfl (by decide) (Nat.le_of_ble_eq_true rfl) td_H_restore_15 (st1 := [.ref (h + 2 + 7 * ((nx + 20 - 1) % 20))]) rfl ?_
  refine tz_astore_n C_ (lv' := [(0, .ref h), (1, .ref t), (2, .int (nI ((nx + 20 - 1) % 20))), (3, .ref (h + 2 + 7 * ((nx + 20 - 1) % 20)))]) [1, 2, 3, 0] rfl (by decide) rfl td_H_restore_18 ?_
  refine tz_aload_n C_ 0 rfl rfl td_H_restore_19 ?_
  refine tz_get C_ tci_H 2 (by decide) tw_159 hH.1 rfl td_H_restore_20 ?_
  refine tz_if_eq C_ td_H_restore_23 (fun h23 => ?_) (fun h23 => ?_)
  · skip
    replace h23 := (nI_eq (a := kp) (b := 0) (by omega) (by omega)).mp h23
    refine tz_ldc C_ tw_730 td_H_restore_30 ?_
    refine tz_riret C_ hr_ hk_ hQ_ rfl td_H_restore_32 ?_
    exact ⟨rfl, rfl⟩
  · skip
    replace h23 := mt (nI_eq (a := kp) (b := 0) (by omega) (by omega)).mpr h23
    omega
