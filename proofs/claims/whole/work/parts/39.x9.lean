abbrev rm_X_undo : Room := { frames := 4, cells := 0, slots := 0, locals := 84 }
set_option maxHeartbeats 4000000 in
set_option maxRecDepth 100000 in
theorem ct_X_undo {l : Launch} {A : Nat → Prop} {D : va_G} {cs : Nat → ClassId} {sz : Nat} {f : tz_PH} {B L0 : Nat} {σ : tz_SG} (hX : tz_AX cs L0 f B σ) (hW : tz_WF σ) (hB : B + 179 ≤ L0) : tz_CN l tyX_undo prog_1_method_29_code 1 (some (.int)) rm_X_undo 0 0 A D cs sz [.ref B] f (some (.int (sp_undo σ).1)) (fun f' => tz_AX cs L0 f' B (sp_undo σ ).2 ∧ ∀ q, (q < B ∨ B + 179 ≤ q) → f' q = f q) := by
  refine tz_C.ofB (lv0 := [(0, .ref B)]) (plainFor_of_name (by decide)) (Nat.le_of_ble_eq_true rfl) rfl ?_
  intro p_ e_ s_ m_ ar_ be_ me_ c_ Q_ C_ hr_ hk_ hnm_ hz_ hQ_
  obtain ⟨R, o, mp, ml, nx, St, Sb, hXB, hag, hnx, hH, hQ⟩ := hX
  obtain ⟨hB0, hT, hHi, hShs, hTuX, hAlX, hPlX, hRoX⟩ := hXB
  have hTu9 := hTuX
  obtain ⟨tn, tg, hTu, htn⟩ := hTu9
  have hAl9 := hAlX
  obtain ⟨zA, kA, hAl⟩ := hAl9
  have hPl9 := hPlX
  obtain ⟨pr, px, pfo, pz, pk, ptn, ptg, pn, pg, pn2, pg2, hPl, hpn, hptn⟩ := hPl9
  have hRo9 := hRoX
  obtain ⟨jn, jg, hRo, hjn⟩ := hRo9
  have hrx := hPl.2.2.2.2.2
  have hRn : ∀ p, p < 4 → (R p).1 ≤ 120 := fun p hp => by rw [(hag.1 p hp).1]; exact (hW.cur.1 p hp).1
  have hnl : (tz_cur σ).2.1 ≤ 8 := hW.cur.2.1
  have hkp : σ.2.1 ≤ 20 := hW.1
  have hSn : ∀ s, s < 4 → (Sb s).2.1 ≤ 120 := fun s hs => by rw [(hQ s hs).2.1]; exact (hW.2.2 s hs).1
  by_cases hz0 : σ.2.1 = 0
  · skip
    refine tz_aload_n C_ 0 rfl rfl td_X_undo_0 ?_
    refine tz_aload_n C_ 0 rfl rfl td_X_undo_1 ?_
    refine tz_get C_ tci_X 1 (by decide) tw_241 hB0 rfl td_X_undo_2 ?_
    refine tz_aload_n C_ 0 rfl rfl td_X_undo_5 ?_
    refine tz_get C_ tci_X 0 (by decide) tw_240 hB0 rfl td_X_undo_6 ?_
    refine tz_rV C_ tmi_H_restore tw_727 tw_728 tw_726 hHi.1 rfl (As := [.ref (B + 1)]) (by exact (ct_H_restore0 hHi hnx hz0)) rfl (rest := [.ref B]) rfl (by decide) (Nat.le_of_ble_eq_true rfl) td_X_undo_9 (st1 := [.int tz_NO, .ref B]) rfl ?_
    refine tz_cV C_ tmi_X_answer tw_276 tw_0 tw_274 hB0 rfl (As := [.int tz_NO]) (by exact (ct_X_answer (v := tz_NO) hB0)) rfl (rest := []) rfl (by decide) (Nat.le_of_ble_eq_true rfl) td_X_undo_12 (st1 := [.int tz_NO]) rfl (fun f1 hF1 => ?_)
    obtain ⟨hs2, hq2⟩ := hF1
    refine tz_riret C_ hr_ hk_ hQ_ rfl td_X_undo_15 ?_
    have k3 : f1 (B + 166) = some (tz_obj 9 [.ref (B + 166 + 1), .int (nI tn)]) := ((hq2 _ (by omega)).trans hTu.1)
    have k4 : f1 (B + 166 + 1) = some (tz_ints cs 120 tg) := ((hq2 _ (by omega)).trans hTu.2)
    have k5 : f1 (B + 168) = some (tz_obj 0 [.int zA, .int (nI kA)]) := ((hq2 _ (by omega)).trans hAl)
    have kp6 : tz_Tape cs f1 (B + 1) R (tz_cur σ).2.1 o mp ml := hT.fr (fun q h1_ h2_ => (hq2 q (by omega)))
    have kp7 : tz_Hist cs f1 (B + 15) nx σ.2.1 St := hHi.fr (fun q h1_ h2_ => (hq2 q (by omega)))
    have kp8 : tz_Shs cs f1 (B + 157) Sb := hShs.fr (fun q h1_ h2_ => (hq2 q (by omega)))
    have kp9 : tz_PlX cs f1 (B + 169) := hPlX.fr (fun q h1_ h2_ => (hq2 q (by omega)))
    have kp10 : tz_RoX cs f1 (B + 177) := hRoX.fr (fun q h1_ h2_ => (hq2 q (by omega)))
    have e9 : sp_undo σ = tz_an σ tz_NO := by rw [sp_undo, if_pos hz0]
    rw [e9]
    exact ⟨rfl, ⟨R, o, mp, ml, nx, St, Sb, ⟨hs2, kp6, kp7, kp8, ⟨_, _, ⟨k3, k4⟩, htn⟩, ⟨_, _, k5⟩, kp9, kp10⟩, hag.fr (fun q h9 => (hq2 q (by omega))), hnx, hH.fr (fun q h9 => (hq2 q (by omega))), hQ⟩, (fun q hh => by rw [hq2 q (by omega)])⟩
  · skip
    refine tz_aload_n C_ 0 rfl rfl td_X_undo_0 ?_
    refine tz_aload_n C_ 0 rfl rfl td_X_undo_1 ?_
    refine tz_get C_ tci_X 1 (by decide) tw_241 hB0 rfl td_X_undo_2 ?_
    refine tz_aload_n C_ 0 rfl rfl td_X_undo_5 ?_
    refine tz_get C_ tci_X 0 (by decide) tw_240 hB0 rfl td_X_undo_6 ?_
    have hp0 : σ.2.1 ≤ 20 ∧ 0 < σ.2.1 := ⟨hkp, by omega⟩
    have hst := tz_agS_undo hH hnx hp0
    have hWp := hW.2.1 (σ.2.1 - 1) (by omega)
    refine tz_cV C_ tmi_H_restore tw_727 tw_728 tw_726 hHi.1 rfl (As := [.ref (B + 1)]) (by exact (ct_H_restore hHi hnx hp0 hT (by omega) hst.2.2.1 (by omega))) rfl (rest := [.ref B]) rfl (by decide) (Nat.le_of_ble_eq_true rfl) td_X_undo_9 (st1 := [.int (nI (σ.2.1 - 1)), .ref B]) rfl (fun f11 hF11 => ?_)
    obtain ⟨⟨RU, oU, mpU, mlU, hHU, hTU, hRU, hoU, hmpU, hmlU⟩, hqU⟩ := hF11
    rw [hst.1] at hTU
    have k12 : f11 B = some (tz_obj 10 [.ref (B + 1), .ref (B + 15), .ref (B + 157), .ref (B + 166), .ref (B + 168), .ref (B + 169), .ref (B + 177), .int σ.2.2.2]) := ((hqU _ (by omega)).trans hB0)
    refine tz_cV C_ tmi_X_answer tw_276 tw_0 tw_274 k12 rfl (As := [.int (nI (σ.2.1 - 1))]) (by exact (ct_X_answer (v := nI (σ.2.1 - 1)) k12)) rfl (rest := []) rfl (by decide) (Nat.le_of_ble_eq_true rfl) td_X_undo_12 (st1 := [.int (nI (σ.2.1 - 1))]) rfl (fun f13 hF13 => ?_)
    obtain ⟨hs14, hq14⟩ := hF13
    refine tz_riret C_ hr_ hk_ hQ_ rfl td_X_undo_15 ?_
    have k15 : f13 (B + 166) = some (tz_obj 9 [.ref (B + 166 + 1), .int (nI tn)]) := ((hq14 _ (by omega)).trans ((hqU _ (by omega)).trans hTu.1))
    have k16 : f13 (B + 166 + 1) = some (tz_ints cs 120 tg) := ((hq14 _ (by omega)).trans ((hqU _ (by omega)).trans hTu.2))
    have k17 : f13 (B + 168) = some (tz_obj 0 [.int zA, .int (nI kA)]) := ((hq14 _ (by omega)).trans ((hqU _ (by omega)).trans hAl))
    have kp18 : tz_Tape cs f13 (B + 1) RU (σ.1 (σ.2.1 - 1)).2.1 oU mpU mlU := hTU.fr (fun q h1_ h2_ => (hq14 q (by omega)))
    have kp19 : tz_Hist cs f13 (B + 15) ((nx + 20 - 1) % 20) (σ.2.1 - 1) St := hHU.fr (fun q h1_ h2_ => (hq14 q (by omega)))
    have kp20 : tz_Shs cs f13 (B + 157) Sb := hShs.fr (fun q h1_ h2_ => ((hq14 q (by omega)).trans (hqU q (by omega))))
    have kp21 : tz_PlX cs f13 (B + 169) := hPlX.fr (fun q h1_ h2_ => ((hq14 q (by omega)).trans (hqU q (by omega))))
    have kp22 : tz_RoX cs f13 (B + 177) := hRoX.fr (fun q h1_ h2_ => ((hq14 q (by omega)).trans (hqU q (by omega))))
    have e9 : sp_undo σ = tz_an (σ.1, σ.2.1 - 1, σ.2.2) (nI (σ.2.1 - 1)) := by rw [sp_undo, if_neg hz0]
    rw [e9]
    exact ⟨rfl, ⟨RU, oU, mpU, mlU, ((nx + 20 - 1) % 20), St, Sb, ⟨hs14, kp18, kp19, kp20, ⟨_, _, ⟨k15, k16⟩, htn⟩, ⟨_, _, k17⟩, kp21, kp22⟩, (tz_agT_undo hag hst (fun p hp => (hWp.1 p hp).1) hWp.2.1 hRU hoU hmpU hmlU).fr (fun q h9 => ((hq14 q (by omega)).trans (hqU q (by omega)))), Nat.mod_lt _ (by decide), (tz_agH_undo hH hnx hp0).fr (fun q h9 => ((hq14 q (by omega)).trans (hqU q (by omega)))), hQ⟩, (fun q hh => by rw [hq14 q (by omega), hqU q (by omega)])⟩
