
-- ===== laying a script =====
def dG (d : dT) : Prop := dY d = 0 ∧ dK d = 0 ∨ 4 ≤ dY d
theorem item_G {tx : List Nat} {a : Nat} {d d' : dT} {z : Nat} (h : item tx a d = some (z, d')) (hG : dG d) : dG d' := by
  unfold item at h
  split at h
  · unfold itemY at h
    split at h
    · split at h
      · rename_i v _ hc; cases h; exact Or.inr hc.2.1
      · cases h
    · cases h
  · split at h
    · cases h
    · rename_i h0
      have h4 : 4 ≤ dY d := by rcases hG with q | q; exact absurd q.1 h0; exact q
      split at h
      · unfold itemS at h
        split at h
        · cases h; exact Or.inr h4
        · cases h
      · split at h
        · unfold itemP at h
          split at h
          · split at h
            · cases h; exact Or.inr h4
            · cases h
          · cases h
        · split at h
          · unfold itemL at h
            split at h
            · cases h; exact Or.inr h4
            · cases h
          · cases h
theorem prs_G {tx : List Nat} : ∀ {n a : Nat} {d d' : dT}, dG d → prs tx n a d = .inr d' → dG d'
  | 0, a, d, d', hG, h => by cases h; exact hG
  | n + 1, a, d, d', hG, h => by
    unfold prs at h
    split at h
    · split at h
      · cases h
      · rename_i z d2 hi; exact prs_G (item_G hi hG) h
    · cases h; exact hG
theorem rdR_G {tx : List Nat} {d : dT} (h : rdR tx = .inr d) : dB d ∧ (2 ≤ dK d → 4 ≤ dY d) := by
  refine ⟨prs_B dB_fresh h, fun h2 => ?_⟩
  rcases prs_G (Or.inl ⟨rfl, rfl⟩) h with q | q
  · omega
  · exact q
theorem lay_e {M N1 N2 N3 N4 : qMem} (hO : qOff oDr M N1) (hO2 : qOff oRe N1 N2) (hO3 : qOff oLe N2 N3) (hO4 : qOff oHi N3 N4) {o : Nat} (h : (o < 90 ∨ 101 ≤ o) ∧ ¬ (3 ≤ o ∧ o < 25)) : N4.1 o = M.1 o ∧ N4.2 o = M.2 o :=
  ⟨((hO4 o (by unfold oHi; omega)).1).trans (((hO3 o (by unfold oLe; omega)).1).trans (((hO2 o (by unfold oRe; omega)).1).trans ((hO o (by unfold oDr; omega)).1))),
   ((hO4 o (by unfold oHi; omega)).2).trans (((hO3 o (by unfold oLe; omega)).2).trans (((hO2 o (by unfold oRe; omega)).2).trans ((hO o (by unfold oDr; omega)).2)))⟩
theorem lay_e4 {N2 N3 N4 : qMem} (hO3 : qOff oLe N2 N3) (hO4 : qOff oHi N3 N4) {o : Nat} (h : o < 90) : N4.1 o = N2.1 o :=
  ((hO4 o (by unfold oHi; omega)).1).trans ((hO3 o (by unfold oLe; omega)).1)
set_option maxRecDepth 100000 in
set_option maxHeartbeats 4000000 in
theorem c_lay0 {vb : Nat} {M : qMem} {s : sT} (hI : XI vb M s) {f : Nat} (hr : rdR (sX s) = .inl f) : qSem 0 mX7_layScript [.ref 0] M (fun r N => r = some (.int (rLay s).1) ∧ XI (vb + 1) N (rLay s).2) := by
  have hT := hI.2.2.2.2.2.2.1
  have htB := hI.2.2.2.2.2.2.2.1
  have hl200 := htB.1
  refine qSem.of (by decide +kernel) (Nat.le_of_ble_eq_true rfl) (fun w => ?_)
  refine R_ls (L' := [(0, .ref 0)]) (qs1 rfl qs0) ?_
  refine R_aload_n dX7_layScript_0 rfl ?_
  refine R_getR dX7_layScript_1 lg_RX7_12 (by decide) rfl rfl ?_
  refine R_callV (mc := mX4_read) (As := []) (r := 1) dX7_layScript_4 lm_RX7_81 mv_X4_read rfl (by decide) rfl rfl rfl rfl (Nat.le_of_ble_eq_true rfl) (c_read hT htB) ?_
  rintro _ _ ⟨hq, hO⟩
  rw [hr] at hq
  obtain ⟨rfl, hq2⟩ := hq
  refine R_bipush (v := -4) dX7_layScript_7 rfl ?_
  refine R_icmp_ne (tgt := 26) dX7_layScript_9 (by decide) (fun h_9 => ?_) (fun h_9 => by exact absurd h_9 (fun z => by have := congrArg Int32.toInt z; rw [nI_toInt (by omega)] at this; have h1 : ((-4 : Int32)).toInt = -4 := rfl; omega))
  refine R_bipush (v := -2) dX7_layScript_26 rfl ?_
  refine R_ireturn dX7_layScript_28 rfl rfl ?_
  have hl : rLay s = (-2, s) := by unfold rLay; rw [hr]
  rw [hl]
  exact ⟨rfl, (hI.dr hO).mono (by omega)⟩
set_option maxRecDepth 100000 in
set_option maxHeartbeats 4000000 in
theorem c_lay1 {vb : Nat} {M : qMem} {s : sT} (hI : XI vb M s) (hvb : vb < 2000000000) {d : dT} (hr : rdR (sX s) = .inr d) : qSem 0 mX7_layScript [.ref 0] M (fun r N => r = some (.int (rLay s).1) ∧ XI (vb + 1) N (rLay s).2) := by
  have hT := hI.2.2.2.2.2.2.1
  have htB := hI.2.2.2.2.2.2.2.1
  obtain ⟨hDB, hD4⟩ := rdR_G hr
  have hK6 := hDB.2.1
  refine qSem.of (by decide +kernel) (Nat.le_of_ble_eq_true rfl) (fun w => ?_)
  refine R_ls (L' := [(0, .ref 0)]) (qs1 rfl qs0) ?_
  refine R_aload_n dX7_layScript_0 rfl ?_
  refine R_getR dX7_layScript_1 lg_RX7_12 (by decide) rfl rfl ?_
  refine R_callV (mc := mX4_read) (As := []) (r := 1) dX7_layScript_4 lm_RX7_81 mv_X4_read rfl (by decide) rfl rfl rfl rfl (Nat.le_of_ble_eq_true rfl) (c_read hT htB) ?_
  rintro _ _ ⟨hq, hO⟩
  rw [hr] at hq
  obtain ⟨rfl, hq2⟩ := hq
  refine R_bipush (v := -4) dX7_layScript_7 rfl ?_
  refine R_icmp_ne (tgt := 26) dX7_layScript_9 (by decide) (fun h_9 => by exact absurd rfl h_9) (fun h_9 => ?_)
  refine R_aload_n dX7_layScript_12 rfl ?_
  refine R_getR dX7_layScript_13 lg_RX7_12 (by decide) rfl rfl ?_
  refine R_callV (mc := mX4_draft) (As := []) (r := 1) dX7_layScript_16 lm_RX7_84 mv_X4_draft rfl (by decide) rfl rfl rfl rfl (Nat.le_of_ble_eq_true rfl) c_draft ?_
  rintro _ _ ⟨rfl, rfl⟩
  refine R_callV (mc := mX3_stations) (As := []) (r := 3) dX7_layScript_19 lm_RX7_88 mv_X3_stations rfl (by decide) rfl rfl rfl rfl (Nat.le_of_ble_eq_true rfl) c_stations_3 ?_
  rintro _ _ ⟨rfl, rfl⟩
  refine R_top (y := nI (dK d)) hq2.2.1 ?_
  refine R_iconst (v := nI 2) dX7_layScript_22 rfl ?_
  refine R_icmp_geN (tgt := 29) dX7_layScript_23 (by decide) (by omega) (by omega) (fun h_23 => ?_) (fun h_23 => ?_)
  · refine R_aload_n dX7_layScript_29 rfl ?_
    refine R_getR dX7_layScript_30 lg_RX7_19 (by decide) rfl rfl ?_
    refine R_aload_n dX7_layScript_33 rfl ?_
    refine R_getR dX7_layScript_34 lg_RX7_12 (by decide) rfl rfl ?_
    refine R_callV (mc := mX4_draft) (As := []) (r := 1) dX7_layScript_37 lm_RX7_84 mv_X4_draft rfl (by decide) rfl rfl rfl rfl (Nat.le_of_ble_eq_true rfl) c_draft ?_
    rintro _ _ ⟨rfl, rfl⟩
    refine R_callV (mc := mX3_copyFrom) (As := [_]) (r := 14) dX7_layScript_40 lm_RX7_91 mv_X3_copyFrom rfl (by decide) rfl rfl rfl rfl (Nat.le_of_ble_eq_true rfl) (c_copyFrom hq2 hDB) ?_
    rintro _ _ ⟨rfl, hR, hO2, hv⟩
    refine R_aload_n dX7_layScript_43 rfl ?_
    refine R_getR dX7_layScript_44 lg_RX7_54 (by decide) rfl rfl ?_
    refine R_callV (mc := mX2_clear) (As := []) (r := 96) dX7_layScript_47 lm_RX7_95 mv_X2_clear rfl (by decide) rfl rfl rfl rfl (Nat.le_of_ble_eq_true rfl) c_gclear ?_
    rintro _ _ ⟨rfl, hL, hO3⟩
    refine R_aload_n dX7_layScript_50 rfl ?_
    refine R_getR dX7_layScript_51 lg_RX7_47 (by decide) rfl rfl ?_
    refine R_callV (mc := mX1_clear) (As := []) (r := 90) dX7_layScript_54 lm_RX7_96 mv_X1_clear rfl (by decide) rfl rfl rfl rfl (Nat.le_of_ble_eq_true rfl) (c_hclear (hI.2.2.2.2.1.off (fun o a b => by rw [(hO3 o (by unfold oLe; omega)).1, (hO2 o (by unfold oRe; omega)).1, (hO o (by unfold oDr; omega)).1]))) ?_
    rintro _ _ ⟨rfl, hH, hO4⟩
    refine R_aload_n dX7_layScript_57 rfl ?_
    refine R_getR dX7_layScript_58 lg_RX7_19 (by decide) rfl rfl ?_
    refine R_callV (mc := mX3_stations) (As := []) (r := 14) dX7_layScript_61 lm_RX7_88 mv_X3_stations rfl (by decide) rfl rfl rfl rfl (Nat.le_of_ble_eq_true rfl) c_stations_14 ?_
    rintro _ _ ⟨rfl, rfl⟩
    refine R_top (y := nI (dK d)) (by rw [(hO4 14 (by unfold oHi; omega)).1, (hO3 14 (by unfold oLe; omega)).1]; exact hR.2.1) ?_
    refine R_ireturn dX7_layScript_64 rfl rfl ?_
    have hl : rLay s = (nI (dK d), (d, [], [], sX s)) := by unfold rLay; rw [hr]; exact if_neg (by omega)
    rw [hl]
    refine ⟨rfl, ?_⟩
    have e := @lay_e _ _ _ _ _ hO hO2 hO3 hO4
    have e14 := @lay_e4 _ _ _ hO3 hO4
    refine hI.chg (s' := (d, [], [], sX s)) hvb (hR.off hK6 (fun o a b => e14 (by omega))) hDB ⟨hD4 (by show 2 ≤ dK d; omega), by show 2 ≤ dK d; omega⟩ ?_ ?_ ?_ hH (hL.off (fun o a b => (hO4 o (by unfold oHi; omega)).1)) (hT.off (e (o := 1) (by omega)).1 (e (o := 2) (by omega)).1) htB (by exact True.intro)
    · rw [e14 (o := 14) (by omega), hv, (hO 14 (by unfold oDr; omega)).1]
    · rw [(e (o := 36) (by omega)).1]
    · exact hI.2.2.2.1.off (fun o ho => (e (o := o) (by omega)).2)
  · refine R_bipush (v := -2) dX7_layScript_26 rfl ?_
    refine R_ireturn dX7_layScript_28 rfl rfl ?_
    have hl : rLay s = (-2, s) := by unfold rLay; rw [hr]; exact if_pos (by omega)
    rw [hl]
    exact ⟨rfl, (hI.dr hO).mono (by omega)⟩

theorem c_lay {vb : Nat} {M : qMem} {s : sT} (hI : XI vb M s) (hvb : vb < 2000000000) : qSem 0 mX7_layScript [.ref 0] M (fun r N => r = some (.int (rLay s).1) ∧ XI (vb + 1) N (rLay s).2) := by
  cases h : rdR (sX s) with
  | inl f => exact c_lay0 hI h
  | inr d => exact c_lay1 hI hvb h
set_option maxRecDepth 100000 in
set_option maxHeartbeats 4000000 in
theorem o_lay {vb : Nat} {M : qMem} {s : sT} (hI : XI vb M s) (hvb : vb < 2000000000) : qSem 0 mX7_lay [.ref 0] M (fun r N => r = some (.int (rLay s).1) ∧ XI (vb + 1) N (rLay s).2) := by
  refine qSem.of (by decide +kernel) (Nat.le_of_ble_eq_true rfl) (fun w => ?_)
  refine R_ls (L' := [(0, .ref 0)]) (qs1 rfl qs0) ?_
  refine R_aload_n dX7_lay_0 rfl ?_
  refine R_callV (mc := mX7_layScript) (As := []) (r := 0) dX7_lay_1 lm_RX7_74 mv_X7_layScript rfl (by decide) rfl rfl rfl rfl (Nat.le_of_ble_eq_true rfl) (c_lay hI hvb) ?_
  rintro _ _ ⟨rfl, hI2⟩
  refine R_ireturn dX7_lay_4 rfl rfl ?_
  exact ⟨rfl, hI2⟩
