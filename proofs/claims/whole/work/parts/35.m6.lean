set_option maxRecDepth 100000 in
set_option maxHeartbeats 4000000 in
theorem n_split {M : qMem} {d : dT} (hX : MR M d) (hB : dB d) (hK2 : 2 ≤ dK d) (hY4 : 4 ≤ dY d) {u v i : Int32} : qSem 1 mX8_split [.ref 0, .int (u), .int (v), .int (i)] M (fun v_ N => v_ = some (.int (aSplit d u v i)) ∧ cOff sSc M N) := by
  have hK6 := hB.2.1
  have hY16 := hB.1
  refine qSem.of (by decide +kernel) (Nat.le_of_ble_eq_true rfl) (fun w => ?_)
  refine R_ls (L' := [(0, .ref 0), (1, .int (u)), (2, .int (v)), (3, .int (i))]) (qs1 rfl (qs1 rfl (qs1 rfl (qs1 rfl qs0)))) ?_
  refine R_aload_n dX8_split_0 rfl ?_
  refine R_iload_n dX8_split_1 rfl ?_
  refine R_iload_n dX8_split_2 rfl ?_
  refine R_callV (mc := mX8_areTwo) (As := [_, _]) (r := 0) dX8_split_3 lm_RX8_210 mv_X8_areTwo rfl (by decide) rfl rfl rfl rfl (Nat.le_of_ble_eq_true rfl) (m_two hX hB hK2 hY4) ?_
  rintro _ _ ⟨rfl, ⟨rfl, htw⟩ | ⟨rfl, htw⟩⟩
  · have htw2 := htw
    obtain ⟨⟨cu, hu, rfl⟩, ⟨cv, hv, rfl⟩, hne⟩ : (∃ j, j < dK d ∧ u = nI j) ∧ (∃ j, j < dK d ∧ v = nI j) ∧ ¬ u = v := ⟨inN_o (by omega) htw.1, inN_o (by omega) htw.2.1, htw.2.2⟩
    refine R_if_eqN (tgt := 14) dX8_split_6 (by decide) (by omega) (fun h_6 => by exact absurd h_6 (by decide)) (fun h_6 => ?_)
    refine R_iload_n dX8_split_9 rfl ?_
    refine R_iconst (v := -1) dX8_split_10 rfl ?_
    refine R_icmp_ge (tgt := 16) dX8_split_11 (by decide) (fun h_11 => ?_) (fun h_11 => ?_)
    · refine R_aload_n dX8_split_16 rfl ?_
      refine R_iload_n dX8_split_17 rfl ?_
      refine R_iload_n dX8_split_18 rfl ?_
      refine R_callV (mc := mX8_findBest) (As := [_, _]) (r := 0) dX8_split_19 lm_RX8_245 mv_X8_findBest rfl (by decide) rfl rfl rfl rfl (Nat.le_of_ble_eq_true rfl) (m_best hX hB hK2 hY4 hu hv) ?_
      rintro _ _ ⟨rfl, ⟨hS, hA, h20, h13⟩, hO1⟩
      have hl16 := hS.2.1
      have hb15 : bN d cu cv ≤ 15 := bN_le d cu cv
      have hX1 := hX.sc hO1
      refine R_iload_n dX8_split_22 rfl ?_
      refine R_if_ge (tgt := 33) dX8_split_23 (by decide) (fun h_23 => ?_) (fun h_23 => ?_)
      · have h_31 : ¬ i = -1 := fun e => by rw [e] at h_23; revert h_23; decide
        obtain ⟨ci, hci, rfl⟩ := q_gem1 h_11 h_31
        refine R_iload_n dX8_split_33 rfl ?_
        refine R_aload_n dX8_split_34 rfl ?_
        refine R_getI dX8_split_35 (lf_RX8_240).get (by decide) rfl rfl ?_
        refine R_top (y := nI (bN d cu cv)) h20 ?_
        refine R_icmp_geN (tgt := 55) dX8_split_38 (by decide) (by omega) (by omega) (fun h_50 => ?_) (fun h_50 => ?_)
        · refine R_bipush (v := -4) dX8_split_55 rfl ?_
          refine R_ireturn dX8_split_57 rfl rfl ?_
          exact ⟨by unfold aSplit; rw [if_pos ⟨htw2, h_11⟩, if_neg h_31, kn_n (by omega), kn_n (by omega), if_neg (nI_nlt h_50 (by omega))], hO1⟩
        · have hsp := stN_pos (l := ser d cu cv) (R := dR d 0) (p := dR d 4) (m := ci) hB.2.2.2.1.1 hl16 h_50
          refine R_aload_n dX8_split_41 rfl ?_
          refine R_getR dX8_split_42 lg_RX8_41 (by decide) rfl rfl ?_
          refine R_aload_n dX8_split_45 rfl ?_
          refine R_getR dX8_split_46 lg_RX8_47 (by decide) rfl rfl ?_
          refine R_iload_n dX8_split_49 rfl ?_
          refine R_ialdN dX8_split_50 (by decide) rfl (by omega) (by decide) ?_
          refine R_top (y := nI (stN (ser d cu cv) (dR d 0) (dR d 4) (ci + 1))) (h13 ci h_50) ?_
          refine R_ialdN dX8_split_51 (by decide) rfl (by omega) (by decide) ?_
          refine R_top (y := nI (bY d cu cv ci)) (hS.2.2 _ hsp).2 ?_
          refine R_goto (tgt := 57) dX8_split_52 (by decide) ?_
          refine R_ireturn dX8_split_57 rfl rfl ?_
          exact ⟨by unfold aSplit; rw [if_pos ⟨htw2, h_11⟩, if_neg h_31, kn_n (by omega), kn_n (by omega), if_pos (nI_lt h_50 (by omega)), kn_n (by omega)], hO1⟩
      · have h_31 : i = -1 := by have h1 := Int32.not_le.mp h_23; rw [Int32.lt_iff_toInt_lt] at h1; have h2 := h_11; rw [Int32.le_iff_toInt_le] at h2; exact Int32.toInt_inj.mp (by have e1 : (-1 : Int32).toInt = -1 := rfl; have e0 : (0 : Int32).toInt = 0 := rfl; omega)
        refine R_aload_n dX8_split_26 rfl ?_
        refine R_getI dX8_split_27 (lf_RX8_240).get (by decide) rfl rfl ?_
        refine R_top (y := nI (bN d cu cv)) h20 ?_
        refine R_goto (tgt := 57) dX8_split_30 (by decide) ?_
        refine R_ireturn dX8_split_57 rfl rfl ?_
        exact ⟨by unfold aSplit; rw [if_pos ⟨htw2, h_11⟩, if_pos h_31, kn_n (by omega), kn_n (by omega)], hO1⟩
    · refine R_iconst (v := -1) dX8_split_14 rfl ?_
      refine R_ireturn dX8_split_15 rfl rfl ?_
      exact ⟨by unfold aSplit; rw [if_neg (fun h => by first | exact htw h.1 | exact h_11 h.2)], cOff.rf⟩
  · refine R_if_eqN (tgt := 14) dX8_split_6 (by decide) (by omega) (fun h_6 => ?_) (fun h_6 => by exact absurd h_6 (by decide))
    refine R_iconst (v := -1) dX8_split_14 rfl ?_
    refine R_ireturn dX8_split_15 rfl rfl ?_
    exact ⟨by unfold aSplit; rw [if_neg (fun h => by first | exact htw h.1 | exact h_11 h.2)], cOff.rf⟩
set_option maxRecDepth 100000 in
set_option maxHeartbeats 4000000 in
theorem n_cost {M : qMem} {d : dT} (hX : MR M d) (hB : dB d) (hK2 : 2 ≤ dK d) (hY4 : 4 ≤ dY d) {u v : Int32} : qSem 1 mX8_cost [.ref 0, .int (u), .int (v)] M (fun v_ N => v_ = some (.long (aCost d u v)) ∧ cOff sSc M N) := by
  have hK6 := hB.2.1
  have hY16 := hB.1
  refine qSem.of (by decide +kernel) (Nat.le_of_ble_eq_true rfl) (fun w => ?_)
  refine R_ls (L' := [(0, .ref 0), (1, .int (u)), (2, .int (v))]) (qs1 rfl (qs1 rfl (qs1 rfl qs0))) ?_
  refine R_aload_n dX8_cost_0 rfl ?_
  refine R_iload_n dX8_cost_1 rfl ?_
  refine R_iload_n dX8_cost_2 rfl ?_
  refine R_callV (mc := mX8_areTwo) (As := [_, _]) (r := 0) dX8_cost_3 lm_RX8_210 mv_X8_areTwo rfl (by decide) rfl rfl rfl rfl (Nat.le_of_ble_eq_true rfl) (m_two hX hB hK2 hY4) ?_
  rintro _ _ ⟨rfl, ⟨rfl, htw⟩ | ⟨rfl, htw⟩⟩
  · have htw2 := htw
    obtain ⟨⟨cu, hu, rfl⟩, ⟨cv, hv, rfl⟩, hne⟩ : (∃ j, j < dK d ∧ u = nI j) ∧ (∃ j, j < dK d ∧ v = nI j) ∧ ¬ u = v := ⟨inN_o (by omega) htw.1, inN_o (by omega) htw.2.1, htw.2.2⟩
    refine R_if_neN (tgt := 13) dX8_cost_6 (by decide) (by omega) (fun h_6 => ?_) (fun h_6 => by exact absurd h_6 (by decide))
    refine R_aload_n dX8_cost_13 rfl ?_
    refine R_iload_n dX8_cost_14 rfl ?_
    refine R_iload_n dX8_cost_15 rfl ?_
    refine R_callV (mc := mX8_findBest) (As := [_, _]) (r := 0) dX8_cost_16 lm_RX8_245 mv_X8_findBest rfl (by decide) rfl rfl rfl rfl (Nat.le_of_ble_eq_true rfl) (m_best hX hB hK2 hY4 hu hv) ?_
    rintro _ _ ⟨rfl, ⟨hS, hA, h20, h13⟩, hO1⟩
    have hl16 := hS.2.1
    have hb15 : bN d cu cv ≤ 15 := bN_le d cu cv
    have hX1 := hX.sc hO1
    refine R_aload_n dX8_cost_19 rfl ?_
    refine R_getR dX8_cost_20 lg_RX8_44 (by decide) rfl rfl ?_
    refine R_bipush (v := nI 17) dX8_cost_23 rfl ?_
    refine R_aload_n dX8_cost_25 rfl ?_
    refine R_getI dX8_cost_26 (lf_RX8_240).get (by decide) rfl rfl ?_
    refine R_top (y := nI (bN d cu cv)) h20 ?_
    refine R_imulN dX8_cost_29 ?_
    obtain ⟨s0, hs0⟩ := Option.isSome_iff_exists.mp (bk_spec (ser d cu cv).length (dR d 0) (fz (ser d cu cv)) (sP (dR d 4)) (i := 0) (Or.inl rfl) 15).1
    refine R_laldN dX8_cost_30 (by decide) rfl (by omega) (by decide) ?_
    refine R_topL (y := Int64.ofInt s0) ((hA (bN d cu cv) 0 (by omega) (by omega)).trans (by show encF (rst _ _ _ (bN d cu cv) 0) = _; rw [show rst (ser d cu cv).length (dR d 0) (fz (ser d cu cv)) (bN d cu cv) 0 = some s0 from hs0]; rfl)) ?_
    refine R_ldc2 dX8_cost_31 lc_RX8_223 ?_
    refine R_aload_n dX8_cost_34 rfl ?_
    refine R_getR dX8_cost_35 lg_RX8_19 (by decide) rfl rfl ?_
    refine R_bipush (v := nI 96) dX8_cost_38 rfl ?_
    refine R_ialdN dX8_cost_40 (by decide) rfl (by omega) (by decide) ?_
    refine R_top (y := nI (dR d 4)) hX1.p ?_
    refine R_i2l dX8_cost_41 ?_
    refine R_lmul dX8_cost_42 ?_
    refine R_aload_n dX8_cost_43 rfl ?_
    refine R_getI dX8_cost_44 (lf_RX8_240).get (by decide) rfl rfl ?_
    refine R_top (y := nI (bN d cu cv)) h20 ?_
    refine R_i2l dX8_cost_47 ?_
    refine R_lmul dX8_cost_48 ?_
    refine R_ladd dX8_cost_49 ?_
    refine R_lreturn dX8_cost_50 rfl ?_
    exact ⟨by unfold aCost; rw [if_pos htw2, kn_n (by omega), kn_n (by omega), cst_v (k := bN d cu cv) (by omega) hB.2.2.2.2.2.2.2 hs0], hO1⟩
  · refine R_if_neN (tgt := 13) dX8_cost_6 (by decide) (by omega) (fun h_6 => by exact absurd h_6 (by decide)) (fun h_6 => ?_)
    refine R_ldc2 dX8_cost_9 lc_RX8_243 ?_
    refine R_lreturn dX8_cost_12 rfl ?_
    exact ⟨by unfold aCost; rw [if_neg htw], cOff.rf⟩
set_option maxRecDepth 100000 in
set_option maxHeartbeats 4000000 in
theorem n_spreads {M : qMem} {d : dT} (hX : MR M d) (hB : dB d) (hK2 : 2 ≤ dK d) (hY4 : 4 ≤ dY d) {u v k : Int32} : qSem 1 mX8_spreads [.ref 0, .int (u), .int (v), .int (k)] M (fun v_ N => v_ = some (.long (aSpreads d u v k)) ∧ cOff sSc M N) := by
  have hK6 := hB.2.1
  have hY16 := hB.1
  refine qSem.of (by decide +kernel) (Nat.le_of_ble_eq_true rfl) (fun w => ?_)
  refine R_ls (L' := [(0, .ref 0), (1, .int (u)), (2, .int (v)), (3, .int (k))]) (qs1 rfl (qs1 rfl (qs1 rfl (qs1 rfl qs0)))) ?_
  refine R_aload_n dX8_spreads_0 rfl ?_
  refine R_iload_n dX8_spreads_1 rfl ?_
  refine R_iload_n dX8_spreads_2 rfl ?_
  refine R_callV (mc := mX8_areTwo) (As := [_, _]) (r := 0) dX8_spreads_3 lm_RX8_210 mv_X8_areTwo rfl (by decide) rfl rfl rfl rfl (Nat.le_of_ble_eq_true rfl) (m_two hX hB hK2 hY4) ?_
  rintro _ _ ⟨rfl, ⟨rfl, htw⟩ | ⟨rfl, htw⟩⟩
  · have htw2 := htw
    obtain ⟨⟨cu, hu, rfl⟩, ⟨cv, hv, rfl⟩, hne⟩ : (∃ j, j < dK d ∧ u = nI j) ∧ (∃ j, j < dK d ∧ v = nI j) ∧ ¬ u = v := ⟨inN_o (by omega) htw.1, inN_o (by omega) htw.2.1, htw.2.2⟩
    refine R_if_eqN (tgt := 13) dX8_spreads_6 (by decide) (by omega) (fun h_6 => by exact absurd h_6 (by decide)) (fun h_6 => ?_)
    refine R_iload_n dX8_spreads_9 rfl ?_
    refine R_if_ge (tgt := 17) dX8_spreads_10 (by decide) (fun h_10 => ?_) (fun h_10 => ?_)
    · have h_10k : ¬ k < 0 := Int32.not_lt.mpr h_10
      have h_10n := h_10k
      obtain ⟨c3, hck, rfl⟩ := q_ge0 h_10n
      refine R_aload_n dX8_spreads_17 rfl ?_
      refine R_iload_n dX8_spreads_18 rfl ?_
      refine R_iload_n dX8_spreads_19 rfl ?_
      refine R_callV (mc := mX8_learn) (As := [_, _]) (r := 0) dX8_spreads_20 lm_RX8_234 mv_X8_learn rfl (by decide) rfl rfl rfl rfl (Nat.le_of_ble_eq_true rfl) (m_learn hX hB hK2 hY4 hu hv) ?_
      rintro _ _ ⟨rfl, hS, hA, hO1⟩
      have hX1 := hX.sc hO1
      have hl16 := hS.2.1
      refine R_iload_n dX8_spreads_23 rfl ?_
      refine R_bipush (v := nI 16) dX8_spreads_24 rfl ?_
      refine R_icmp_geN (tgt := 57) dX8_spreads_26 (by decide) (by omega) (by omega) (fun h_26 => ?_) (fun h_26 => ?_)
      · refine R_ldc2 dX8_spreads_57 lc_RX8_248 ?_
        refine R_lreturn dX8_spreads_60 rfl ?_
        exact ⟨by unfold aSpreads; rw [if_pos ⟨htw2, h_10k⟩, kn_n (by omega), kn_n (by omega), kn_n (by omega)]; unfold spL; rw [rst_out hB.2.2.2.1.1 (by omega) (by omega)], hO1⟩
      · refine R_aload_n dX8_spreads_29 rfl ?_
        refine R_getR dX8_spreads_30 lg_RX8_44 (by decide) rfl rfl ?_
        refine R_bipush (v := nI 17) dX8_spreads_33 rfl ?_
        refine R_iload_n dX8_spreads_35 rfl ?_
        refine R_imulN dX8_spreads_36 ?_
        refine R_laldN dX8_spreads_37 (by decide) rfl (by omega) (by decide) ?_
        refine R_topL (y := encF (rst (ser d cu cv).length (dR d 0) (fz (ser d cu cv)) c3 0)) (hA c3 0 (by omega) (by omega)) ?_
        refine R_ldc2 dX8_spreads_38 lc_RX8_229 ?_
        refine R_lc_ge (tgt := 57) dX8_spreads_41 dX8_spreads_42 (by decide) (fun h_41 => ?_) (fun h_41 => ?_)
        · refine R_ldc2 dX8_spreads_57 lc_RX8_248 ?_
          refine R_lreturn dX8_spreads_60 rfl ?_
          exact ⟨by unfold aSpreads; rw [if_pos ⟨htw2, h_10k⟩, kn_n (by omega), kn_n (by omega), kn_n (by omega)]; unfold spL; rw [(encF_ge (rst_ok (ser_b hB cu cv) hl16 (by omega))).mp h_41], hO1⟩
        · refine R_aload_n dX8_spreads_45 rfl ?_
          refine R_getR dX8_spreads_46 lg_RX8_44 (by decide) rfl rfl ?_
          refine R_bipush (v := nI 17) dX8_spreads_49 rfl ?_
          refine R_iload_n dX8_spreads_51 rfl ?_
          refine R_imulN dX8_spreads_52 ?_
          refine R_laldN dX8_spreads_53 (by decide) rfl (by omega) (by decide) ?_
          refine R_topL (y := encF (rst (ser d cu cv).length (dR d 0) (fz (ser d cu cv)) c3 0)) (hA c3 0 (by omega) (by omega)) ?_
          refine R_goto (tgt := 60) dX8_spreads_54 (by decide) ?_
          refine R_lreturn dX8_spreads_60 rfl ?_
          obtain ⟨s1, hs1⟩ := encF_some (rst_ok (ser_b hB cu cv) hl16 (by omega)) h_41
          exact ⟨by unfold aSpreads; rw [if_pos ⟨htw2, h_10k⟩, kn_n (by omega), kn_n (by omega), kn_n (by omega)]; unfold spL; rw [hs1]; rfl, hO1⟩
    · refine R_ldc2 dX8_spreads_13 lc_RX8_243 ?_
      refine R_lreturn dX8_spreads_16 rfl ?_
      exact ⟨by unfold aSpreads; rw [if_neg (fun h => by first | exact htw h.1 | exact h_10 (Int32.not_lt.mp h.2))], cOff.rf⟩
  · refine R_if_eqN (tgt := 13) dX8_spreads_6 (by decide) (by omega) (fun h_6 => ?_) (fun h_6 => by exact absurd h_6 (by decide))
    refine R_ldc2 dX8_spreads_13 lc_RX8_243 ?_
    refine R_lreturn dX8_spreads_16 rfl ?_
    exact ⟨by unfold aSpreads; rw [if_neg (fun h => by first | exact htw h.1 | exact h_10 (Int32.not_lt.mp h.2))], cOff.rf⟩

theorem in_pen {p : Int32} : (0 ≤ p.toInt64 ∧ p.toInt64 ≤ 99999) ↔ isPn p = true := by
  rw [show (0 : Int64) = (0 : Int32).toInt64 from rfl, show (99999 : Int64) = (99999 : Int32).toInt64 from rfl, in64]
  unfold isPn
  rw [Bool.and_eq_true, decide_eq_true_eq, decide_eq_true_eq]
set_option maxRecDepth 100000 in
set_option maxHeartbeats 4000000 in
theorem n_breaks {M : qMem} {d : dT} (hX : MR M d) (hB : dB d) (hK2 : 2 ≤ dK d) (hY4 : 4 ≤ dY d) {u v p : Int32} : qSem 1 mX8_breaks [.ref 0, .int (u), .int (v), .int (p)] M (fun v_ N => v_ = some (.int (aBreaks d u v p)) ∧ cOff sSc M N) := by
  have hK6 := hB.2.1
  have hY16 := hB.1
  refine qSem.of (by decide +kernel) (Nat.le_of_ble_eq_true rfl) (fun w => ?_)
  refine R_ls (L' := [(0, .ref 0), (1, .int (u)), (2, .int (v)), (3, .int (p))]) (qs1 rfl (qs1 rfl (qs1 rfl (qs1 rfl qs0)))) ?_
  refine R_aload_n dX8_breaks_0 rfl ?_
  refine R_iload_n dX8_breaks_1 rfl ?_
  refine R_iload_n dX8_breaks_2 rfl ?_
  refine R_callV (mc := mX8_areTwo) (As := [_, _]) (r := 0) dX8_breaks_3 lm_RX8_210 mv_X8_areTwo rfl (by decide) rfl rfl rfl rfl (Nat.le_of_ble_eq_true rfl) (m_two hX hB hK2 hY4) ?_
  rintro _ _ ⟨rfl, ⟨rfl, htw⟩ | ⟨rfl, htw⟩⟩
  · have htw2 := htw
    obtain ⟨⟨cu, hu, rfl⟩, ⟨cv, hv, rfl⟩, hne⟩ : (∃ j, j < dK d ∧ u = nI j) ∧ (∃ j, j < dK d ∧ v = nI j) ∧ ¬ u = v := ⟨inN_o (by omega) htw.1, inN_o (by omega) htw.2.1, htw.2.2⟩
    refine R_if_eqN (tgt := 21) dX8_breaks_6 (by decide) (by omega) (fun h_6 => by exact absurd h_6 (by decide)) (fun h_6 => ?_)
    refine R_iload_n dX8_breaks_9 rfl ?_
    refine R_i2l dX8_breaks_10 ?_
    refine R_lconst (v := 0) dX8_breaks_11 rfl ?_
    refine R_ldc2 dX8_breaks_12 lc_RX8_188 ?_
    refine R_callS (mc := mX8_in) (As := [_, _, _]) dX8_breaks_15 lm_RX8_98 mv_X8_in rfl rfl rfl (Nat.le_of_ble_eq_true rfl) m_in ?_
    rintro _ _ ⟨rfl, ⟨rfl, hp⟩ | ⟨rfl, hp⟩⟩
    · have hp2 := in_pen.mp hp
      obtain ⟨q, hq, rfl⟩ := isPn_o hp2
      refine R_if_neN (tgt := 23) dX8_breaks_18 (by decide) (by omega) (fun h_18 => ?_) (fun h_18 => by exact absurd h_18 (by decide))
      refine R_aload_n dX8_breaks_23 rfl ?_
      refine R_iload_n dX8_breaks_24 rfl ?_
      refine R_iload_n dX8_breaks_25 rfl ?_
      refine R_callV (mc := mX8_learn) (As := [_, _]) (r := 0) dX8_breaks_26 lm_RX8_234 mv_X8_learn rfl (by decide) rfl rfl rfl rfl (Nat.le_of_ble_eq_true rfl) (m_learn hX hB hK2 hY4 hu hv) ?_
      rintro _ _ ⟨rfl, hS, hA, hO1⟩
      have hX1 := hX.sc hO1
      have hl16 := hS.2.1
      refine R_aload_n dX8_breaks_29 rfl ?_
      refine R_iload_n dX8_breaks_30 rfl ?_
      refine R_callV (mc := mX8_breaksBy) (As := [_]) (r := 0) dX8_breaks_31 lm_RX8_237 mv_X8_breaksBy rfl (by decide) rfl rfl rfl rfl (Nat.le_of_ble_eq_true rfl) (m_bb (ser_b hB cu cv) hl16 hB.2.2.2.1.1 hq hA) ?_
      rintro _ _ ⟨rfl, rfl⟩
      refine R_ireturn dX8_breaks_34 rfl rfl ?_
      exact ⟨by unfold aBreaks; rw [if_pos ⟨htw2, hp2⟩, kn_n (by omega), kn_n (by omega), kn_n (by omega)], hO1⟩
    · have hp2 := fun z => hp (in_pen.mpr z)
      refine R_if_neN (tgt := 23) dX8_breaks_18 (by decide) (by omega) (fun h_18 => by exact absurd h_18 (by decide)) (fun h_18 => ?_)
      refine R_iconst (v := -1) dX8_breaks_21 rfl ?_
      refine R_ireturn dX8_breaks_22 rfl rfl ?_
      exact ⟨by unfold aBreaks; rw [if_neg (fun h => by first | exact htw h.1 | exact hp2 h.2)], cOff.rf⟩
  · refine R_if_eqN (tgt := 21) dX8_breaks_6 (by decide) (by omega) (fun h_6 => ?_) (fun h_6 => by exact absurd h_6 (by decide))
    refine R_iconst (v := -1) dX8_breaks_21 rfl ?_
    refine R_ireturn dX8_breaks_22 rfl rfl ?_
    exact ⟨by unfold aBreaks; rw [if_neg (fun h => by first | exact htw h.1 | exact hp2 h.2)], cOff.rf⟩
set_option maxRecDepth 100000 in
set_option maxHeartbeats 4000000 in
theorem m_least {w : qWT} {M M0 : qMem} (hO1 : cOff sSc M0 M) {d : dT} {cu cv c3 : Nat} (hB : dB d) (hl16 : (ser d cu cv).length ≤ 16) (hA : LR M (ser d cu cv) (dR d 0)) (h3 : c3 < 2147483648) : ∀ (fu : Nat) (i : Nat), (100001 - i) < fu → (i ≤ 100000) → (∀ p, p < i → c3 < bkN (ser d cu cv) (dR d 0) p) → qRW 1 w mX8_least 24 [(0, .ref 0), (1, .int (nI cu)), (2, .int (nI cv)), (3, .int (nI c3)), (4, .int (nI i))] [] M (fun v_ N => v_ = some (.int (if lstF (ser d cu cv) (dR d 0) c3 < 100000 then nI (lstF (ser d cu cv) (dR d 0) c3) else -4)) ∧ cOff sSc M0 N) := by
  intro fu
  induction fu with
  | zero => intro i hn; exact absurd hn (Nat.not_lt_zero _)
  | succ fu ih =>
    intro i hn hi hlow
    refine R_iload dX8_least_24 rfl ?_
    refine R_ldc (v := nI 99999) dX8_least_26 lc_RX8_83 ?_
    refine R_icmp_gtN (tgt := 50) dX8_least_28 (by decide) (by omega) (by omega) (fun h_28 => ?_) (fun h_28 => ?_)
    · refine R_bipush (v := -4) dX8_least_50 rfl ?_
      refine R_ireturn dX8_least_52 rfl rfl ?_
      have e0 : i = 100000 := by omega
      subst e0
      have e : lstF (ser d cu cv) (dR d 0) c3 = 100000 := lst_of hlow (fun p h1 h2 => by omega) (by omega)
      exact ⟨by rw [e]; rfl, hO1⟩
    · refine R_aload_n dX8_least_31 rfl ?_
      refine R_iload dX8_least_32 rfl ?_
      refine R_callV (mc := mX8_breaksBy) (As := [_]) (r := 0) dX8_least_34 lm_RX8_237 mv_X8_breaksBy rfl (by decide) rfl rfl rfl rfl (Nat.le_of_ble_eq_true rfl) (m_bb (ser_b hB cu cv) hl16 hB.2.2.2.1.1 (by omega) hA) ?_
      rintro _ _ ⟨rfl, rfl⟩
      have hb15 := bkN_le (ser d cu cv) (dR d 0) i
      refine R_iload_n dX8_least_37 rfl ?_
      refine R_icmp_gtN (tgt := 44) dX8_least_38 (by decide) (by omega) (by omega) (fun h_38 => ?_) (fun h_38 => ?_)
      · refine R_iincN (n := 1) (L' := [(0, .ref 0), (1, .int (nI cu)), (2, .int (nI cv)), (3, .int (nI c3)), (4, .int (nI (i + 1)))]) dX8_least_44 rfl (by decide) (qs1 rfl (qs1 rfl (qs1 rfl (qs1 rfl (qs1 rfl qs0))))) ?_
        refine R_goto (tgt := 24) dX8_least_47 (by decide) ?_
        refine R_ls (L' := [(0, .ref 0), (1, .int (nI cu)), (2, .int (nI cv)), (3, .int (nI c3)), (4, .int (nI (i + 1)))]) (qs1 rfl (qs1 rfl (qs1 rfl (qs1 rfl (qs1 rfl qs0))))) ?_
        exact (ih (i + 1) (by omega) (by omega) (fun p hp => by rcases Nat.lt_or_ge p i with z | z; exact hlow p z; rw [show p = i by omega]; omega))
      · refine R_iload dX8_least_41 rfl ?_
        refine R_ireturn dX8_least_43 rfl rfl ?_
        have e : lstF (ser d cu cv) (dR d 0) c3 = i := lst_of hlow (fun p h1 h2 => Nat.le_trans (bkN_mono h1) (by omega)) (by omega)
        exact ⟨by rw [e, if_pos (by omega)], hO1⟩
set_option maxRecDepth 100000 in
set_option maxHeartbeats 4000000 in
theorem n_least {M : qMem} {d : dT} (hX : MR M d) (hB : dB d) (hK2 : 2 ≤ dK d) (hY4 : 4 ≤ dY d) {u v k : Int32} : qSem 1 mX8_least [.ref 0, .int (u), .int (v), .int (k)] M (fun v_ N => v_ = some (.int (aLeast d u v k)) ∧ cOff sSc M N) := by
  have hK6 := hB.2.1
  have hY16 := hB.1
  refine qSem.of (by decide +kernel) (Nat.le_of_ble_eq_true rfl) (fun w => ?_)
  refine R_ls (L' := [(0, .ref 0), (1, .int (u)), (2, .int (v)), (3, .int (k))]) (qs1 rfl (qs1 rfl (qs1 rfl (qs1 rfl qs0)))) ?_
  refine R_aload_n dX8_least_0 rfl ?_
  refine R_iload_n dX8_least_1 rfl ?_
  refine R_iload_n dX8_least_2 rfl ?_
  refine R_callV (mc := mX8_areTwo) (As := [_, _]) (r := 0) dX8_least_3 lm_RX8_210 mv_X8_areTwo rfl (by decide) rfl rfl rfl rfl (Nat.le_of_ble_eq_true rfl) (m_two hX hB hK2 hY4) ?_
  rintro _ _ ⟨rfl, ⟨rfl, htw⟩ | ⟨rfl, htw⟩⟩
  · have htw2 := htw
    obtain ⟨⟨cu, hu, rfl⟩, ⟨cv, hv, rfl⟩, hne⟩ : (∃ j, j < dK d ∧ u = nI j) ∧ (∃ j, j < dK d ∧ v = nI j) ∧ ¬ u = v := ⟨inN_o (by omega) htw.1, inN_o (by omega) htw.2.1, htw.2.2⟩
    refine R_if_eqN (tgt := 13) dX8_least_6 (by decide) (by omega) (fun h_6 => by exact absurd h_6 (by decide)) (fun h_6 => ?_)
    refine R_iload_n dX8_least_9 rfl ?_
    refine R_if_ge (tgt := 15) dX8_least_10 (by decide) (fun h_10 => ?_) (fun h_10 => ?_)
    · have h_10k : ¬ k < 0 := Int32.not_lt.mpr h_10
      have h_10n := h_10k
      obtain ⟨c3, hck, rfl⟩ := q_ge0 h_10n
      refine R_aload_n dX8_least_15 rfl ?_
      refine R_iload_n dX8_least_16 rfl ?_
      refine R_iload_n dX8_least_17 rfl ?_
      refine R_callV (mc := mX8_learn) (As := [_, _]) (r := 0) dX8_least_18 lm_RX8_234 mv_X8_learn rfl (by decide) rfl rfl rfl rfl (Nat.le_of_ble_eq_true rfl) (m_learn hX hB hK2 hY4 hu hv) ?_
      rintro _ _ ⟨rfl, hS, hA, hO1⟩
      have hX1 := hX.sc hO1
      have hl16 := hS.2.1
      refine R_iconst (v := nI 0) dX8_least_21 rfl ?_
      refine R_istore (L' := [(0, .ref 0), (1, .int (nI cu)), (2, .int (nI cv)), (3, .int (nI c3)), (4, .int (nI 0))]) dX8_least_22 (by decide) (qs1 rfl (qs1 rfl (qs1 rfl (qs1 rfl (qs1 rfl qs0))))) ?_
      rw [show aLeast d (nI cu) (nI cv) (nI c3) = (if lstF (ser d cu cv) (dR d 0) c3 < 100000 then nI (lstF (ser d cu cv) (dR d 0) c3) else -4) from by unfold aLeast; rw [if_pos ⟨htw2, h_10k⟩, kn_n (by omega), kn_n (by omega), kn_n (by omega)]]
      refine R_ls (L' := [(0, .ref 0), (1, .int (nI cu)), (2, .int (nI cv)), (3, .int (nI c3)), (4, .int (nI 0))]) (qs1 rfl (qs1 rfl (qs1 rfl (qs1 rfl (qs1 rfl qs0))))) ?_
      exact (m_least hO1 hB hl16 hA hck 100002 0 (by omega) (Nat.zero_le _) (fun p h => absurd h (Nat.not_lt_zero p)))
    · refine R_iconst (v := -1) dX8_least_13 rfl ?_
      refine R_ireturn dX8_least_14 rfl rfl ?_
      exact ⟨by unfold aLeast; rw [if_neg (fun h => by first | exact htw h.1 | exact h_10 (Int32.not_lt.mp h.2))], cOff.rf⟩
  · refine R_if_eqN (tgt := 13) dX8_least_6 (by decide) (by omega) (fun h_6 => ?_) (fun h_6 => by exact absurd h_6 (by decide))
    refine R_iconst (v := -1) dX8_least_13 rfl ?_
    refine R_ireturn dX8_least_14 rfl rfl ?_
    exact ⟨by unfold aLeast; rw [if_neg (fun h => by first | exact htw h.1 | exact h_10 (Int32.not_lt.mp h.2))], cOff.rf⟩
