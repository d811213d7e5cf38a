
-- ===== the model: reading =====
set_option maxRecDepth 100000 in
set_option maxHeartbeats 4000000 in
theorem m_let {M : qMem} {tx : List Nat} (hT : MT M tx) (hB : txB tx) {i : Nat} (hi : i < 1000) : qSem 1 mX8_letterAt [.ref 0, .int (nI i)] M (qr (nI (lt tx i)) M) := by
  have h200 := hB.1
  refine qSem.of (by decide +kernel) (Nat.le_of_ble_eq_true rfl) (fun w => ?_)
  refine R_ls (L' := [(0, .ref 0), (1, .int (nI i))]) (qs1 rfl (qs1 rfl qs0)) ?_
  refine R_iload_n dX8_letterAt_0 rfl ?_
  refine R_aload_n dX8_letterAt_1 rfl ?_
  refine R_getI dX8_letterAt_2 (lf_RX8_102).get (by decide) rfl rfl ?_
  refine R_top (y := nI tx.length) hT.1 ?_
  refine R_icmp_geN (tgt := 17) dX8_letterAt_5 (by decide) (by omega) (by omega) (fun h_5 => ?_) (fun h_5 => ?_)
  · refine R_iconst (v := nI 0) dX8_letterAt_17 rfl ?_
    refine R_ireturn dX8_letterAt_18 rfl rfl ?_
    exact ⟨by rw [lt_out (by omega)], rfl⟩
  · refine R_aload_n dX8_letterAt_8 rfl ?_
    refine R_getR dX8_letterAt_9 lg_RX8_7 (by decide) rfl rfl ?_
    refine R_iload_n dX8_letterAt_12 rfl ?_
    refine R_ialdN dX8_letterAt_13 (by decide) rfl (by omega) (by decide) ?_
    refine R_top (y := nI (lt tx i)) (hT.2 i h_5) ?_
    refine R_goto (tgt := 18) dX8_letterAt_14 (by decide) ?_
    refine R_ireturn dX8_letterAt_18 rfl rfl ?_
    exact ⟨rfl, rfl⟩
set_option maxRecDepth 100000 in
set_option maxHeartbeats 4000000 in
theorem m_ends {M : qMem} {tx : List Nat} (hT : MT M tx) (hB : txB tx) {a : Nat} (ha : a < 900) (h15 : M.1 0 15 = nI a) : qSem 1 mX8_ends [.ref 0] M (fun v N => N = qIs M 0 15 (nI (a + 1)) ∧ ((v = some (.int (nI 1)) ∧ lt tx a = 59) ∨ (v = some (.int (nI 0)) ∧ ¬ lt tx a = 59))) := by
  have hla : lt tx a ≤ 126 := by rcases Nat.lt_or_ge a tx.length with z | z; exact (hB.2 a z).2; rw [lt_out z]; omega
  refine qSem.of (by decide +kernel) (Nat.le_of_ble_eq_true rfl) (fun w => ?_)
  refine R_ls (L' := [(0, .ref 0)]) (qs1 rfl qs0) ?_
  refine R_aload_n dX8_ends_0 rfl ?_
  refine R_dup dX8_ends_1 rfl ?_
  refine R_getI dX8_ends_2 (lf_RX8_105).get (by decide) rfl rfl ?_
  refine R_top (y := nI a) h15 ?_
  refine R_iconst (v := nI 1) dX8_ends_5 rfl ?_
  refine R_iaddN dX8_ends_6 ?_
  refine R_putI dX8_ends_7 lf_RX8_105 (by decide) rfl rfl rfl rfl ?_
  refine R_aload_n dX8_ends_10 rfl ?_
  refine R_aload_n dX8_ends_11 rfl ?_
  refine R_getI dX8_ends_12 (lf_RX8_105).get (by decide) rfl rfl ?_
  refine R_top (y := nI (a + 1)) (by rw [qIs_eq]) ?_
  refine R_iconst (v := nI 1) dX8_ends_15 rfl ?_
  refine R_isubN dX8_ends_16 (by omega) ?_
  refine R_top (y := nI a) rfl ?_
  refine R_callV (mc := mX8_letterAt) (As := [_]) (r := 0) dX8_ends_17 lm_RX8_108 mv_X8_letterAt rfl (by decide) rfl rfl rfl rfl (Nat.le_of_ble_eq_true rfl) (m_let (i := a) (hT.off (by rw [qIs_nk (by decide)]) (by rw [qIs_no (by decide)])) hB (by omega)) ?_
  rintro _ _ ⟨rfl, rfl⟩
  refine R_bipush (v := nI 59) dX8_ends_20 rfl ?_
  refine R_icmp_neN (tgt := 29) dX8_ends_22 (by decide) (by omega) (by omega) (fun h_22 => ?_) (fun h_22 => ?_)
  · refine R_iconst (v := nI 0) dX8_ends_29 rfl ?_
    refine R_ireturn dX8_ends_30 rfl rfl ?_
    exact ⟨rfl, Or.inr ⟨rfl, h_22⟩⟩
  · refine R_iconst (v := nI 1) dX8_ends_25 rfl ?_
    refine R_goto (tgt := 30) dX8_ends_26 (by decide) ?_
    refine R_ireturn dX8_ends_30 rfl rfl ?_
    exact ⟨rfl, Or.inl ⟨rfl, h_22⟩⟩
