set_option maxRecDepth 100000 in
set_option maxHeartbeats 4000000 in
theorem c_years_3 {M : qMem} : qSem 0 mX3_years [.ref 3] M (qr (M.1 3 0) M) := by
  refine qSem.of (by decide +kernel) (Nat.le_of_ble_eq_true rfl) (fun w => ?_)
  refine R_ls (L' := [(0, .ref 3)]) (qs1 rfl qs0) ?_
  refine R_aload_n dX3_years_0 rfl ?_
  refine R_getI dX3_years_1 (lf_RX3_26).get (by decide) rfl rfl ?_
  refine R_ireturn dX3_years_4 rfl rfl ?_
  exact ⟨rfl, rfl⟩
set_option maxRecDepth 100000 in
set_option maxHeartbeats 4000000 in
theorem c_stations_3 {M : qMem} : qSem 0 mX3_stations [.ref 3] M (qr (M.1 3 1) M) := by
  refine qSem.of (by decide +kernel) (Nat.le_of_ble_eq_true rfl) (fun w => ?_)
  refine R_ls (L' := [(0, .ref 3)]) (qs1 rfl qs0) ?_
  refine R_aload_n dX3_stations_0 rfl ?_
  refine R_getI dX3_stations_1 (lf_RX3_30).get (by decide) rfl rfl ?_
  refine R_ireturn dX3_stations_4 rfl rfl ?_
  exact ⟨rfl, rfl⟩
set_option maxRecDepth 100000 in
set_option maxHeartbeats 4000000 in
theorem c_version_3 {M : qMem} : qSem 0 mX3_version [.ref 3] M (qr (M.1 3 7) M) := by
  refine qSem.of (by decide +kernel) (Nat.le_of_ble_eq_true rfl) (fun w => ?_)
  refine R_ls (L' := [(0, .ref 3)]) (qs1 rfl qs0) ?_
  refine R_aload_n dX3_version_0 rfl ?_
  refine R_getI dX3_version_1 (lf_RX3_39).get (by decide) rfl rfl ?_
  refine R_ireturn dX3_version_4 rfl rfl ?_
  exact ⟨rfl, rfl⟩
set_option maxRecDepth 100000 in
set_option maxHeartbeats 4000000 in
theorem c_breakPenalty_3 {M : qMem} : qSem 0 mX3_breakPenalty [.ref 3] M (qr (M.1 3 5) M) := by
  refine qSem.of (by decide +kernel) (Nat.le_of_ble_eq_true rfl) (fun w => ?_)
  refine R_ls (L' := [(0, .ref 3)]) (qs1 rfl qs0) ?_
  refine R_aload_n dX3_breakPenalty_0 rfl ?_
  refine R_getI dX3_breakPenalty_1 (lf_RX3_33).get (by decide) rfl rfl ?_
  refine R_ireturn dX3_breakPenalty_4 rfl rfl ?_
  exact ⟨rfl, rfl⟩
set_option maxRecDepth 100000 in
set_option maxHeartbeats 4000000 in
theorem c_ruleOf_3 {M : qMem} {k : Nat} (hk : k < 4) : qSem 0 mX3_ruleOf [.ref 3, .int (nI k)] M (qr (M.1 7 k) M) := by
  refine qSem.of (by decide +kernel) (Nat.le_of_ble_eq_true rfl) (fun w => ?_)
  refine R_ls (L' := [(0, .ref 3), (1, .int (nI k))]) (qs1 rfl (qs1 rfl qs0)) ?_
  refine R_aload_n dX3_ruleOf_0 rfl ?_
  refine R_getR dX3_ruleOf_1 lg_RX3_23 (by decide) rfl rfl ?_
  refine R_iload_n dX3_ruleOf_4 rfl ?_
  refine R_ialdN dX3_ruleOf_5 (by decide) rfl (by omega) (by decide) ?_
  refine R_ireturn dX3_ruleOf_6 rfl rfl ?_
  exact ⟨rfl, rfl⟩
set_option maxRecDepth 100000 in
set_option maxHeartbeats 4000000 in
theorem c_has_3 {M : qMem} {c t : Nat} (hc : c < 6) (ht : t < 16) : qSem 0 mX3_has [.ref 3, .int (nI c), .int (nI t)] M (qb (¬ M.1 (8 + c) t = 1000000) M) := by
  refine qSem.of (by decide +kernel) (Nat.le_of_ble_eq_true rfl) (fun w => ?_)
  refine R_ls (L' := [(0, .ref 3), (1, .int (nI c)), (2, .int (nI t))]) (qs1 rfl (qs1 rfl (qs1 rfl qs0))) ?_
  refine R_aload_n dX3_has_0 rfl ?_
  refine R_getR dX3_has_1 lg_RX3_20 (by decide) rfl rfl ?_
  refine R_iload_n dX3_has_4 rfl ?_
  refine R_aald3N dX3_has_5 (by decide) rfl (by omega) (by decide) ?_
  refine R_iload_n dX3_has_6 rfl ?_
  refine R_ialdN dX3_has_7 (show 8 + c < 117 by have := ((by omega) : c < 6); omega) (sh_val3 (by omega)) (by omega) (by decide) ?_
  refine R_ldc (v := nI 1000000) dX3_has_8 lc_RX3_46 ?_
  refine R_icmp_eq (tgt := 17) dX3_has_10 (by decide) (fun h_10 => ?_) (fun h_10 => ?_)
  · refine R_iconst (v := nI 0) dX3_has_17 rfl ?_
    refine R_ireturn dX3_has_18 rfl rfl ?_
    exact ⟨rfl, Or.inr ⟨rfl, fun e => e h_10⟩⟩
  · refine R_iconst (v := nI 1) dX3_has_13 rfl ?_
    refine R_goto (tgt := 18) dX3_has_14 (by decide) ?_
    refine R_ireturn dX3_has_18 rfl rfl ?_
    exact ⟨rfl, Or.inl ⟨rfl, h_10⟩⟩
set_option maxRecDepth 100000 in
set_option maxHeartbeats 4000000 in
theorem c_at_3 {M : qMem} {c t : Nat} (hc : c < 6) (ht : t < 16) : qSem 0 mX3_at [.ref 3, .int (nI c), .int (nI t)] M (qr (M.1 (8 + c) t) M) := by
  refine qSem.of (by decide +kernel) (Nat.le_of_ble_eq_true rfl) (fun w => ?_)
  refine R_ls (L' := [(0, .ref 3), (1, .int (nI c)), (2, .int (nI t))]) (qs1 rfl (qs1 rfl (qs1 rfl qs0))) ?_
  refine R_aload_n dX3_at_0 rfl ?_
  refine R_getR dX3_at_1 lg_RX3_20 (by decide) rfl rfl ?_
  refine R_iload_n dX3_at_4 rfl ?_
  refine R_aald3N dX3_at_5 (by decide) rfl (by omega) (by decide) ?_
  refine R_iload_n dX3_at_6 rfl ?_
  refine R_ialdN dX3_at_7 (show 8 + c < 117 by have := ((by omega) : c < 6); omega) (sh_val3 (by omega)) (by omega) (by decide) ?_
  refine R_ireturn dX3_at_8 rfl rfl ?_
  exact ⟨rfl, rfl⟩
set_option maxRecDepth 100000 in
set_option maxHeartbeats 4000000 in
theorem c_put_3 {M : qMem} {c t : Nat} {x : Int32} (hc : c < 6) (ht : t < 16) : qSem 0 mX3_put [.ref 3, .int (nI c), .int (nI t), .int (x)] M (qv (qIs (qIs M (8 + c) t x) 3 7 (M.1 3 7 + nI 1))) := by
  refine qSem.of (by decide +kernel) (Nat.le_of_ble_eq_true rfl) (fun w => ?_)
  refine R_ls (L' := [(0, .ref 3), (1, .int (nI c)), (2, .int (nI t)), (3, .int (x))]) (qs1 rfl (qs1 rfl (qs1 rfl (qs1 rfl qs0)))) ?_
  refine R_aload_n dX3_put_0 rfl ?_
  refine R_getR dX3_put_1 lg_RX3_20 (by decide) rfl rfl ?_
  refine R_iload_n dX3_put_4 rfl ?_
  refine R_aald3N dX3_put_5 (by decide) rfl (by omega) (by decide) ?_
  refine R_iload_n dX3_put_6 rfl ?_
  refine R_iload_n dX3_put_7 rfl ?_
  refine R_iastN dX3_put_8 (show 8 + c < 117 by have := ((by omega) : c < 6); omega) (sh_val3 (by omega)) (by omega) (by decide) ?_
  refine R_aload_n dX3_put_9 rfl ?_
  refine R_dup dX3_put_10 rfl ?_
  refine R_getI dX3_put_11 (lf_RX3_39).get (by decide) rfl rfl ?_
  refine R_iconst (v := nI 1) dX3_put_14 rfl ?_
  refine R_iadd dX3_put_15 ?_
  refine R_putI dX3_put_16 lf_RX3_39 (by decide) rfl rfl rfl rfl ?_
  refine R_return dX3_put_19 rfl ?_
  exact ⟨rfl, by rw [qIs_no (by omega)]⟩
set_option maxRecDepth 100000 in
set_option maxHeartbeats 4000000 in
theorem c_setPen_3 {M : qMem} {x : Int32} : qSem 0 mX3_setBreakPenalty [.ref 3, .int (x)] M (qv (qIs (qIs M 3 5 x) 3 7 (M.1 3 7 + nI 1))) := by
  refine qSem.of (by decide +kernel) (Nat.le_of_ble_eq_true rfl) (fun w => ?_)
  refine R_ls (L' := [(0, .ref 3), (1, .int (x))]) (qs1 rfl (qs1 rfl qs0)) ?_
  refine R_aload_n dX3_setBreakPenalty_0 rfl ?_
  refine R_iload_n dX3_setBreakPenalty_1 rfl ?_
  refine R_putI dX3_setBreakPenalty_2 lf_RX3_33 (by decide) rfl rfl rfl rfl ?_
  refine R_aload_n dX3_setBreakPenalty_5 rfl ?_
  refine R_dup dX3_setBreakPenalty_6 rfl ?_
  refine R_getI dX3_setBreakPenalty_7 (lf_RX3_39).get (by decide) rfl rfl ?_
  refine R_iconst (v := nI 1) dX3_setBreakPenalty_10 rfl ?_
  refine R_iadd dX3_setBreakPenalty_11 ?_
  refine R_putI dX3_setBreakPenalty_12 lf_RX3_39 (by decide) rfl rfl rfl rfl ?_
  refine R_return dX3_setBreakPenalty_15 rfl ?_
  exact ⟨rfl, by rw [qIs_nk (by decide)]⟩
set_option maxRecDepth 100000 in
set_option maxHeartbeats 4000000 in
theorem c_setRule_3 {M : qMem} {k : Nat} {x : Int32} (hk : k < 4) : qSem 0 mX3_setRule [.ref 3, .int (nI k), .int (x)] M (qv (qIs (qIs M 7 k x) 3 7 (M.1 3 7 + nI 1))) := by
  refine qSem.of (by decide +kernel) (Nat.le_of_ble_eq_true rfl) (fun w => ?_)
  refine R_ls (L' := [(0, .ref 3), (1, .int (nI k)), (2, .int (x))]) (qs1 rfl (qs1 rfl (qs1 rfl qs0))) ?_
  refine R_aload_n dX3_setRule_0 rfl ?_
  refine R_getR dX3_setRule_1 lg_RX3_23 (by decide) rfl rfl ?_
  refine R_iload_n dX3_setRule_4 rfl ?_
  refine R_iload_n dX3_setRule_5 rfl ?_
  refine R_iastN dX3_setRule_6 (by decide) rfl (by omega) (by decide) ?_
  refine R_aload_n dX3_setRule_7 rfl ?_
  refine R_dup dX3_setRule_8 rfl ?_
  refine R_getI dX3_setRule_9 (lf_RX3_39).get (by decide) rfl rfl ?_
  refine R_iconst (v := nI 1) dX3_setRule_12 rfl ?_
  refine R_iadd dX3_setRule_13 ?_
  refine R_putI dX3_setRule_14 lf_RX3_39 (by decide) rfl rfl rfl rfl ?_
  refine R_return dX3_setRule_17 rfl ?_
  exact ⟨rfl, by rw [qIs_no (by decide)]⟩
set_option maxRecDepth 100000 in
set_option maxHeartbeats 4000000 in
theorem c_setYears_3 {M : qMem} {x : Int32} : qSem 0 mX3_setYears [.ref 3, .int (x)] M (qv (qIs (qIs M 3 0 x) 3 7 (M.1 3 7 + nI 1))) := by
  refine qSem.of (by decide +kernel) (Nat.le_of_ble_eq_true rfl) (fun w => ?_)
  refine R_ls (L' := [(0, .ref 3), (1, .int (x))]) (qs1 rfl (qs1 rfl qs0)) ?_
  refine R_aload_n dX3_setYears_0 rfl ?_
  refine R_iload_n dX3_setYears_1 rfl ?_
  refine R_putI dX3_setYears_2 lf_RX3_26 (by decide) rfl rfl rfl rfl ?_
  refine R_aload_n dX3_setYears_5 rfl ?_
  refine R_dup dX3_setYears_6 rfl ?_
  refine R_getI dX3_setYears_7 (lf_RX3_39).get (by decide) rfl rfl ?_
  refine R_iconst (v := nI 1) dX3_setYears_10 rfl ?_
  refine R_iadd dX3_setYears_11 ?_
  refine R_putI dX3_setYears_12 lf_RX3_39 (by decide) rfl rfl rfl rfl ?_
  refine R_return dX3_setYears_15 rfl ?_
  exact ⟨rfl, by rw [qIs_nk (by decide)]⟩
set_option maxRecDepth 100000 in
set_option maxHeartbeats 4000000 in
theorem c_years_14 {M : qMem} : qSem 0 mX3_years [.ref 14] M (qr (M.1 14 0) M) := by
  refine qSem.of (by decide +kernel) (Nat.le_of_ble_eq_true rfl) (fun w => ?_)
  refine R_ls (L' := [(0, .ref 14)]) (qs1 rfl qs0) ?_
  refine R_aload_n dX3_years_0 rfl ?_
  refine R_getI dX3_years_1 (lf_RX3_26).get (by decide) rfl rfl ?_
  refine R_ireturn dX3_years_4 rfl rfl ?_
  exact ⟨rfl, rfl⟩
set_option maxRecDepth 100000 in
set_option maxHeartbeats 4000000 in
theorem c_stations_14 {M : qMem} : qSem 0 mX3_stations [.ref 14] M (qr (M.1 14 1) M) := by
  refine qSem.of (by decide +kernel) (Nat.le_of_ble_eq_true rfl) (fun w => ?_)
  refine R_ls (L' := [(0, .ref 14)]) (qs1 rfl qs0) ?_
  refine R_aload_n dX3_stations_0 rfl ?_
  refine R_getI dX3_stations_1 (lf_RX3_30).get (by decide) rfl rfl ?_
  refine R_ireturn dX3_stations_4 rfl rfl ?_
  exact ⟨rfl, rfl⟩
set_option maxRecDepth 100000 in
set_option maxHeartbeats 4000000 in
theorem c_version_14 {M : qMem} : qSem 0 mX3_version [.ref 14] M (qr (M.1 14 7) M) := by
  refine qSem.of (by decide +kernel) (Nat.le_of_ble_eq_true rfl) (fun w => ?_)
  refine R_ls (L' := [(0, .ref 14)]) (qs1 rfl qs0) ?_
  refine R_aload_n dX3_version_0 rfl ?_
  refine R_getI dX3_version_1 (lf_RX3_39).get (by decide) rfl rfl ?_
  refine R_ireturn dX3_version_4 rfl rfl ?_
  exact ⟨rfl, rfl⟩
set_option maxRecDepth 100000 in
set_option maxHeartbeats 4000000 in
theorem c_breakPenalty_14 {M : qMem} : qSem 0 mX3_breakPenalty [.ref 14] M (qr (M.1 14 5) M) := by
  refine qSem.of (by decide +kernel) (Nat.le_of_ble_eq_true rfl) (fun w => ?_)
  refine R_ls (L' := [(0, .ref 14)]) (qs1 rfl qs0) ?_
  refine R_aload_n dX3_breakPenalty_0 rfl ?_
  refine R_getI dX3_breakPenalty_1 (lf_RX3_33).get (by decide) rfl rfl ?_
  refine R_ireturn dX3_breakPenalty_4 rfl rfl ?_
  exact ⟨rfl, rfl⟩
set_option maxRecDepth 100000 in
set_option maxHeartbeats 4000000 in
theorem c_ruleOf_14 {M : qMem} {k : Nat} (hk : k < 4) : qSem 0 mX3_ruleOf [.ref 14, .int (nI k)] M (qr (M.1 18 k) M) := by
  refine qSem.of (by decide +kernel) (Nat.le_of_ble_eq_true rfl) (fun w => ?_)
  refine R_ls (L' := [(0, .ref 14), (1, .int (nI k))]) (qs1 rfl (qs1 rfl qs0)) ?_
  refine R_aload_n dX3_ruleOf_0 rfl ?_
  refine R_getR dX3_ruleOf_1 lg_RX3_23 (by decide) rfl rfl ?_
  refine R_iload_n dX3_ruleOf_4 rfl ?_
  refine R_ialdN dX3_ruleOf_5 (by decide) rfl (by omega) (by decide) ?_
  refine R_ireturn dX3_ruleOf_6 rfl rfl ?_
  exact ⟨rfl, rfl⟩
set_option maxRecDepth 100000 in
set_option maxHeartbeats 4000000 in
theorem c_has_14 {M : qMem} {c t : Nat} (hc : c < 6) (ht : t < 16) : qSem 0 mX3_has [.ref 14, .int (nI c), .int (nI t)] M (qb (¬ M.1 (19 + c) t = 1000000) M) := by
  refine qSem.of (by decide +kernel) (Nat.le_of_ble_eq_true rfl) (fun w => ?_)
  refine R_ls (L' := [(0, .ref 14), (1, .int (nI c)), (2, .int (nI t))]) (qs1 rfl (qs1 rfl (qs1 rfl qs0))) ?_
  refine R_aload_n dX3_has_0 rfl ?_
  refine R_getR dX3_has_1 lg_RX3_20 (by decide) rfl rfl ?_
  refine R_iload_n dX3_has_4 rfl ?_
  refine R_aald3N dX3_has_5 (by decide) rfl (by omega) (by decide) ?_
  refine R_iload_n dX3_has_6 rfl ?_
  refine R_ialdN dX3_has_7 (show 19 + c < 117 by have := ((by omega) : c < 6); omega) (sh_val14 (by omega)) (by omega) (by decide) ?_
  refine R_ldc (v := nI 1000000) dX3_has_8 lc_RX3_46 ?_
  refine R_icmp_eq (tgt := 17) dX3_has_10 (by decide) (fun h_10 => ?_) (fun h_10 => ?_)
  · refine R_iconst (v := nI 0) dX3_has_17 rfl ?_
    refine R_ireturn dX3_has_18 rfl rfl ?_
    exact ⟨rfl, Or.inr ⟨rfl, fun e => e h_10⟩⟩
  · refine R_iconst (v := nI 1) dX3_has_13 rfl ?_
    refine R_goto (tgt := 18) dX3_has_14 (by decide) ?_
    refine R_ireturn dX3_has_18 rfl rfl ?_
    exact ⟨rfl, Or.inl ⟨rfl, h_10⟩⟩
set_option maxRecDepth 100000 in
set_option maxHeartbeats 4000000 in
theorem c_at_14 {M : qMem} {c t : Nat} (hc : c < 6) (ht : t < 16) : qSem 0 mX3_at [.ref 14, .int (nI c), .int (nI t)] M (qr (M.1 (19 + c) t) M) := by
  refine qSem.of (by decide +kernel) (Nat.le_of_ble_eq_true rfl) (fun w => ?_)
  refine R_ls (L' := [(0, .ref 14), (1, .int (nI c)), (2, .int (nI t))]) (qs1 rfl (qs1 rfl (qs1 rfl qs0))) ?_
  refine R_aload_n dX3_at_0 rfl ?_
  refine R_getR dX3_at_1 lg_RX3_20 (by decide) rfl rfl ?_
  refine R_iload_n dX3_at_4 rfl ?_
  refine R_aald3N dX3_at_5 (by decide) rfl (by omega) (by decide) ?_
  refine R_iload_n dX3_at_6 rfl ?_
  refine R_ialdN dX3_at_7 (show 19 + c < 117 by have := ((by omega) : c < 6); omega) (sh_val14 (by omega)) (by omega) (by decide) ?_
  refine R_ireturn dX3_at_8 rfl rfl ?_
  exact ⟨rfl, rfl⟩
set_option maxRecDepth 100000 in
set_option maxHeartbeats 4000000 in
theorem c_put_14 {M : qMem} {c t : Nat} {x : Int32} (hc : c < 6) (ht : t < 16) : qSem 0 mX3_put [.ref 14, .int (nI c), .int (nI t), .int (x)] M (qv (qIs (qIs M (19 + c) t x) 14 7 (M.1 14 7 + nI 1))) := by
  refine qSem.of (by decide +kernel) (Nat.le_of_ble_eq_true rfl) (fun w => ?_)
  refine R_ls (L' := [(0, .ref 14), (1, .int (nI c)), (2, .int (nI t)), (3, .int (x))]) (qs1 rfl (qs1 rfl (qs1 rfl (qs1 rfl qs0)))) ?_
  refine R_aload_n dX3_put_0 rfl ?_
  refine R_getR dX3_put_1 lg_RX3_20 (by decide) rfl rfl ?_
  refine R_iload_n dX3_put_4 rfl ?_
  refine R_aald3N dX3_put_5 (by decide) rfl (by omega) (by decide) ?_
  refine R_iload_n dX3_put_6 rfl ?_
  refine R_iload_n dX3_put_7 rfl ?_
  refine R_iastN dX3_put_8 (show 19 + c < 117 by have := ((by omega) : c < 6); omega) (sh_val14 (by omega)) (by omega) (by decide) ?_
  refine R_aload_n dX3_put_9 rfl ?_
  refine R_dup dX3_put_10 rfl ?_
  refine R_getI dX3_put_11 (lf_RX3_39).get (by decide) rfl rfl ?_
  refine R_iconst (v := nI 1) dX3_put_14 rfl ?_
  refine R_iadd dX3_put_15 ?_
  refine R_putI dX3_put_16 lf_RX3_39 (by decide) rfl rfl rfl rfl ?_
  refine R_return dX3_put_19 rfl ?_
  exact ⟨rfl, by rw [qIs_no (by omega)]⟩
set_option maxRecDepth 100000 in
set_option maxHeartbeats 4000000 in
theorem c_setPen_14 {M : qMem} {x : Int32} : qSem 0 mX3_setBreakPenalty [.ref 14, .int (x)] M (qv (qIs (qIs M 14 5 x) 14 7 (M.1 14 7 + nI 1))) := by
  refine qSem.of (by decide +kernel) (Nat.le_of_ble_eq_true rfl) (fun w => ?_)
  refine R_ls (L' := [(0, .ref 14), (1, .int (x))]) (qs1 rfl (qs1 rfl qs0)) ?_
  refine R_aload_n dX3_setBreakPenalty_0 rfl ?_
  refine R_iload_n dX3_setBreakPenalty_1 rfl ?_
  refine R_putI dX3_setBreakPenalty_2 lf_RX3_33 (by decide) rfl rfl rfl rfl ?_
  refine R_aload_n dX3_setBreakPenalty_5 rfl ?_
  refine R_dup dX3_setBreakPenalty_6 rfl ?_
  refine R_getI dX3_setBreakPenalty_7 (lf_RX3_39).get (by decide) rfl rfl ?_
  refine R_iconst (v := nI 1) dX3_setBreakPenalty_10 rfl ?_
  refine R_iadd dX3_setBreakPenalty_11 ?_
  refine R_putI dX3_setBreakPenalty_12 lf_RX3_39 (by decide) rfl rfl rfl rfl ?_
  refine R_return dX3_setBreakPenalty_15 rfl ?_
  exact ⟨rfl, by rw [qIs_nk (by decide)]⟩
set_option maxRecDepth 100000 in
set_option maxHeartbeats 4000000 in
theorem c_setRule_14 {M : qMem} {k : Nat} {x : Int32} (hk : k < 4) : qSem 0 mX3_setRule [.ref 14, .int (nI k), .int (x)] M (qv (qIs (qIs M 18 k x) 14 7 (M.1 14 7 + nI 1))) := by
  refine qSem.of (by decide +kernel) (Nat.le_of_ble_eq_true rfl) (fun w => ?_)
  refine R_ls (L' := [(0, .ref 14), (1, .int (nI k)), (2, .int (x))]) (qs1 rfl (qs1 rfl (qs1 rfl qs0))) ?_
  refine R_aload_n dX3_setRule_0 rfl ?_
  refine R_getR dX3_setRule_1 lg_RX3_23 (by decide) rfl rfl ?_
  refine R_iload_n dX3_setRule_4 rfl ?_
  refine R_iload_n dX3_setRule_5 rfl ?_
  refine R_iastN dX3_setRule_6 (by decide) rfl (by omega) (by decide) ?_
  refine R_aload_n dX3_setRule_7 rfl ?_
  refine R_dup dX3_setRule_8 rfl ?_
  refine R_getI dX3_setRule_9 (lf_RX3_39).get (by decide) rfl rfl ?_
  refine R_iconst (v := nI 1) dX3_setRule_12 rfl ?_
  refine R_iadd dX3_setRule_13 ?_
  refine R_putI dX3_setRule_14 lf_RX3_39 (by decide) rfl rfl rfl rfl ?_
  refine R_return dX3_setRule_17 rfl ?_
  exact ⟨rfl, by rw [qIs_no (by decide)]⟩
set_option maxRecDepth 100000 in
set_option maxHeartbeats 4000000 in
theorem c_setYears_14 {M : qMem} {x : Int32} : qSem 0 mX3_setYears [.ref 14, .int (x)] M (qv (qIs (qIs M 14 0 x) 14 7 (M.1 14 7 + nI 1))) := by
  refine qSem.of (by decide +kernel) (Nat.le_of_ble_eq_true rfl) (fun w => ?_)
  refine R_ls (L' := [(0, .ref 14), (1, .int (x))]) (qs1 rfl (qs1 rfl qs0)) ?_
  refine R_aload_n dX3_setYears_0 rfl ?_
  refine R_iload_n dX3_setYears_1 rfl ?_
  refine R_putI dX3_setYears_2 lf_RX3_26 (by decide) rfl rfl rfl rfl ?_
  refine R_aload_n dX3_setYears_5 rfl ?_
  refine R_dup dX3_setYears_6 rfl ?_
  refine R_getI dX3_setYears_7 (lf_RX3_39).get (by decide) rfl rfl ?_
  refine R_iconst (v := nI 1) dX3_setYears_10 rfl ?_
  refine R_iadd dX3_setYears_11 ?_
  refine R_putI dX3_setYears_12 lf_RX3_39 (by decide) rfl rfl rfl rfl ?_
  refine R_return dX3_setYears_15 rfl ?_
  exact ⟨rfl, by rw [qIs_nk (by decide)]⟩
set_option maxRecDepth 100000 in
set_option maxHeartbeats 4000000 in
theorem c_hasStation {M : qMem} {c : Int32} : qSem 0 mX3_hasStation [.ref 14, .int (c)] M (qb (0 ≤ c ∧ c < M.1 14 1) M) := by
  refine qSem.of (by decide +kernel) (Nat.le_of_ble_eq_true rfl) (fun w => ?_)
  refine R_ls (L' := [(0, .ref 14), (1, .int (c))]) (qs1 rfl (qs1 rfl qs0)) ?_
  refine R_iload_n dX3_hasStation_0 rfl ?_
  refine R_if_lt (tgt := 16) dX3_hasStation_1 (by decide) (fun h_1 => ?_) (fun h_1 => ?_)
  · refine R_iconst (v := nI 0) dX3_hasStation_16 rfl ?_
    refine R_ireturn dX3_hasStation_17 rfl rfl ?_
    exact ⟨rfl, by first | exact Or.inr ⟨rfl, fun h => absurd h.1 (Int32.not_le.mpr (by assumption))⟩ | exact Or.inr ⟨rfl, fun h => absurd h.2 (Int32.not_lt.mpr (by assumption))⟩ | exact Or.inl ⟨rfl, Int32.not_lt.mp (by assumption), Int32.not_le.mp (by assumption)⟩⟩
  · refine R_iload_n dX3_hasStation_4 rfl ?_
    refine R_aload_n dX3_hasStation_5 rfl ?_
    refine R_getI dX3_hasStation_6 (lf_RX3_30).get (by decide) rfl rfl ?_
    refine R_icmp_ge (tgt := 16) dX3_hasStation_9 (by decide) (fun h_9 => ?_) (fun h_9 => ?_)
    · refine R_iconst (v := nI 0) dX3_hasStation_16 rfl ?_
      refine R_ireturn dX3_hasStation_17 rfl rfl ?_
      exact ⟨rfl, by first | exact Or.inr ⟨rfl, fun h => absurd h.1 (Int32.not_le.mpr (by assumption))⟩ | exact Or.inr ⟨rfl, fun h => absurd h.2 (Int32.not_lt.mpr (by assumption))⟩ | exact Or.inl ⟨rfl, Int32.not_lt.mp (by assumption), Int32.not_le.mp (by assumption)⟩⟩
    · refine R_iconst (v := nI 1) dX3_hasStation_12 rfl ?_
      refine R_goto (tgt := 17) dX3_hasStation_13 (by decide) ?_
      refine R_ireturn dX3_hasStation_17 rfl rfl ?_
      exact ⟨rfl, by first | exact Or.inr ⟨rfl, fun h => absurd h.1 (Int32.not_le.mpr (by assumption))⟩ | exact Or.inr ⟨rfl, fun h => absurd h.2 (Int32.not_lt.mpr (by assumption))⟩ | exact Or.inl ⟨rfl, Int32.not_lt.mp (by assumption), Int32.not_le.mp (by assumption)⟩⟩
set_option maxRecDepth 100000 in
set_option maxHeartbeats 4000000 in
theorem c_isValue {M : qMem} {x : Int32} : qSem 0 mX7_isValue [.int (x)] M (qb (okv x) M) := by
  refine qSem.of (by decide +kernel) (Nat.le_of_ble_eq_true rfl) (fun w => ?_)
  refine R_ls (L' := [(0, .int (x))]) (qs1 rfl qs0) ?_
  refine R_iload_n dX7_isValue_0 rfl ?_
  refine R_sipush (v := -9999) dX7_isValue_1 rfl ?_
  refine R_icmp_lt (tgt := 18) dX7_isValue_4 (by decide) (fun h_4 => ?_) (fun h_4 => ?_)
  · refine R_iconst (v := nI 0) dX7_isValue_18 rfl ?_
    refine R_ireturn dX7_isValue_19 rfl rfl ?_
    refine ⟨rfl, ?_⟩
    rw [okv_iff]
    first | exact Or.inl ⟨rfl, Int32.not_lt.mp (by assumption), Int32.not_lt.mp (by assumption)⟩ | exact Or.inr ⟨rfl, fun h => absurd h.1 (Int32.not_le.mpr (by assumption))⟩ | exact Or.inr ⟨rfl, fun h => absurd h.2 (Int32.not_le.mpr (by assumption))⟩
  · refine R_iload_n dX7_isValue_7 rfl ?_
    refine R_sipush (v := nI 9999) dX7_isValue_8 rfl ?_
    refine R_top (y := 9999) rfl ?_
    refine R_icmp_gt (tgt := 18) dX7_isValue_11 (by decide) (fun h_11 => ?_) (fun h_11 => ?_)
    · refine R_iconst (v := nI 0) dX7_isValue_18 rfl ?_
      refine R_ireturn dX7_isValue_19 rfl rfl ?_
      refine ⟨rfl, ?_⟩
      rw [okv_iff]
      first | exact Or.inl ⟨rfl, Int32.not_lt.mp (by assumption), Int32.not_lt.mp (by assumption)⟩ | exact Or.inr ⟨rfl, fun h => absurd h.1 (Int32.not_le.mpr (by assumption))⟩ | exact Or.inr ⟨rfl, fun h => absurd h.2 (Int32.not_le.mpr (by assumption))⟩
    · refine R_iconst (v := nI 1) dX7_isValue_14 rfl ?_
      refine R_goto (tgt := 19) dX7_isValue_15 (by decide) ?_
      refine R_ireturn dX7_isValue_19 rfl rfl ?_
      refine ⟨rfl, ?_⟩
      rw [okv_iff]
      first | exact Or.inl ⟨rfl, Int32.not_lt.mp (by assumption), Int32.not_lt.mp (by assumption)⟩ | exact Or.inr ⟨rfl, fun h => absurd h.1 (Int32.not_le.mpr (by assumption))⟩ | exact Or.inr ⟨rfl, fun h => absurd h.2 (Int32.not_le.mpr (by assumption))⟩
set_option maxRecDepth 100000 in
set_option maxHeartbeats 4000000 in
theorem c_knows {M : qMem} {c t : Int32} : qSem 0 mX3_knows [.ref 14, .int (c), .int (t)] M (qb ((0 ≤ c ∧ c < M.1 14 1) ∧ 0 ≤ t ∧ t < M.1 14 0) M) := by
  refine qSem.of (by decide +kernel) (Nat.le_of_ble_eq_true rfl) (fun w => ?_)
  refine R_ls (L' := [(0, .ref 14), (1, .int (c)), (2, .int (t))]) (qs1 rfl (qs1 rfl (qs1 rfl qs0))) ?_
  refine R_aload_n dX3_knows_0 rfl ?_
  refine R_iload_n dX3_knows_1 rfl ?_
  refine R_callV (mc := mX3_hasStation) (As := [_]) (r := 14) dX3_knows_2 lm_RX3_42 mv_X3_hasStation rfl (by decide) rfl rfl rfl rfl (Nat.le_of_ble_eq_true rfl) c_hasStation ?_
  rintro _ _ ⟨rfl, ⟨rfl, h_2⟩ | ⟨rfl, h_2⟩⟩
  · refine R_if_eqN (tgt := 24) dX3_knows_5 (by decide) (by omega) (fun h_5 => by exact absurd h_5 (by decide)) (fun h_5 => ?_)
    refine R_iload_n dX3_knows_8 rfl ?_
    refine R_if_lt (tgt := 24) dX3_knows_9 (by decide) (fun h_9 => ?_) (fun h_9 => ?_)
    · refine R_iconst (v := nI 0) dX3_knows_24 rfl ?_
      refine R_ireturn dX3_knows_25 rfl rfl ?_
      exact ⟨rfl, by first | exact Or.inr ⟨rfl, fun h => h_2 h.1⟩ | exact Or.inr ⟨rfl, fun h => absurd h.2.1 (Int32.not_le.mpr (by assumption))⟩ | exact Or.inr ⟨rfl, fun h => absurd h.2.2 (Int32.not_lt.mpr (by assumption))⟩ | exact Or.inl ⟨rfl, h_2, Int32.not_lt.mp (by assumption), Int32.not_le.mp (by assumption)⟩⟩
    · refine R_iload_n dX3_knows_12 rfl ?_
      refine R_aload_n dX3_knows_13 rfl ?_
      refine R_getI dX3_knows_14 (lf_RX3_26).get (by decide) rfl rfl ?_
      refine R_icmp_ge (tgt := 24) dX3_knows_17 (by decide) (fun h_17 => ?_) (fun h_17 => ?_)
      · refine R_iconst (v := nI 0) dX3_knows_24 rfl ?_
        refine R_ireturn dX3_knows_25 rfl rfl ?_
        exact ⟨rfl, by first | exact Or.inr ⟨rfl, fun h => h_2 h.1⟩ | exact Or.inr ⟨rfl, fun h => absurd h.2.1 (Int32.not_le.mpr (by assumption))⟩ | exact Or.inr ⟨rfl, fun h => absurd h.2.2 (Int32.not_lt.mpr (by assumption))⟩ | exact Or.inl ⟨rfl, h_2, Int32.not_lt.mp (by assumption), Int32.not_le.mp (by assumption)⟩⟩
      · refine R_iconst (v := nI 1) dX3_knows_20 rfl ?_
        refine R_goto (tgt := 25) dX3_knows_21 (by decide) ?_
        refine R_ireturn dX3_knows_25 rfl rfl ?_
        exact ⟨rfl, by first | exact Or.inr ⟨rfl, fun h => h_2 h.1⟩ | exact Or.inr ⟨rfl, fun h => absurd h.2.1 (Int32.not_le.mpr (by assumption))⟩ | exact Or.inr ⟨rfl, fun h => absurd h.2.2 (Int32.not_lt.mpr (by assumption))⟩ | exact Or.inl ⟨rfl, h_2, Int32.not_lt.mp (by assumption), Int32.not_le.mp (by assumption)⟩⟩
  · refine R_if_eqN (tgt := 24) dX3_knows_5 (by decide) (by omega) (fun h_5 => ?_) (fun h_5 => by exact absurd h_5 (by decide))
    refine R_iconst (v := nI 0) dX3_knows_24 rfl ?_
    refine R_ireturn dX3_knows_25 rfl rfl ?_
    exact ⟨rfl, by first | exact Or.inr ⟨rfl, fun h => h_2 h.1⟩ | exact Or.inr ⟨rfl, fun h => absurd h.2.1 (Int32.not_le.mpr (by assumption))⟩ | exact Or.inr ⟨rfl, fun h => absurd h.2.2 (Int32.not_lt.mpr (by assumption))⟩ | exact Or.inl ⟨rfl, h_2, Int32.not_lt.mp (by assumption), Int32.not_le.mp (by assumption)⟩⟩
set_option maxRecDepth 100000 in
set_option maxHeartbeats 4000000 in
theorem l_canShift {w : qWT} {M : qMem} {c y : Nat} {s : Int32} (hc : c < 6) (hy : y ≤ 16) : ∀ (fu : Nat) (i : Nat), (y + 1 - i) < fu → (i ≤ y) → (∀ t, t < i → ¬ M.1 (19 + c) t = 1000000 → okv (M.1 (19 + c) t + s)) → qRW 0 w mX3_canShiftEarlier 3 [(0, .ref 14), (1, .int (nI c)), (2, .int (nI y)), (3, .int (s)), (4, .int (nI i))] [] M (qb (∀ t, t < y → ¬ M.1 (19 + c) t = 1000000 → okv (M.1 (19 + c) t + s)) M) := by
  intro fu
  induction fu with
  | zero => intro i hn; exact absurd hn (Nat.not_lt_zero _)
  | succ fu ih =>
    intro i hn hi hv
    refine R_iload dX3_canShiftEarlier_3 rfl ?_
    refine R_iload_n dX3_canShiftEarlier_5 rfl ?_
    refine R_icmp_geN (tgt := 44) dX3_canShiftEarlier_6 (by decide) (by omega) (by omega) (fun h_6 => ?_) (fun h_6 => ?_)
    · refine R_iconst (v := nI 1) dX3_canShiftEarlier_44 rfl ?_
      refine R_ireturn dX3_canShiftEarlier_45 rfl rfl ?_
      exact ⟨rfl, Or.inl ⟨rfl, fun t ht hm => hv t (by omega) hm⟩⟩
    · refine R_aload_n dX3_canShiftEarlier_9 rfl ?_
      refine R_iload_n dX3_canShiftEarlier_10 rfl ?_
      refine R_iload dX3_canShiftEarlier_11 rfl ?_
      refine R_callV (mc := mX3_has) (As := [_, _]) (r := 14) dX3_canShiftEarlier_13 lm_RX3_47 mv_X3_has rfl (by decide) rfl rfl rfl rfl (Nat.le_of_ble_eq_true rfl) (c_has_14 hc (by omega)) ?_
      rintro _ _ ⟨rfl, ⟨rfl, h_13⟩ | ⟨rfl, h_13⟩⟩
      · refine R_if_eqN (tgt := 38) dX3_canShiftEarlier_16 (by decide) (by omega) (fun h_16 => by exact absurd h_16 (by decide)) (fun h_16 => ?_)
        refine R_aload_n dX3_canShiftEarlier_19 rfl ?_
        refine R_getR dX3_canShiftEarlier_20 lg_RX3_20 (by decide) rfl rfl ?_
        refine R_iload_n dX3_canShiftEarlier_23 rfl ?_
        refine R_aald3N dX3_canShiftEarlier_24 (by decide) rfl (by omega) (by decide) ?_
        refine R_iload dX3_canShiftEarlier_25 rfl ?_
        refine R_ialdN dX3_canShiftEarlier_27 (show 19 + c < 117 by have := ((by omega) : c < 6); omega) (sh_val14 (by omega)) (by omega) (by decide) ?_
        refine R_iload_n dX3_canShiftEarlier_28 rfl ?_
        refine R_iadd dX3_canShiftEarlier_29 ?_
        refine R_callSN (mc := mX7_isValue) (As := [_]) dX3_canShiftEarlier_30 lm_RX3_51 mv_X7_isValue rfl rfl rfl (Nat.le_of_ble_eq_true rfl) c_isValue ?_
        rintro _ _ ⟨rfl, ⟨rfl, h_30⟩ | ⟨rfl, h_30⟩⟩
        · refine R_if_neN (tgt := 38) dX3_canShiftEarlier_33 (by decide) (by omega) (fun h_33 => ?_) (fun h_33 => by exact absurd h_33 (by decide))
          refine R_iincN (n := 1) (L' := [(0, .ref 14), (1, .int (nI c)), (2, .int (nI y)), (3, .int (s)), (4, .int (nI (i + 1)))]) dX3_canShiftEarlier_38 rfl (by decide) (qs1 rfl (qs1 rfl (qs1 rfl (qs1 rfl (qs1 rfl qs0))))) ?_
          refine R_goto (tgt := 3) dX3_canShiftEarlier_41 (by decide) ?_
          refine R_ls (L' := [(0, .ref 14), (1, .int (nI c)), (2, .int (nI y)), (3, .int (s)), (4, .int (nI (i + 1)))]) (qs1 rfl (qs1 rfl (qs1 rfl (qs1 rfl (qs1 rfl qs0))))) ?_
          exact ih (i + 1) (by omega) (by omega) (fun t ht hm => by rcases Decidable.em (t = i) with e | e <;> first | (subst e; exact h_30) | (subst e; exact absurd hm h_13) | exact hv t (by omega) hm)
        · refine R_if_neN (tgt := 38) dX3_canShiftEarlier_33 (by decide) (by omega) (fun h_33 => by exact absurd h_33 (by decide)) (fun h_33 => ?_)
          refine R_iconst (v := nI 0) dX3_canShiftEarlier_36 rfl ?_
          refine R_ireturn dX3_canShiftEarlier_37 rfl rfl ?_
          exact ⟨rfl, Or.inr ⟨rfl, fun h => h_30 (h i (by omega) h_13)⟩⟩
      · refine R_if_eqN (tgt := 38) dX3_canShiftEarlier_16 (by decide) (by omega) (fun h_16 => ?_) (fun h_16 => by exact absurd h_16 (by decide))
        refine R_iincN (n := 1) (L' := [(0, .ref 14), (1, .int (nI c)), (2, .int (nI y)), (3, .int (s)), (4, .int (nI (i + 1)))]) dX3_canShiftEarlier_38 rfl (by decide) (qs1 rfl (qs1 rfl (qs1 rfl (qs1 rfl (qs1 rfl qs0))))) ?_
        refine R_goto (tgt := 3) dX3_canShiftEarlier_41 (by decide) ?_
        refine R_ls (L' := [(0, .ref 14), (1, .int (nI c)), (2, .int (nI y)), (3, .int (s)), (4, .int (nI (i + 1)))]) (qs1 rfl (qs1 rfl (qs1 rfl (qs1 rfl (qs1 rfl qs0))))) ?_
        exact ih (i + 1) (by omega) (by omega) (fun t ht hm => by rcases Decidable.em (t = i) with e | e <;> first | (subst e; exact h_30) | (subst e; exact absurd hm h_13) | exact hv t (by omega) hm)
set_option maxRecDepth 100000 in
set_option maxHeartbeats 4000000 in
theorem c_canShift {M : qMem} {c y : Nat} {s : Int32} (hc : c < 6) (hy : y ≤ 16) : qSem 0 mX3_canShiftEarlier [.ref 14, .int (nI c), .int (nI y), .int (s)] M (qb (∀ t, t < y → ¬ M.1 (19 + c) t = 1000000 → okv (M.1 (19 + c) t + s)) M) := by
  refine qSem.of (by decide +kernel) (Nat.le_of_ble_eq_true rfl) (fun w => ?_)
  refine R_ls (L' := [(0, .ref 14), (1, .int (nI c)), (2, .int (nI y)), (3, .int (s))]) (qs1 rfl (qs1 rfl (qs1 rfl (qs1 rfl qs0)))) ?_
  refine R_iconst (v := nI 0) dX3_canShiftEarlier_0 rfl ?_
  refine R_istore (L' := [(0, .ref 14), (1, .int (nI c)), (2, .int (nI y)), (3, .int (s)), (4, .int (nI 0))]) dX3_canShiftEarlier_1 (by decide) (qs1 rfl (qs1 rfl (qs1 rfl (qs1 rfl (qs1 rfl qs0))))) ?_
  refine R_ls (L' := [(0, .ref 14), (1, .int (nI c)), (2, .int (nI y)), (3, .int (s)), (4, .int (nI 0))]) (qs1 rfl (qs1 rfl (qs1 rfl (qs1 rfl (qs1 rfl qs0))))) ?_
  exact l_canShift hc hy (y + 2) 0 (by omega) (by omega) (fun t ht => absurd ht (Nat.not_lt_zero t))
theorem qShift_at (M : qMem) (c i : Nat) (s : Int32) : (qShift M c i s).1 (19 + c) i = M.1 (19 + c) i := by simp [qShift]
theorem qShift_s (M : qMem) (c i : Nat) (s : Int32) (h : ¬ M.1 (19 + c) i = 1000000) : qIs (qShift M c i s) (19 + c) i ((qShift M c i s).1 (19 + c) i + s) = qShift M c (i + 1) s := by
  rw [qShift_at]
  refine Prod.ext (funext fun o => funext fun k => ?_) rfl
  show (if o = 19 + c ∧ k = i then M.1 (19 + c) i + s else (if o = 19 + c ∧ k < i ∧ ¬ M.1 (19 + c) k = 1000000 then M.1 o k + s else M.1 o k)) = if o = 19 + c ∧ k < i + 1 ∧ ¬ M.1 (19 + c) k = 1000000 then M.1 o k + s else M.1 o k
  by_cases ho : o = 19 + c
  · subst ho
    by_cases hk : k = i
    · subst hk; simp [h]
    · have e : (k < i + 1) = (k < i) := by apply propext; omega
      simp [hk, e]
  · simp [ho]
theorem qShift_n (M : qMem) (c i : Nat) (s : Int32) (h : M.1 (19 + c) i = 1000000) : qShift M c i s = qShift M c (i + 1) s := by
  refine Prod.ext (funext fun o => funext fun k => ?_) rfl
  show (if o = 19 + c ∧ k < i ∧ ¬ M.1 (19 + c) k = 1000000 then M.1 o k + s else M.1 o k) = if o = 19 + c ∧ k < i + 1 ∧ ¬ M.1 (19 + c) k = 1000000 then M.1 o k + s else M.1 o k
  by_cases hk : k = i
  · subst hk; simp [h]
  · have e : (k < i + 1) = (k < i) := by apply propext; omega
    simp [e]
theorem qShift_0 (M : qMem) (c : Nat) (s : Int32) : qShift M c 0 s = M := by
  refine Prod.ext (funext fun o => funext fun k => ?_) rfl
  simp [qShift]
theorem qShift_v (M : qMem) (c y : Nat) (s : Int32) : (qShift M c y s).1 14 = M.1 14 := by
  funext k
  simp [qShift]; omega
set_option maxRecDepth 100000 in
set_option maxHeartbeats 4000000 in
theorem l_shift {w : qWT} {M : qMem} {c y : Nat} {s : Int32} (hc : c < 6) (hy : y ≤ 16) : ∀ (fu : Nat) (i : Nat), (y + 1 - i) < fu → (i ≤ y) → qRW 0 w mX3_shiftEarlier 3 [(0, .ref 14), (1, .int (nI c)), (2, .int (nI y)), (3, .int (s)), (4, .int (nI i))] [] (qShift M c i s) (qv (qIs (qShift M c y s) 14 7 (M.1 14 7 + nI 1))) := by
  intro fu
  induction fu with
  | zero => intro i hn; exact absurd hn (Nat.not_lt_zero _)
  | succ fu ih =>
    intro i hn hi
    refine R_iload dX3_shiftEarlier_3 rfl ?_
    refine R_iload_n dX3_shiftEarlier_5 rfl ?_
    refine R_icmp_geN (tgt := 38) dX3_shiftEarlier_6 (by decide) (by omega) (by omega) (fun h_6 => ?_) (fun h_6 => ?_)
    · refine R_aload_n dX3_shiftEarlier_38 rfl ?_
      refine R_dup dX3_shiftEarlier_39 rfl ?_
      refine R_getI dX3_shiftEarlier_40 (lf_RX3_39).get (by decide) rfl rfl ?_
      refine R_iconst (v := nI 1) dX3_shiftEarlier_43 rfl ?_
      refine R_iadd dX3_shiftEarlier_44 ?_
      refine R_putI dX3_shiftEarlier_45 lf_RX3_39 (by decide) rfl rfl rfl rfl ?_
      refine R_return dX3_shiftEarlier_48 rfl ?_
      have e : i = y := by omega
      subst e
      exact ⟨rfl, by rw [qShift_v]⟩
    · refine R_aload_n dX3_shiftEarlier_9 rfl ?_
      refine R_iload_n dX3_shiftEarlier_10 rfl ?_
      refine R_iload dX3_shiftEarlier_11 rfl ?_
      refine R_callV (mc := mX3_has) (As := [_, _]) (r := 14) dX3_shiftEarlier_13 lm_RX3_47 mv_X3_has rfl (by decide) rfl rfl rfl rfl (Nat.le_of_ble_eq_true rfl) (c_has_14 hc (by omega)) ?_
      rintro _ _ ⟨rfl, ⟨rfl, h_13⟩ | ⟨rfl, h_13⟩⟩
      · refine R_if_eqN (tgt := 32) dX3_shiftEarlier_16 (by decide) (by omega) (fun h_16 => by exact absurd h_16 (by decide)) (fun h_16 => ?_)
        refine R_aload_n dX3_shiftEarlier_19 rfl ?_
        refine R_getR dX3_shiftEarlier_20 lg_RX3_20 (by decide) rfl rfl ?_
        refine R_iload_n dX3_shiftEarlier_23 rfl ?_
        refine R_aald3N dX3_shiftEarlier_24 (by decide) rfl (by omega) (by decide) ?_
        refine R_iload dX3_shiftEarlier_25 rfl ?_
        refine R_dup2 dX3_shiftEarlier_27 rfl rfl ?_
        refine R_ialdN dX3_shiftEarlier_28 (show 19 + c < 117 by have := ((by omega) : c < 6); omega) (sh_val14 (by omega)) (by omega) (by decide) ?_
        refine R_iload_n dX3_shiftEarlier_29 rfl ?_
        refine R_iadd dX3_shiftEarlier_30 ?_
        refine R_iastN dX3_shiftEarlier_31 (show 19 + c < 117 by have := ((by omega) : c < 6); omega) (sh_val14 (by omega)) (by omega) (by decide) ?_
        rw [qShift_s M c i s (by rw [← qShift_at M c i s]; exact h_13)]
        refine R_iincN (n := 1) (L' := [(0, .ref 14), (1, .int (nI c)), (2, .int (nI y)), (3, .int (s)), (4, .int (nI (i + 1)))]) dX3_shiftEarlier_32 rfl (by decide) (qs1 rfl (qs1 rfl (qs1 rfl (qs1 rfl (qs1 rfl qs0))))) ?_
        refine R_goto (tgt := 3) dX3_shiftEarlier_35 (by decide) ?_
        refine R_ls (L' := [(0, .ref 14), (1, .int (nI c)), (2, .int (nI y)), (3, .int (s)), (4, .int (nI (i + 1)))]) (qs1 rfl (qs1 rfl (qs1 rfl (qs1 rfl (qs1 rfl qs0))))) ?_
        exact (by first | exact ih (i + 1) (by omega) (by omega) | (rw [qShift_n M c i s (by rw [← qShift_at M c i s]; exact Classical.not_not.mp h_13)]; exact ih (i + 1) (by omega) (by omega)))
      · refine R_if_eqN (tgt := 32) dX3_shiftEarlier_16 (by decide) (by omega) (fun h_16 => ?_) (fun h_16 => by exact absurd h_16 (by decide))
        refine R_iincN (n := 1) (L' := [(0, .ref 14), (1, .int (nI c)), (2, .int (nI y)), (3, .int (s)), (4, .int (nI (i + 1)))]) dX3_shiftEarlier_32 rfl (by decide) (qs1 rfl (qs1 rfl (qs1 rfl (qs1 rfl (qs1 rfl qs0))))) ?_
        refine R_goto (tgt := 3) dX3_shiftEarlier_35 (by decide) ?_
        refine R_ls (L' := [(0, .ref 14), (1, .int (nI c)), (2, .int (nI y)), (3, .int (s)), (4, .int (nI (i + 1)))]) (qs1 rfl (qs1 rfl (qs1 rfl (qs1 rfl (qs1 rfl qs0))))) ?_
        exact (by first | exact ih (i + 1) (by omega) (by omega) | (rw [qShift_n M c i s (by rw [← qShift_at M c i s]; exact Classical.not_not.mp h_13)]; exact ih (i + 1) (by omega) (by omega)))
set_option maxRecDepth 100000 in
set_option maxHeartbeats 4000000 in
theorem c_shift {M : qMem} {c y : Nat} {s : Int32} (hc : c < 6) (hy : y ≤ 16) : qSem 0 mX3_shiftEarlier [.ref 14, .int (nI c), .int (nI y), .int (s)] M (qv (qIs (qShift M c y s) 14 7 (M.1 14 7 + nI 1))) := by
  refine qSem.of (by decide +kernel) (Nat.le_of_ble_eq_true rfl) (fun w => ?_)
  refine R_ls (L' := [(0, .ref 14), (1, .int (nI c)), (2, .int (nI y)), (3, .int (s))]) (qs1 rfl (qs1 rfl (qs1 rfl (qs1 rfl qs0)))) ?_
  refine R_iconst (v := nI 0) dX3_shiftEarlier_0 rfl ?_
  refine R_istore (L' := [(0, .ref 14), (1, .int (nI c)), (2, .int (nI y)), (3, .int (s)), (4, .int (nI 0))]) dX3_shiftEarlier_1 (by decide) (qs1 rfl (qs1 rfl (qs1 rfl (qs1 rfl (qs1 rfl qs0))))) ?_
  refine R_ls (L' := [(0, .ref 14), (1, .int (nI c)), (2, .int (nI y)), (3, .int (s)), (4, .int (nI 0))]) (qs1 rfl (qs1 rfl (qs1 rfl (qs1 rfl (qs1 rfl qs0))))) ?_
  exact (by have h := l_shift (w := w) (M := M) (s := s) hc hy (y + 2) 0 (by omega) (by omega); rw [qShift_0] at h; exact h)
set_option maxRecDepth 100000 in
set_option maxHeartbeats 4000000 in
theorem c_sqd {M : qMem} {d : dT} (hX : XR 14 M d) (hB : dB d) {u v : Nat} (hu : u < dK d) (hv : v < dK d) : qSem 0 mX3_squaredDistance [.ref 14, .int (nI u), .int (nI v)] M (qr (sqd d u v) M) := by
  have hK6 := hB.2.1
  refine qSem.of (by decide +kernel) (Nat.le_of_ble_eq_true rfl) (fun w => ?_)
  refine R_ls (L' := [(0, .ref 14), (1, .int (nI u)), (2, .int (nI v))]) (qs1 rfl (qs1 rfl (qs1 rfl qs0))) ?_
  refine R_aload_n dX3_squaredDistance_0 rfl ?_
  refine R_getR dX3_squaredDistance_1 lg_RX3_9 (by decide) rfl rfl ?_
  refine R_iload_n dX3_squaredDistance_4 rfl ?_
  refine R_ialdN dX3_squaredDistance_5 (by decide) rfl (by omega) (by decide) ?_
  refine R_aload_n dX3_squaredDistance_6 rfl ?_
  refine R_getR dX3_squaredDistance_7 lg_RX3_9 (by decide) rfl rfl ?_
  refine R_iload_n dX3_squaredDistance_10 rfl ?_
  refine R_ialdN dX3_squaredDistance_11 (by decide) rfl (by omega) (by decide) ?_
  refine R_isub dX3_squaredDistance_12 ?_
  refine R_istore_n (L' := [(0, .ref 14), (1, .int (nI u)), (2, .int (nI v)), (3, .int _)]) dX3_squaredDistance_13 (by decide) (qs1 rfl (qs1 rfl (qs1 rfl (qs1 rfl qs0)))) ?_
  refine R_aload_n dX3_squaredDistance_14 rfl ?_
  refine R_getR dX3_squaredDistance_15 lg_RX3_15 (by decide) rfl rfl ?_
  refine R_iload_n dX3_squaredDistance_18 rfl ?_
  refine R_ialdN dX3_squaredDistance_19 (by decide) rfl (by omega) (by decide) ?_
  refine R_aload_n dX3_squaredDistance_20 rfl ?_
  refine R_getR dX3_squaredDistance_21 lg_RX3_15 (by decide) rfl rfl ?_
  refine R_iload_n dX3_squaredDistance_24 rfl ?_
  refine R_ialdN dX3_squaredDistance_25 (by decide) rfl (by omega) (by decide) ?_
  refine R_isub dX3_squaredDistance_26 ?_
  refine R_istore (L' := [(0, .ref 14), (1, .int (nI u)), (2, .int (nI v)), (3, .int _), (4, .int _)]) dX3_squaredDistance_27 (by decide) (qs1 rfl (qs1 rfl (qs1 rfl (qs1 rfl (qs1 rfl qs0))))) ?_
  refine R_iload_n dX3_squaredDistance_29 rfl ?_
  refine R_iload_n dX3_squaredDistance_30 rfl ?_
  refine R_imul dX3_squaredDistance_31 ?_
  refine R_iload dX3_squaredDistance_32 rfl ?_
  refine R_iload dX3_squaredDistance_34 rfl ?_
  refine R_imul dX3_squaredDistance_36 ?_
  refine R_iadd dX3_squaredDistance_37 ?_
  refine R_ireturn dX3_squaredDistance_38 rfl rfl ?_
  exact ⟨by simp only [sqd, hX.2.2.1 u hu, hX.2.2.1 v hv, hX.2.2.2.1 u hu, hX.2.2.2.1 v hv], rfl⟩
set_option maxRecDepth 100000 in
set_option maxHeartbeats 4000000 in
theorem l_rank {w : qWT} {M : qMem} {d : dT} (hX : XR 14 M d) (hB : dB d) {c q : Nat} (hc : c < dK d) (hq : q < dK d) : ∀ (fu : Nat) (i : Nat), (dK d + 1 - i) < fu → (i ≤ dK d) → qRW 0 w mX3_rank 13 [(0, .ref 14), (1, .int (nI c)), (2, .int (nI q)), (3, .int (sqd d c q)), (4, .int (nI (rnkTo d c q i))), (5, .int (nI i))] [] M (qr (nI (rnk d c q)) M) := by
  intro fu
  induction fu with
  | zero => intro i hn; exact absurd hn (Nat.not_lt_zero _)
  | succ fu ih =>
    intro i hn hi
    have hK6 := hB.2.1
    have hle := rnkTo_le d c q i
    refine R_iload dX3_rank_13 rfl ?_
    refine R_aload_n dX3_rank_15 rfl ?_
    refine R_getI dX3_rank_16 (lf_RX3_30).get (by decide) rfl rfl ?_
    refine R_top (y := nI (dK d)) hX.2.1 ?_
    refine R_icmp_geN (tgt := 64) dX3_rank_19 (by decide) (by omega) (by omega) (fun h_19 => ?_) (fun h_19 => ?_)
    · refine R_iload dX3_rank_64 rfl ?_
      refine R_ireturn dX3_rank_66 rfl rfl ?_
      have e : i = dK d := by omega
      subst e
      exact ⟨rfl, rfl⟩
    · refine R_aload_n dX3_rank_22 rfl ?_
      refine R_iload_n dX3_rank_23 rfl ?_
      refine R_iload dX3_rank_24 rfl ?_
      refine R_callV (mc := mX3_squaredDistance) (As := [_, _]) (r := 14) dX3_rank_26 lm_RX3_54 mv_X3_squaredDistance rfl (by decide) rfl rfl rfl rfl (Nat.le_of_ble_eq_true rfl) (c_sqd hX hB hc (by omega)) ?_
      rintro _ _ ⟨rfl, rfl⟩
      refine R_istore (L' := [(0, .ref 14), (1, .int (nI c)), (2, .int (nI q)), (3, .int (sqd d c q)), (4, .int (nI (rnkTo d c q i))), (5, .int (nI i)), (6, .int (sqd d c i))]) dX3_rank_29 (by decide) (qs1 rfl (qs1 rfl (qs1 rfl (qs1 rfl (qs1 rfl (qs1 rfl (qs1 rfl qs0))))))) ?_
      refine R_iload dX3_rank_31 rfl ?_
      refine R_iload_n dX3_rank_33 rfl ?_
      refine R_icmp_eqN (tgt := 58) dX3_rank_34 (by decide) (by omega) (by omega) (fun h_34 => ?_) (fun h_34 => ?_)
      · refine R_iincN (n := 1) (L' := [(0, .ref 14), (1, .int (nI c)), (2, .int (nI q)), (3, .int (sqd d c q)), (4, .int (nI (rnkTo d c q i))), (5, .int (nI (i + 1))), (6, .int (sqd d c i))]) dX3_rank_58 rfl (by decide) (qs1 rfl (qs1 rfl (qs1 rfl (qs1 rfl (qs1 rfl (qs1 rfl (qs1 rfl qs0))))))) ?_
        refine R_goto (tgt := 13) dX3_rank_61 (by decide) ?_
        refine R_ls (L' := [(0, .ref 14), (1, .int (nI c)), (2, .int (nI q)), (3, .int (sqd d c q)), (4, .int (nI (rnkTo d c q i))), (5, .int (nI (i + 1)))]) (qs1 rfl (qs1 rfl (qs1 rfl (qs1 rfl (qs1 rfl (qs1 rfl qs0)))))) ?_
        exact (by have h := ih (i + 1) (by omega) (by omega); rw [show rnkTo d c q (i + 1) = rnkTo d c q i + (if nearr d c q i then 1 else 0) from rfl] at h; first | (rw [if_pos (by simp_all [nearr])] at h; exact h) | (rw [if_neg (by simp_all [nearr]; done)] at h; exact h) | (rw [if_neg (by simp_all [nearr]; omega)] at h; exact h))
      · refine R_iload dX3_rank_37 rfl ?_
        refine R_iload_n dX3_rank_39 rfl ?_
        refine R_icmp_lt (tgt := 55) dX3_rank_40 (by decide) (fun h_40 => ?_) (fun h_40 => ?_)
        · refine R_iincN (n := 1) (L' := [(0, .ref 14), (1, .int (nI c)), (2, .int (nI q)), (3, .int (sqd d c q)), (4, .int (nI ((rnkTo d c q i) + 1))), (5, .int (nI i)), (6, .int (sqd d c i))]) dX3_rank_55 rfl (by decide) (qs1 rfl (qs1 rfl (qs1 rfl (qs1 rfl (qs1 rfl (qs1 rfl (qs1 rfl qs0))))))) ?_
          refine R_iincN (n := 1) (L' := [(0, .ref 14), (1, .int (nI c)), (2, .int (nI q)), (3, .int (sqd d c q)), (4, .int (nI ((rnkTo d c q i) + 1))), (5, .int (nI (i + 1))), (6, .int (sqd d c i))]) dX3_rank_58 rfl (by decide) (qs1 rfl (qs1 rfl (qs1 rfl (qs1 rfl (qs1 rfl (qs1 rfl (qs1 rfl qs0))))))) ?_
          refine R_goto (tgt := 13) dX3_rank_61 (by decide) ?_
          refine R_ls (L' := [(0, .ref 14), (1, .int (nI c)), (2, .int (nI q)), (3, .int (sqd d c q)), (4, .int (nI ((rnkTo d c q i) + 1))), (5, .int (nI (i + 1)))]) (qs1 rfl (qs1 rfl (qs1 rfl (qs1 rfl (qs1 rfl (qs1 rfl qs0)))))) ?_
          exact (by have h := ih (i + 1) (by omega) (by omega); rw [show rnkTo d c q (i + 1) = rnkTo d c q i + (if nearr d c q i then 1 else 0) from rfl] at h; first | (rw [if_pos (by simp_all [nearr])] at h; exact h) | (rw [if_neg (by simp_all [nearr]; done)] at h; exact h) | (rw [if_neg (by simp_all [nearr]; omega)] at h; exact h))
        · refine R_iload dX3_rank_43 rfl ?_
          refine R_iload_n dX3_rank_45 rfl ?_
          refine R_icmp_ne (tgt := 58) dX3_rank_46 (by decide) (fun h_46 => ?_) (fun h_46 => ?_)
          · refine R_iincN (n := 1) (L' := [(0, .ref 14), (1, .int (nI c)), (2, .int (nI q)), (3, .int (sqd d c q)), (4, .int (nI (rnkTo d c q i))), (5, .int (nI (i + 1))), (6, .int (sqd d c i))]) dX3_rank_58 rfl (by decide) (qs1 rfl (qs1 rfl (qs1 rfl (qs1 rfl (qs1 rfl (qs1 rfl (qs1 rfl qs0))))))) ?_
            refine R_goto (tgt := 13) dX3_rank_61 (by decide) ?_
            refine R_ls (L' := [(0, .ref 14), (1, .int (nI c)), (2, .int (nI q)), (3, .int (sqd d c q)), (4, .int (nI (rnkTo d c q i))), (5, .int (nI (i + 1)))]) (qs1 rfl (qs1 rfl (qs1 rfl (qs1 rfl (qs1 rfl (qs1 rfl qs0)))))) ?_
            exact (by have h := ih (i + 1) (by omega) (by omega); rw [show rnkTo d c q (i + 1) = rnkTo d c q i + (if nearr d c q i then 1 else 0) from rfl] at h; first | (rw [if_pos (by simp_all [nearr])] at h; exact h) | (rw [if_neg (by simp_all [nearr]; done)] at h; exact h) | (rw [if_neg (by simp_all [nearr]; omega)] at h; exact h))
          · refine R_iload dX3_rank_49 rfl ?_
            refine R_iload_n dX3_rank_51 rfl ?_
            refine R_icmp_geN (tgt := 58) dX3_rank_52 (by decide) (by omega) (by omega) (fun h_52 => ?_) (fun h_52 => ?_)
            · refine R_iincN (n := 1) (L' := [(0, .ref 14), (1, .int (nI c)), (2, .int (nI q)), (3, .int (sqd d c q)), (4, .int (nI (rnkTo d c q i))), (5, .int (nI (i + 1))), (6, .int (sqd d c i))]) dX3_rank_58 rfl (by decide) (qs1 rfl (qs1 rfl (qs1 rfl (qs1 rfl (qs1 rfl (qs1 rfl (qs1 rfl qs0))))))) ?_
              refine R_goto (tgt := 13) dX3_rank_61 (by decide) ?_
              refine R_ls (L' := [(0, .ref 14), (1, .int (nI c)), (2, .int (nI q)), (3, .int (sqd d c q)), (4, .int (nI (rnkTo d c q i))), (5, .int (nI (i + 1)))]) (qs1 rfl (qs1 rfl (qs1 rfl (qs1 rfl (qs1 rfl (qs1 rfl qs0)))))) ?_
              exact (by have h := ih (i + 1) (by omega) (by omega); rw [show rnkTo d c q (i + 1) = rnkTo d c q i + (if nearr d c q i then 1 else 0) from rfl] at h; first | (rw [if_pos (by simp_all [nearr])] at h; exact h) | (rw [if_neg (by simp_all [nearr]; done)] at h; exact h) | (rw [if_neg (by simp_all [nearr]; omega)] at h; exact h))
            · refine R_iincN (n := 1) (L' := [(0, .ref 14), (1, .int (nI c)), (2, .int (nI q)), (3, .int (sqd d c q)), (4, .int (nI ((rnkTo d c q i) + 1))), (5, .int (nI i)), (6, .int (sqd d c i))]) dX3_rank_55 rfl (by decide) (qs1 rfl (qs1 rfl (qs1 rfl (qs1 rfl (qs1 rfl (qs1 rfl (qs1 rfl qs0))))))) ?_
              refine R_iincN (n := 1) (L' := [(0, .ref 14), (1, .int (nI c)), (2, .int (nI q)), (3, .int (sqd d c q)), (4, .int (nI ((rnkTo d c q i) + 1))), (5, .int (nI (i + 1))), (6, .int (sqd d c i))]) dX3_rank_58 rfl (by decide) (qs1 rfl (qs1 rfl (qs1 rfl (qs1 rfl (qs1 rfl (qs1 rfl (qs1 rfl qs0))))))) ?_
              refine R_goto (tgt := 13) dX3_rank_61 (by decide) ?_
              refine R_ls (L' := [(0, .ref 14), (1, .int (nI c)), (2, .int (nI q)), (3, .int (sqd d c q)), (4, .int (nI ((rnkTo d c q i) + 1))), (5, .int (nI (i + 1)))]) (qs1 rfl (qs1 rfl (qs1 rfl (qs1 rfl (qs1 rfl (qs1 rfl qs0)))))) ?_
              exact (by have h := ih (i + 1) (by omega) (by omega); rw [show rnkTo d c q (i + 1) = rnkTo d c q i + (if nearr d c q i then 1 else 0) from rfl] at h; first | (rw [if_pos (by simp_all [nearr])] at h; exact h) | (rw [if_neg (by simp_all [nearr]; done)] at h; exact h) | (rw [if_neg (by simp_all [nearr]; omega)] at h; exact h))
set_option maxRecDepth 100000 in
set_option maxHeartbeats 4000000 in
theorem c_rank {M : qMem} {d : dT} (hX : XR 14 M d) (hB : dB d) {c q : Nat} (hc : c < dK d) (hq : q < dK d) : qSem 0 mX3_rank [.ref 14, .int (nI c), .int (nI q)] M (qr (nI (rnk d c q)) M) := by
  refine qSem.of (by decide +kernel) (Nat.le_of_ble_eq_true rfl) (fun w => ?_)
  refine R_ls (L' := [(0, .ref 14), (1, .int (nI c)), (2, .int (nI q))]) (qs1 rfl (qs1 rfl (qs1 rfl qs0))) ?_
  refine R_aload_n dX3_rank_0 rfl ?_
  refine R_iload_n dX3_rank_1 rfl ?_
  refine R_iload_n dX3_rank_2 rfl ?_
  refine R_callV (mc := mX3_squaredDistance) (As := [_, _]) (r := 14) dX3_rank_3 lm_RX3_54 mv_X3_squaredDistance rfl (by decide) rfl rfl rfl rfl (Nat.le_of_ble_eq_true rfl) (c_sqd hX hB hc hq) ?_
  rintro _ _ ⟨rfl, rfl⟩
  refine R_istore_n (L' := [(0, .ref 14), (1, .int (nI c)), (2, .int (nI q)), (3, .int (sqd d c q))]) dX3_rank_6 (by decide) (qs1 rfl (qs1 rfl (qs1 rfl (qs1 rfl qs0)))) ?_
  refine R_iconst (v := nI 0) dX3_rank_7 rfl ?_
  refine R_istore (L' := [(0, .ref 14), (1, .int (nI c)), (2, .int (nI q)), (3, .int (sqd d c q)), (4, .int (nI 0))]) dX3_rank_8 (by decide) (qs1 rfl (qs1 rfl (qs1 rfl (qs1 rfl (qs1 rfl qs0))))) ?_
  refine R_iconst (v := nI 0) dX3_rank_10 rfl ?_
  refine R_istore (L' := [(0, .ref 14), (1, .int (nI c)), (2, .int (nI q)), (3, .int (sqd d c q)), (4, .int (nI 0)), (5, .int (nI 0))]) dX3_rank_11 (by decide) (qs1 rfl (qs1 rfl (qs1 rfl (qs1 rfl (qs1 rfl (qs1 rfl qs0)))))) ?_
  refine R_ls (L' := [(0, .ref 14), (1, .int (nI c)), (2, .int (nI q)), (3, .int (sqd d c q)), (4, .int (nI 0)), (5, .int (nI 0))]) (qs1 rfl (qs1 rfl (qs1 rfl (qs1 rfl (qs1 rfl (qs1 rfl qs0)))))) ?_
  exact l_rank hX hB hc hq (dK d + 2) 0 (by omega) (by omega)
set_option maxRecDepth 100000 in
set_option maxHeartbeats 4000000 in
theorem c_arePair {M : qMem} {d : dT} (hX : XR 14 M d) (hB : dB d) {u v : Nat} (hu : u < dK d) (hv : v < dK d) : qSem 0 mX3_arePair [.ref 14, .int (nI u), .int (nI v)] M (qb (prb d u v = true) M) := by
  have hK6 := hB.2.1
  have hN := hB.2.2.2.2.1
  have h1 := rnkTo_le d u v (dK d)
  have h2 := rnkTo_le d v u (dK d)
  have e1 : rnk d u v = rnkTo d u v (dK d) := rfl
  have e2 : rnk d v u = rnkTo d v u (dK d) := rfl
  refine qSem.of (by decide +kernel) (Nat.le_of_ble_eq_true rfl) (fun w => ?_)
  refine R_ls (L' := [(0, .ref 14), (1, .int (nI u)), (2, .int (nI v))]) (qs1 rfl (qs1 rfl (qs1 rfl qs0))) ?_
  refine R_aload_n dX3_arePair_0 rfl ?_
  refine R_iload_n dX3_arePair_1 rfl ?_
  refine R_iload_n dX3_arePair_2 rfl ?_
  refine R_callV (mc := mX3_rank) (As := [_, _]) (r := 14) dX3_arePair_3 lm_RX3_58 mv_X3_rank rfl (by decide) rfl rfl rfl rfl (Nat.le_of_ble_eq_true rfl) (c_rank hX hB hu hv) ?_
  rintro _ _ ⟨rfl, rfl⟩
  refine R_aload_n dX3_arePair_6 rfl ?_
  refine R_getR dX3_arePair_7 lg_RX3_23 (by decide) rfl rfl ?_
  refine R_iconst (v := nI 1) dX3_arePair_10 rfl ?_
  refine R_ialdN dX3_arePair_11 (by decide) rfl (by omega) (by decide) ?_
  refine R_top (y := nI (dR d 1)) (hX.2.2.2.2.2.2 1 (by omega)) ?_
  refine R_icmp_ltN (tgt := 30) dX3_arePair_12 (by decide) (by omega) (by omega) (fun h_12 => ?_) (fun h_12 => ?_)
  · refine R_iconst (v := nI 1) dX3_arePair_30 rfl ?_
    refine R_goto (tgt := 35) dX3_arePair_31 (by decide) ?_
    refine R_ireturn dX3_arePair_35 rfl rfl ?_
    exact ⟨rfl, by rw [prb_iff]; first | exact Or.inl ⟨rfl, by omega⟩ | exact Or.inr ⟨rfl, by omega⟩⟩
  · refine R_aload_n dX3_arePair_15 rfl ?_
    refine R_iload_n dX3_arePair_16 rfl ?_
    refine R_iload_n dX3_arePair_17 rfl ?_
    refine R_callV (mc := mX3_rank) (As := [_, _]) (r := 14) dX3_arePair_18 lm_RX3_58 mv_X3_rank rfl (by decide) rfl rfl rfl rfl (Nat.le_of_ble_eq_true rfl) (c_rank hX hB hv hu) ?_
    rintro _ _ ⟨rfl, rfl⟩
    refine R_aload_n dX3_arePair_21 rfl ?_
    refine R_getR dX3_arePair_22 lg_RX3_23 (by decide) rfl rfl ?_
    refine R_iconst (v := nI 1) dX3_arePair_25 rfl ?_
    refine R_ialdN dX3_arePair_26 (by decide) rfl (by omega) (by decide) ?_
    refine R_top (y := nI (dR d 1)) (hX.2.2.2.2.2.2 1 (by omega)) ?_
    refine R_icmp_geN (tgt := 34) dX3_arePair_27 (by decide) (by omega) (by omega) (fun h_27 => ?_) (fun h_27 => ?_)
    · refine R_iconst (v := nI 0) dX3_arePair_34 rfl ?_
      refine R_ireturn dX3_arePair_35 rfl rfl ?_
      exact ⟨rfl, by rw [prb_iff]; first | exact Or.inl ⟨rfl, by omega⟩ | exact Or.inr ⟨rfl, by omega⟩⟩
    · refine R_iconst (v := nI 1) dX3_arePair_30 rfl ?_
      refine R_goto (tgt := 35) dX3_arePair_31 (by decide) ?_
      refine R_ireturn dX3_arePair_35 rfl rfl ?_
      exact ⟨rfl, by rw [prb_iff]; first | exact Or.inl ⟨rfl, by omega⟩ | exact Or.inr ⟨rfl, by omega⟩⟩
