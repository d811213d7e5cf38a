set_option maxRecDepth 100000 in
set_option maxHeartbeats 4000000 in
theorem p_mend1 {M : qMem} {s : sT} (hI : MI M s) (hs : sOk s) {i : Int32} (hlt : i < 0) : qSem 1 mX8_mend [.ref 0, .int (i)] M (fun r N => r = some (.int (rMend s i).1) ∧ MI N (rMend s i).2) := by
  refine qSem.of (by decide +kernel) (Nat.le_of_ble_eq_true rfl) (fun w => ?_)
  refine R_ls (L' := [(0, .ref 0), (1, .int (i))]) (qs1 rfl (qs1 rfl qs0)) ?_
  refine R_iload_n dX8_mend_0 rfl ?_
  refine R_if_ge (tgt := 6) dX8_mend_1 (by decide) (fun h_1 => by exact absurd h_1 (Int32.not_le.mpr hlt)) (fun h_1 => ?_)
  refine R_iconst (v := -1) dX8_mend_4 rfl ?_
  refine R_ireturn dX8_mend_5 rfl rfl ?_
  refine ⟨?_, ?_⟩ <;> unfold rMend <;> rw [if_pos hlt]
  exact hI

theorem p_mend {M : qMem} {s : sT} (hI : MI M s) (hs : sOk s) {i : Int32} : qSem 1 mX8_mend [.ref 0, .int i] M (fun r N => r = some (.int (rMend s i).1) ∧ MI N (rMend s i).2) := by
  by_cases h : i < 0
  · exact p_mend1 hI hs h
  · have h2 := h
    obtain ⟨ci, hci, rfl⟩ := q_ge0 h
    have e : rMend s (nI ci) = rMd s ci := by unfold rMend; rw [if_neg h2, kn_n (by omega)]
    rw [e]; exact p_md hI hs hci

theorem MI_tx {M N : qMem} {s : sT} {x : List Nat} (h : MI M s) (e : ∀ o, 2 ≤ o → N.1 o = M.1 o) (e0 : ∀ k, k ≠ 0 → N.1 0 k = M.1 0 k) (hT : MT N x) : MI N (chX s x) := by
  obtain ⟨h1, h2, h3, h4, h5, h6⟩ := h
  exact ⟨h1.off (e0 2 (by decide)) (e0 3 (by decide)) (e 2 (by decide)) (e 3 (by decide)) (e 4 (by decide)), h2.off (by rw [e 4 (by decide)]) (e 9 (by decide)), hT, by rw [e0 13 (by decide)]; exact h4, h5.off (e 8 (by decide)), fun z => (h6 (by rw [e0 22 (by decide)] at z; exact z)).off (e0 25 (by decide)) (fun o a b => e o (by omega))⟩
theorem MT_app {M : qMem} {tx : List Nat} {c : Nat} (hT : MT M tx) : MT (qIs (qIs M 1 tx.length (nI c)) 0 0 (nI (tx.length + 1))) (tx ++ [c]) := by
  refine ⟨by rw [qIs_eq, List.length_append]; rfl, fun i hi => ?_⟩
  rw [List.length_append] at hi
  rw [qIs_no (by decide), qIs_1]
  rcases Nat.lt_or_ge i tx.length with q | q
  · rw [if_neg (by omega), hT.2 i q]; unfold lt
    rw [List.getD_eq_getElem?_getD, List.getD_eq_getElem?_getD, List.getElem?_append_left q]
  · have e : i = tx.length := by simp at hi; omega
    subst e; rw [if_pos ⟨rfl, rfl⟩]; unfold lt; simp
set_option maxRecDepth 100000 in
set_option maxHeartbeats 4000000 in
theorem p_write {M : qMem} {s : sT} (hI : MI M s) (hs : sOk s) {x : Int32} : qSem 1 mX8_write [.ref 0, .int (x)] M (fun r N => r = some (.int (rWrite s x).1) ∧ MI N (rWrite s x).2) := by
  have hX := hI.1
  have hB := hs.1
  have hK6 := hB.2.1
  have hY16 := hB.1
  have hY4 := hs.2.1.1
  have hK2 := hs.2.1.2
  have hT := hI.2.2.1
  have htB := hs.2.2.1
  have ht200 := htB.1
  refine qSem.of (by decide +kernel) (Nat.le_of_ble_eq_true rfl) (fun w => ?_)
  refine R_ls (L' := [(0, .ref 0), (1, .int (x))]) (qs1 rfl (qs1 rfl qs0)) ?_
  refine R_iload_n dX8_write_0 rfl ?_
  refine R_i2l dX8_write_1 ?_
  refine R_ldc2 dX8_write_2 lc_RX8_94 ?_
  refine R_ldc2 dX8_write_5 lc_RX8_96 ?_
  refine R_callS (mc := mX8_in) (As := [_, _, _]) dX8_write_8 lm_RX8_98 mv_X8_in rfl rfl rfl (Nat.le_of_ble_eq_true rfl) m_in ?_
  rintro _ _ ⟨rfl, ⟨rfl, hq⟩ | ⟨rfl, hq⟩⟩
  · rw [in_ab (a := nI 32) (c := nI 126) (x := 32) (y := 126) rfl rfl] at hq
    obtain ⟨cx, hcx, rfl⟩ := nI_of (x := x) (fun z => absurd (Int32.le_trans (show (0 : Int32) ≤ nI 32 by decide) hq.1) (Int32.not_le.mpr z))
    have k1 := (nI_leI (by omega) (by omega)).mp hq.1
    have k2 := (nI_leI (by omega) (by omega)).mp hq.2
    have hr2 : ¬ (nI cx < nI 32 ∨ nI 126 < nI cx) := fun z => by rcases z with z | z; exact absurd hq.1 (Int32.not_le.mpr z); exact absurd hq.2 (Int32.not_le.mpr z)
    refine R_if_neN (tgt := 16) dX8_write_11 (by decide) (by omega) (fun h_11 => ?_) (fun h_11 => by exact absurd h_11 (by decide))
    refine R_aload_n dX8_write_16 rfl ?_
    refine R_getI dX8_write_17 (lf_RX8_102).get (by decide) rfl rfl ?_
    refine R_top (y := nI ((sX s).length)) hT.1 ?_
    refine R_sipush (v := nI 200) dX8_write_20 rfl ?_
    refine R_icmp_neN (tgt := 29) dX8_write_23 (by decide) (by omega) (by omega) (fun h_23 => ?_) (fun h_23 => ?_)
    · refine R_aload_n dX8_write_29 rfl ?_
      refine R_getR dX8_write_30 lg_RX8_7 (by decide) rfl rfl ?_
      refine R_aload_n dX8_write_33 rfl ?_
      refine R_getI dX8_write_34 (lf_RX8_102).get (by decide) rfl rfl ?_
      refine R_top (y := nI ((sX s).length)) hT.1 ?_
      refine R_iload_n dX8_write_37 rfl ?_
      refine R_iastN dX8_write_38 (by decide) rfl (by omega) (by decide) ?_
      refine R_aload_n dX8_write_39 rfl ?_
      refine R_dup dX8_write_40 rfl ?_
      refine R_getI dX8_write_41 (lf_RX8_102).get (by decide) rfl rfl ?_
      refine R_top (y := nI ((sX s).length)) hT.1 ?_
      refine R_iconst (v := nI 1) dX8_write_44 rfl ?_
      refine R_iaddN dX8_write_45 ?_
      refine R_putI dX8_write_46 lf_RX8_102 (by decide) rfl rfl rfl rfl ?_
      refine R_aload_n dX8_write_49 rfl ?_
      refine R_getI dX8_write_50 (lf_RX8_102).get (by decide) rfl rfl ?_
      refine R_top (y := nI ((sX s).length + 1)) (by rw [qIs_eq]) ?_
      refine R_ireturn dX8_write_53 rfl rfl ?_
      have hl : (sX s).length < 200 := by have := htB.1; omega
      refine ⟨?_, ?_⟩ <;> unfold rWrite <;> rw [if_neg hr2, if_pos hl]
      rw [kn_n (by omega)]
      exact MI_tx hI (fun o h1 => by rw [qIs_no (by omega), qIs_no (by omega)]) (fun k hk => by rw [qIs_nk hk, qIs_no (by decide)]) (MT_app hT)
    · refine R_bipush (v := -3) dX8_write_26 rfl ?_
      refine R_ireturn dX8_write_28 rfl rfl ?_
      refine ⟨?_, ?_⟩ <;> unfold rWrite <;> rw [if_neg hr2, if_neg (by omega)]
      exact hI
  · rw [in_ab (a := nI 32) (c := nI 126) (x := 32) (y := 126) rfl rfl] at hq
    have hr : x < nI 32 ∨ nI 126 < x := by rcases Int32.lt_or_le x (nI 32) with z | z; exact Or.inl z; exact Or.inr (Int32.not_le.mp (fun z2 => hq ⟨z, z2⟩))
    refine R_if_neN (tgt := 16) dX8_write_11 (by decide) (by omega) (fun h_11 => by exact absurd h_11 (by decide)) (fun h_11 => ?_)
    refine R_iconst (v := -1) dX8_write_14 rfl ?_
    refine R_ireturn dX8_write_15 rfl rfl ?_
    refine ⟨?_, ?_⟩ <;> unfold rWrite <;> rw [if_pos hr]
    exact hI
set_option maxRecDepth 100000 in
set_option maxHeartbeats 4000000 in
theorem p_wipe {M : qMem} {s : sT} (hI : MI M s) (hs : sOk s) : qSem 1 mX8_wipe [.ref 0] M (fun r N => r = some (.int (rWipe s).1) ∧ MI N (rWipe s).2) := by
  have hT := hI.2.2.1
  refine qSem.of (by decide +kernel) (Nat.le_of_ble_eq_true rfl) (fun w => ?_)
  refine R_ls (L' := [(0, .ref 0)]) (qs1 rfl qs0) ?_
  refine R_aload_n dX8_wipe_0 rfl ?_
  refine R_getI dX8_wipe_1 (lf_RX8_102).get (by decide) rfl rfl ?_
  refine R_top (y := nI ((sX s).length)) hT.1 ?_
  refine R_istore_n (L' := [(0, .ref 0), (1, .int (nI ((sX s).length)))]) dX8_wipe_4 (by decide) (qs1 rfl (qs1 rfl qs0)) ?_
  refine R_aload_n dX8_wipe_5 rfl ?_
  refine R_iconst (v := nI 0) dX8_wipe_6 rfl ?_
  refine R_putI dX8_wipe_7 lf_RX8_102 (by decide) rfl rfl rfl rfl ?_
  refine R_iload_n dX8_wipe_10 rfl ?_
  refine R_ireturn dX8_wipe_11 rfl rfl ?_
  exact ⟨rfl, MI_tx hI (fun o h1 => by rw [qIs_no (by omega)]) (fun k hk => by rw [qIs_nk hk]) ⟨by rw [qIs_eq]; rfl, fun i hi => absurd hi (Nat.not_lt_zero i)⟩⟩
