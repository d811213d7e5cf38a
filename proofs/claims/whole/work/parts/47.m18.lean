
-- ===== the model: rules =====
theorem in_ab {v : Int32} {a c : Int32} {x y : Int64} (hx : x = a.toInt64) (hy : y = c.toInt64) : (x ≤ v.toInt64 ∧ v.toInt64 ≤ y) ↔ a ≤ v ∧ v ≤ c := by rw [hx, hy, in64]
theorem rule_r {r : Nat} (hr : r < 4) {v : Int32} (h : qtab 0 r ≤ v ∧ v ≤ qtab 1 r) : ∃ x, v = nI x ∧ rB r x ∧ x ≤ 99999 := by
  obtain ⟨r2, x, h1, h2, h3, h4, h5⟩ := rule_n ((ruleOk_n hr).mpr h)
  have e := (nI_eq (by omega) (by omega)).mp h2
  subst e
  exact ⟨x, h3, h4, h5⟩
set_option maxRecDepth 100000 in
set_option maxHeartbeats 4000000 in
theorem p_rule0 {M : qMem} {s : sT} (hI : MI M s) (hs : sOk s) {v : Int32} : qSem 1 mX8_rule [.ref 0, .int (nI 0), .int (v)] M (fun r N => r = some (.int (rRule s (nI 0) v).1) ∧ MI N (rRule s (nI 0) v).2) := by
  have hX := hI.1
  have hB := hs.1
  have hK6 := hB.2.1
  have hY16 := hB.1
  have hY4 := hs.2.1.1
  have hK2 := hs.2.1.2
  refine qSem.of (by decide +kernel) (Nat.le_of_ble_eq_true rfl) (fun w => ?_)
  refine R_ls (L' := [(0, .ref 0), (1, .int (nI 0)), (2, .int (v))]) (qs1 rfl (qs1 rfl (qs1 rfl qs0))) ?_
  refine R_iload_n dX8_rule_0 rfl ?_
  refine R_if_neN (tgt := 16) dX8_rule_1 (by decide) (by omega) (fun h_1 => by exact absurd h_1 (by decide)) (fun h_1 => ?_)
  refine R_iload_n dX8_rule_4 rfl ?_
  refine R_i2l dX8_rule_5 ?_
  refine R_lconst (v := 1) dX8_rule_6 rfl ?_
  refine R_ldc2 dX8_rule_7 lc_RX8_190 ?_
  refine R_callS (mc := mX8_in) (As := [_, _, _]) dX8_rule_10 lm_RX8_98 mv_X8_in rfl rfl rfl (Nat.le_of_ble_eq_true rfl) m_in ?_
  rintro _ _ ⟨rfl, ⟨rfl, hp⟩ | ⟨rfl, hp⟩⟩
  · have hp2 : qtab 0 0 ≤ v ∧ v ≤ qtab 1 0 := (in_ab (a := 1) (c := 4) rfl rfl).mp hp
    obtain ⟨x, rfl, hrB, hx9⟩ := rule_r (r := 0) (by decide) hp2
    refine R_goto (tgt := 62) dX8_rule_13 (by decide) ?_
    refine R_istore_n (L' := [(0, .ref 0), (1, .int (nI 0)), (2, .int (nI x)), (3, .int (nI 1))]) dX8_rule_62 (by decide) (qs1 rfl (qs1 rfl (qs1 rfl (qs1 rfl qs0)))) ?_
    refine R_iload_n dX8_rule_63 rfl ?_
    refine R_if_neN (tgt := 69) dX8_rule_64 (by decide) (by omega) (fun h_64 => ?_) (fun h_64 => by exact absurd h_64 (by decide))
    refine R_aload_n dX8_rule_69 rfl ?_
    refine R_getR dX8_rule_70 lg_RX8_19 (by decide) rfl rfl ?_
    refine R_bipush (v := nI 97) dX8_rule_73 rfl ?_
    refine R_iload_n dX8_rule_75 rfl ?_
    refine R_iaddN dX8_rule_76 ?_
    refine R_ialdN dX8_rule_77 (by decide) rfl (by omega) (by decide) ?_
    refine R_top (y := nI (dR (sD s) 0)) (hX.r (k := 0) (by decide)) ?_
    refine R_iload_n dX8_rule_78 rfl ?_
    refine R_icmp_ne (tgt := 87) dX8_rule_79 (by decide) (fun h_79 => ?_) (fun h_79 => ?_)
    · refine R_aload_n dX8_rule_87 rfl ?_
      refine R_bipush (v := nI 97) dX8_rule_88 rfl ?_
      refine R_iload_n dX8_rule_90 rfl ?_
      refine R_iaddN dX8_rule_91 ?_
      refine R_iload_n dX8_rule_92 rfl ?_
      refine R_callV (mc := mX8_change) (As := [_, _]) (r := 0) dX8_rule_93 lm_RX8_181 mv_X8_change rfl (by decide) rfl rfl rfl rfl (Nat.le_of_ble_eq_true rfl) (m_change hI hs (i := 97 + 0) (by decide)) ?_
      rintro _ _ ⟨rfl, K2, hN, rfl⟩
      refine R_ireturn dX8_rule_96 rfl rfl ?_
      refine ⟨?_, ?_⟩ <;> unfold rRule <;> rw [if_pos (by decide), kn_n (by decide), if_pos hp2, if_neg h_79]
      · exact congrArg (fun z => some (Value.int z)) (hX.r (k := 0) (by decide))
      rw [kn_n (by omega)]
      exact MI_chR hI hs (by decide) hN rfl
    · refine R_bipush (v := -2) dX8_rule_82 rfl ?_
      refine R_goto (tgt := 96) dX8_rule_84 (by decide) ?_
      refine R_ireturn dX8_rule_96 rfl rfl ?_
      have h_79b : nI (dR (sD s) 0) = nI x := by first | exact h_79 | exact Decidable.not_not.mp h_79
      refine ⟨?_, ?_⟩ <;> unfold rRule <;> rw [if_pos (by decide), kn_n (by decide), if_pos hp2, if_pos h_79b]
      exact hI
  · have hp2 : ¬ (qtab 0 0 ≤ v ∧ v ≤ qtab 1 0) := fun z => hp ((in_ab (a := 1) (c := 4) rfl rfl).mpr z)
    refine R_goto (tgt := 62) dX8_rule_13 (by decide) ?_
    refine R_istore_n (L' := [(0, .ref 0), (1, .int (nI 0)), (2, .int (v)), (3, .int (nI 0))]) dX8_rule_62 (by decide) (qs1 rfl (qs1 rfl (qs1 rfl (qs1 rfl qs0)))) ?_
    refine R_iload_n dX8_rule_63 rfl ?_
    refine R_if_neN (tgt := 69) dX8_rule_64 (by decide) (by omega) (fun h_64 => by exact absurd h_64 (by decide)) (fun h_64 => ?_)
    refine R_iconst (v := -1) dX8_rule_67 rfl ?_
    refine R_ireturn dX8_rule_68 rfl rfl ?_
    refine ⟨?_, ?_⟩ <;> unfold rRule <;> rw [if_pos (by decide), kn_n (by decide), if_neg hp2]
    exact hI
set_option maxRecDepth 100000 in
set_option maxHeartbeats 4000000 in
theorem p_rule1 {M : qMem} {s : sT} (hI : MI M s) (hs : sOk s) {v : Int32} : qSem 1 mX8_rule [.ref 0, .int (nI 1), .int (v)] M (fun r N => r = some (.int (rRule s (nI 1) v).1) ∧ MI N (rRule s (nI 1) v).2) := by
  have hX := hI.1
  have hB := hs.1
  have hK6 := hB.2.1
  have hY16 := hB.1
  have hY4 := hs.2.1.1
  have hK2 := hs.2.1.2
  refine qSem.of (by decide +kernel) (Nat.le_of_ble_eq_true rfl) (fun w => ?_)
  refine R_ls (L' := [(0, .ref 0), (1, .int (nI 1)), (2, .int (v))]) (qs1 rfl (qs1 rfl (qs1 rfl qs0))) ?_
  refine R_iload_n dX8_rule_0 rfl ?_
  refine R_if_neN (tgt := 16) dX8_rule_1 (by decide) (by omega) (fun h_1 => ?_) (fun h_1 => by exact absurd h_1 (by decide))
  refine R_iload_n dX8_rule_16 rfl ?_
  refine R_i2l dX8_rule_17 ?_
  refine R_lconst (v := 1) dX8_rule_18 rfl ?_
  refine R_ldc2 dX8_rule_19 lc_RX8_192 ?_
  refine R_callS (mc := mX8_in) (As := [_, _, _]) dX8_rule_22 lm_RX8_98 mv_X8_in rfl rfl rfl (Nat.le_of_ble_eq_true rfl) m_in ?_
  rintro _ _ ⟨rfl, ⟨rfl, hk⟩ | ⟨rfl, hk⟩⟩
  · refine R_if_eqN (tgt := 40) dX8_rule_25 (by decide) (by omega) (fun h_25 => by exact absurd h_25 (by decide)) (fun h_25 => ?_)
    refine R_iload_n dX8_rule_28 rfl ?_
    refine R_i2l dX8_rule_29 ?_
    refine R_lconst (v := 1) dX8_rule_30 rfl ?_
    refine R_ldc2 dX8_rule_31 lc_RX8_194 ?_
    refine R_callS (mc := mX8_in) (As := [_, _, _]) dX8_rule_34 lm_RX8_98 mv_X8_in rfl rfl rfl (Nat.le_of_ble_eq_true rfl) m_in ?_
    rintro _ _ ⟨rfl, ⟨rfl, hp⟩ | ⟨rfl, hp⟩⟩
    · have hp2 : qtab 0 1 ≤ v ∧ v ≤ qtab 1 1 := (in_ab (a := 1) (c := 5) rfl rfl).mp hp
      obtain ⟨x, rfl, hrB, hx9⟩ := rule_r (r := 1) (by decide) hp2
      refine R_goto (tgt := 62) dX8_rule_37 (by decide) ?_
      refine R_istore_n (L' := [(0, .ref 0), (1, .int (nI 1)), (2, .int (nI x)), (3, .int (nI 1))]) dX8_rule_62 (by decide) (qs1 rfl (qs1 rfl (qs1 rfl (qs1 rfl qs0)))) ?_
      refine R_iload_n dX8_rule_63 rfl ?_
      refine R_if_neN (tgt := 69) dX8_rule_64 (by decide) (by omega) (fun h_64 => ?_) (fun h_64 => by exact absurd h_64 (by decide))
      refine R_aload_n dX8_rule_69 rfl ?_
      refine R_getR dX8_rule_70 lg_RX8_19 (by decide) rfl rfl ?_
      refine R_bipush (v := nI 97) dX8_rule_73 rfl ?_
      refine R_iload_n dX8_rule_75 rfl ?_
      refine R_iaddN dX8_rule_76 ?_
      refine R_ialdN dX8_rule_77 (by decide) rfl (by omega) (by decide) ?_
      refine R_top (y := nI (dR (sD s) 1)) (hX.r (k := 1) (by decide)) ?_
      refine R_iload_n dX8_rule_78 rfl ?_
      refine R_icmp_ne (tgt := 87) dX8_rule_79 (by decide) (fun h_79 => ?_) (fun h_79 => ?_)
      · refine R_aload_n dX8_rule_87 rfl ?_
        refine R_bipush (v := nI 97) dX8_rule_88 rfl ?_
        refine R_iload_n dX8_rule_90 rfl ?_
        refine R_iaddN dX8_rule_91 ?_
        refine R_iload_n dX8_rule_92 rfl ?_
        refine R_callV (mc := mX8_change) (As := [_, _]) (r := 0) dX8_rule_93 lm_RX8_181 mv_X8_change rfl (by decide) rfl rfl rfl rfl (Nat.le_of_ble_eq_true rfl) (m_change hI hs (i := 97 + 1) (by decide)) ?_
        rintro _ _ ⟨rfl, K2, hN, rfl⟩
        refine R_ireturn dX8_rule_96 rfl rfl ?_
        refine ⟨?_, ?_⟩ <;> unfold rRule <;> rw [if_pos (by decide), kn_n (by decide), if_pos hp2, if_neg h_79]
        · exact congrArg (fun z => some (Value.int z)) (hX.r (k := 1) (by decide))
        rw [kn_n (by omega)]
        exact MI_chR hI hs (by decide) hN rfl
      · refine R_bipush (v := -2) dX8_rule_82 rfl ?_
        refine R_goto (tgt := 96) dX8_rule_84 (by decide) ?_
        refine R_ireturn dX8_rule_96 rfl rfl ?_
        have h_79b : nI (dR (sD s) 1) = nI x := by first | exact h_79 | exact Decidable.not_not.mp h_79
        refine ⟨?_, ?_⟩ <;> unfold rRule <;> rw [if_pos (by decide), kn_n (by decide), if_pos hp2, if_pos h_79b]
        exact hI
    · have hp2 : ¬ (qtab 0 1 ≤ v ∧ v ≤ qtab 1 1) := fun z => hp ((in_ab (a := 1) (c := 5) rfl rfl).mpr z)
      refine R_goto (tgt := 62) dX8_rule_37 (by decide) ?_
      refine R_istore_n (L' := [(0, .ref 0), (1, .int (nI 1)), (2, .int (v)), (3, .int (nI 0))]) dX8_rule_62 (by decide) (qs1 rfl (qs1 rfl (qs1 rfl (qs1 rfl qs0)))) ?_
      refine R_iload_n dX8_rule_63 rfl ?_
      refine R_if_neN (tgt := 69) dX8_rule_64 (by decide) (by omega) (fun h_64 => by exact absurd h_64 (by decide)) (fun h_64 => ?_)
      refine R_iconst (v := -1) dX8_rule_67 rfl ?_
      refine R_ireturn dX8_rule_68 rfl rfl ?_
      refine ⟨?_, ?_⟩ <;> unfold rRule <;> rw [if_pos (by decide), kn_n (by decide), if_neg hp2]
      exact hI
  · refine R_if_eqN (tgt := 40) dX8_rule_25 (by decide) (by omega) (fun h_25 => ?_) (fun h_25 => by exact absurd h_25 (by decide))
    exact absurd (by decide) hk
set_option maxRecDepth 100000 in
set_option maxHeartbeats 4000000 in
theorem p_rule2 {M : qMem} {s : sT} (hI : MI M s) (hs : sOk s) {v : Int32} : qSem 1 mX8_rule [.ref 0, .int (nI 2), .int (v)] M (fun r N => r = some (.int (rRule s (nI 2) v).1) ∧ MI N (rRule s (nI 2) v).2) := by
  have hX := hI.1
  have hB := hs.1
  have hK6 := hB.2.1
  have hY16 := hB.1
  have hY4 := hs.2.1.1
  have hK2 := hs.2.1.2
  refine qSem.of (by decide +kernel) (Nat.le_of_ble_eq_true rfl) (fun w => ?_)
  refine R_ls (L' := [(0, .ref 0), (1, .int (nI 2)), (2, .int (v))]) (qs1 rfl (qs1 rfl (qs1 rfl qs0))) ?_
  refine R_iload_n dX8_rule_0 rfl ?_
  refine R_if_neN (tgt := 16) dX8_rule_1 (by decide) (by omega) (fun h_1 => ?_) (fun h_1 => by exact absurd h_1 (by decide))
  refine R_iload_n dX8_rule_16 rfl ?_
  refine R_i2l dX8_rule_17 ?_
  refine R_lconst (v := 1) dX8_rule_18 rfl ?_
  refine R_ldc2 dX8_rule_19 lc_RX8_192 ?_
  refine R_callS (mc := mX8_in) (As := [_, _, _]) dX8_rule_22 lm_RX8_98 mv_X8_in rfl rfl rfl (Nat.le_of_ble_eq_true rfl) m_in ?_
  rintro _ _ ⟨rfl, ⟨rfl, hk⟩ | ⟨rfl, hk⟩⟩
  · refine R_if_eqN (tgt := 40) dX8_rule_25 (by decide) (by omega) (fun h_25 => by exact absurd h_25 (by decide)) (fun h_25 => ?_)
    refine R_iload_n dX8_rule_28 rfl ?_
    refine R_i2l dX8_rule_29 ?_
    refine R_lconst (v := 1) dX8_rule_30 rfl ?_
    refine R_ldc2 dX8_rule_31 lc_RX8_194 ?_
    refine R_callS (mc := mX8_in) (As := [_, _, _]) dX8_rule_34 lm_RX8_98 mv_X8_in rfl rfl rfl (Nat.le_of_ble_eq_true rfl) m_in ?_
    rintro _ _ ⟨rfl, ⟨rfl, hp⟩ | ⟨rfl, hp⟩⟩
    · have hp2 : qtab 0 2 ≤ v ∧ v ≤ qtab 1 2 := (in_ab (a := 1) (c := 5) rfl rfl).mp hp
      obtain ⟨x, rfl, hrB, hx9⟩ := rule_r (r := 2) (by decide) hp2
      refine R_goto (tgt := 62) dX8_rule_37 (by decide) ?_
      refine R_istore_n (L' := [(0, .ref 0), (1, .int (nI 2)), (2, .int (nI x)), (3, .int (nI 1))]) dX8_rule_62 (by decide) (qs1 rfl (qs1 rfl (qs1 rfl (qs1 rfl qs0)))) ?_
      refine R_iload_n dX8_rule_63 rfl ?_
      refine R_if_neN (tgt := 69) dX8_rule_64 (by decide) (by omega) (fun h_64 => ?_) (fun h_64 => by exact absurd h_64 (by decide))
      refine R_aload_n dX8_rule_69 rfl ?_
      refine R_getR dX8_rule_70 lg_RX8_19 (by decide) rfl rfl ?_
      refine R_bipush (v := nI 97) dX8_rule_73 rfl ?_
      refine R_iload_n dX8_rule_75 rfl ?_
      refine R_iaddN dX8_rule_76 ?_
      refine R_ialdN dX8_rule_77 (by decide) rfl (by omega) (by decide) ?_
      refine R_top (y := nI (dR (sD s) 2)) (hX.r (k := 2) (by decide)) ?_
      refine R_iload_n dX8_rule_78 rfl ?_
      refine R_icmp_ne (tgt := 87) dX8_rule_79 (by decide) (fun h_79 => ?_) (fun h_79 => ?_)
      · refine R_aload_n dX8_rule_87 rfl ?_
        refine R_bipush (v := nI 97) dX8_rule_88 rfl ?_
        refine R_iload_n dX8_rule_90 rfl ?_
        refine R_iaddN dX8_rule_91 ?_
        refine R_iload_n dX8_rule_92 rfl ?_
        refine R_callV (mc := mX8_change) (As := [_, _]) (r := 0) dX8_rule_93 lm_RX8_181 mv_X8_change rfl (by decide) rfl rfl rfl rfl (Nat.le_of_ble_eq_true rfl) (m_change hI hs (i := 97 + 2) (by decide)) ?_
        rintro _ _ ⟨rfl, K2, hN, rfl⟩
        refine R_ireturn dX8_rule_96 rfl rfl ?_
        refine ⟨?_, ?_⟩ <;> unfold rRule <;> rw [if_pos (by decide), kn_n (by decide), if_pos hp2, if_neg h_79]
        · exact congrArg (fun z => some (Value.int z)) (hX.r (k := 2) (by decide))
        rw [kn_n (by omega)]
        exact MI_chR hI hs (by decide) hN rfl
      · refine R_bipush (v := -2) dX8_rule_82 rfl ?_
        refine R_goto (tgt := 96) dX8_rule_84 (by decide) ?_
        refine R_ireturn dX8_rule_96 rfl rfl ?_
        have h_79b : nI (dR (sD s) 2) = nI x := by first | exact h_79 | exact Decidable.not_not.mp h_79
        refine ⟨?_, ?_⟩ <;> unfold rRule <;> rw [if_pos (by decide), kn_n (by decide), if_pos hp2, if_pos h_79b]
        exact hI
    · have hp2 : ¬ (qtab 0 2 ≤ v ∧ v ≤ qtab 1 2) := fun z => hp ((in_ab (a := 1) (c := 5) rfl rfl).mpr z)
      refine R_goto (tgt := 62) dX8_rule_37 (by decide) ?_
      refine R_istore_n (L' := [(0, .ref 0), (1, .int (nI 2)), (2, .int (v)), (3, .int (nI 0))]) dX8_rule_62 (by decide) (qs1 rfl (qs1 rfl (qs1 rfl (qs1 rfl qs0)))) ?_
      refine R_iload_n dX8_rule_63 rfl ?_
      refine R_if_neN (tgt := 69) dX8_rule_64 (by decide) (by omega) (fun h_64 => by exact absurd h_64 (by decide)) (fun h_64 => ?_)
      refine R_iconst (v := -1) dX8_rule_67 rfl ?_
      refine R_ireturn dX8_rule_68 rfl rfl ?_
      refine ⟨?_, ?_⟩ <;> unfold rRule <;> rw [if_pos (by decide), kn_n (by decide), if_neg hp2]
      exact hI
  · refine R_if_eqN (tgt := 40) dX8_rule_25 (by decide) (by omega) (fun h_25 => ?_) (fun h_25 => by exact absurd h_25 (by decide))
    exact absurd (by decide) hk
set_option maxRecDepth 100000 in
set_option maxHeartbeats 4000000 in
theorem p_rule3 {M : qMem} {s : sT} (hI : MI M s) (hs : sOk s) {v : Int32} : qSem 1 mX8_rule [.ref 0, .int (nI 3), .int (v)] M (fun r N => r = some (.int (rRule s (nI 3) v).1) ∧ MI N (rRule s (nI 3) v).2) := by
  have hX := hI.1
  have hB := hs.1
  have hK6 := hB.2.1
  have hY16 := hB.1
  have hY4 := hs.2.1.1
  have hK2 := hs.2.1.2
  refine qSem.of (by decide +kernel) (Nat.le_of_ble_eq_true rfl) (fun w => ?_)
  refine R_ls (L' := [(0, .ref 0), (1, .int (nI 3)), (2, .int (v))]) (qs1 rfl (qs1 rfl (qs1 rfl qs0))) ?_
  refine R_iload_n dX8_rule_0 rfl ?_
  refine R_if_neN (tgt := 16) dX8_rule_1 (by decide) (by omega) (fun h_1 => ?_) (fun h_1 => by exact absurd h_1 (by decide))
  refine R_iload_n dX8_rule_16 rfl ?_
  refine R_i2l dX8_rule_17 ?_
  refine R_lconst (v := 1) dX8_rule_18 rfl ?_
  refine R_ldc2 dX8_rule_19 lc_RX8_192 ?_
  refine R_callS (mc := mX8_in) (As := [_, _, _]) dX8_rule_22 lm_RX8_98 mv_X8_in rfl rfl rfl (Nat.le_of_ble_eq_true rfl) m_in ?_
  rintro _ _ ⟨rfl, ⟨rfl, hk⟩ | ⟨rfl, hk⟩⟩
  · refine R_if_eqN (tgt := 40) dX8_rule_25 (by decide) (by omega) (fun h_25 => by exact absurd h_25 (by decide)) (fun h_25 => ?_)
    exact absurd hk (by decide)
  · refine R_if_eqN (tgt := 40) dX8_rule_25 (by decide) (by omega) (fun h_25 => ?_) (fun h_25 => by exact absurd h_25 (by decide))
    refine R_iload_n dX8_rule_40 rfl ?_
    refine R_iconst (v := nI 3) dX8_rule_41 rfl ?_
    refine R_icmp_neN (tgt := 61) dX8_rule_42 (by decide) (by omega) (by omega) (fun h_42 => by exact absurd h_42 (by decide)) (fun h_42 => ?_)
    refine R_iload_n dX8_rule_45 rfl ?_
    refine R_i2l dX8_rule_46 ?_
    refine R_lconst (v := 0) dX8_rule_47 rfl ?_
    refine R_ldc2 dX8_rule_48 lc_RX8_192 ?_
    refine R_callS (mc := mX8_in) (As := [_, _, _]) dX8_rule_51 lm_RX8_98 mv_X8_in rfl rfl rfl (Nat.le_of_ble_eq_true rfl) m_in ?_
    rintro _ _ ⟨rfl, ⟨rfl, hp⟩ | ⟨rfl, hp⟩⟩
    · have hp2 : qtab 0 3 ≤ v ∧ v ≤ qtab 1 3 := (in_ab (a := 0) (c := 2) rfl rfl).mp hp
      obtain ⟨x, rfl, hrB, hx9⟩ := rule_r (r := 3) (by decide) hp2
      refine R_if_eqN (tgt := 61) dX8_rule_54 (by decide) (by omega) (fun h_54 => by exact absurd h_54 (by decide)) (fun h_54 => ?_)
      refine R_iconst (v := nI 1) dX8_rule_57 rfl ?_
      refine R_goto (tgt := 62) dX8_rule_58 (by decide) ?_
      refine R_istore_n (L' := [(0, .ref 0), (1, .int (nI 3)), (2, .int (nI x)), (3, .int (nI 1))]) dX8_rule_62 (by decide) (qs1 rfl (qs1 rfl (qs1 rfl (qs1 rfl qs0)))) ?_
      refine R_iload_n dX8_rule_63 rfl ?_
      refine R_if_neN (tgt := 69) dX8_rule_64 (by decide) (by omega) (fun h_64 => ?_) (fun h_64 => by exact absurd h_64 (by decide))
      refine R_aload_n dX8_rule_69 rfl ?_
      refine R_getR dX8_rule_70 lg_RX8_19 (by decide) rfl rfl ?_
      refine R_bipush (v := nI 97) dX8_rule_73 rfl ?_
      refine R_iload_n dX8_rule_75 rfl ?_
      refine R_iaddN dX8_rule_76 ?_
      refine R_ialdN dX8_rule_77 (by decide) rfl (by omega) (by decide) ?_
      refine R_top (y := nI (dR (sD s) 3)) (hX.r (k := 3) (by decide)) ?_
      refine R_iload_n dX8_rule_78 rfl ?_
      refine R_icmp_ne (tgt := 87) dX8_rule_79 (by decide) (fun h_79 => ?_) (fun h_79 => ?_)
      · refine R_aload_n dX8_rule_87 rfl ?_
        refine R_bipush (v := nI 97) dX8_rule_88 rfl ?_
        refine R_iload_n dX8_rule_90 rfl ?_
        refine R_iaddN dX8_rule_91 ?_
        refine R_iload_n dX8_rule_92 rfl ?_
        refine R_callV (mc := mX8_change) (As := [_, _]) (r := 0) dX8_rule_93 lm_RX8_181 mv_X8_change rfl (by decide) rfl rfl rfl rfl (Nat.le_of_ble_eq_true rfl) (m_change hI hs (i := 97 + 3) (by decide)) ?_
        rintro _ _ ⟨rfl, K2, hN, rfl⟩
        refine R_ireturn dX8_rule_96 rfl rfl ?_
        refine ⟨?_, ?_⟩ <;> unfold rRule <;> rw [if_pos (by decide), kn_n (by decide), if_pos hp2, if_neg h_79]
        · exact congrArg (fun z => some (Value.int z)) (hX.r (k := 3) (by decide))
        rw [kn_n (by omega)]
        exact MI_chR hI hs (by decide) hN rfl
      · refine R_bipush (v := -2) dX8_rule_82 rfl ?_
        refine R_goto (tgt := 96) dX8_rule_84 (by decide) ?_
        refine R_ireturn dX8_rule_96 rfl rfl ?_
        have h_79b : nI (dR (sD s) 3) = nI x := by first | exact h_79 | exact Decidable.not_not.mp h_79
        refine ⟨?_, ?_⟩ <;> unfold rRule <;> rw [if_pos (by decide), kn_n (by decide), if_pos hp2, if_pos h_79b]
        exact hI
    · have hp2 : ¬ (qtab 0 3 ≤ v ∧ v ≤ qtab 1 3) := fun z => hp ((in_ab (a := 0) (c := 2) rfl rfl).mpr z)
      refine R_if_eqN (tgt := 61) dX8_rule_54 (by decide) (by omega) (fun h_54 => ?_) (fun h_54 => by exact absurd h_54 (by decide))
      refine R_iconst (v := nI 0) dX8_rule_61 rfl ?_
      refine R_istore_n (L' := [(0, .ref 0), (1, .int (nI 3)), (2, .int (v)), (3, .int (nI 0))]) dX8_rule_62 (by decide) (qs1 rfl (qs1 rfl (qs1 rfl (qs1 rfl qs0)))) ?_
      refine R_iload_n dX8_rule_63 rfl ?_
      refine R_if_neN (tgt := 69) dX8_rule_64 (by decide) (by omega) (fun h_64 => by exact absurd h_64 (by decide)) (fun h_64 => ?_)
      refine R_iconst (v := -1) dX8_rule_67 rfl ?_
      refine R_ireturn dX8_rule_68 rfl rfl ?_
      refine ⟨?_, ?_⟩ <;> unfold rRule <;> rw [if_pos (by decide), kn_n (by decide), if_neg hp2]
      exact hI
set_option maxRecDepth 100000 in
set_option maxHeartbeats 4000000 in
theorem p_rule9 {M : qMem} {s : sT} (hI : MI M s) (hs : sOk s) {k v : Int32} (hk4 : ¬ (0 ≤ k ∧ k < nI 4)) : qSem 1 mX8_rule [.ref 0, .int (k), .int (v)] M (fun r N => r = some (.int (rRule s k v).1) ∧ MI N (rRule s k v).2) := by
  have hX := hI.1
  have hB := hs.1
  have hK6 := hB.2.1
  have hY16 := hB.1
  have hY4 := hs.2.1.1
  have hK2 := hs.2.1.2
  refine qSem.of (by decide +kernel) (Nat.le_of_ble_eq_true rfl) (fun w => ?_)
  refine R_ls (L' := [(0, .ref 0), (1, .int (k)), (2, .int (v))]) (qs1 rfl (qs1 rfl (qs1 rfl qs0))) ?_
  refine R_iload_n dX8_rule_0 rfl ?_
  refine R_if_ne (tgt := 16) dX8_rule_1 (by decide) (fun h_1 => ?_) (fun h_1 => ?_)
  · refine R_iload_n dX8_rule_16 rfl ?_
    refine R_i2l dX8_rule_17 ?_
    refine R_lconst (v := 1) dX8_rule_18 rfl ?_
    refine R_ldc2 dX8_rule_19 lc_RX8_192 ?_
    refine R_callS (mc := mX8_in) (As := [_, _, _]) dX8_rule_22 lm_RX8_98 mv_X8_in rfl rfl rfl (Nat.le_of_ble_eq_true rfl) m_in ?_
    rintro _ _ ⟨rfl, ⟨rfl, hq⟩ | ⟨rfl, hq⟩⟩
    · refine R_if_eqN (tgt := 40) dX8_rule_25 (by decide) (by omega) (fun h_25 => by exact absurd h_25 (by decide)) (fun h_25 => ?_)
      exact absurd (by have h := (in_ab (a := 1) (c := 2) rfl rfl).mp hq; exact ⟨Int32.le_trans (by decide) h.1, Int32.lt_of_le_of_lt h.2 (by decide)⟩) hk4
    · refine R_if_eqN (tgt := 40) dX8_rule_25 (by decide) (by omega) (fun h_25 => ?_) (fun h_25 => by exact absurd h_25 (by decide))
      refine R_iload_n dX8_rule_40 rfl ?_
      refine R_iconst (v := nI 3) dX8_rule_41 rfl ?_
      refine R_icmp_ne (tgt := 61) dX8_rule_42 (by decide) (fun h_42 => ?_) (fun h_42 => ?_)
      · refine R_iconst (v := nI 0) dX8_rule_61 rfl ?_
        refine R_istore_n (L' := [(0, .ref 0), (1, .int (k)), (2, .int (v)), (3, .int (nI 0))]) dX8_rule_62 (by decide) (qs1 rfl (qs1 rfl (qs1 rfl (qs1 rfl qs0)))) ?_
        refine R_iload_n dX8_rule_63 rfl ?_
        refine R_if_neN (tgt := 69) dX8_rule_64 (by decide) (by omega) (fun h_64 => by exact absurd h_64 (by decide)) (fun h_64 => ?_)
        refine R_iconst (v := -1) dX8_rule_67 rfl ?_
        refine R_ireturn dX8_rule_68 rfl rfl ?_
        have hn : rRule s k v = (-1, s) := if_neg hk4
        rw [hn]
        exact ⟨rfl, hI⟩
      · exact absurd (by rw [show k = nI 3 from by first | exact h_42 | exact Decidable.not_not.mp h_42]; decide) hk4
  · exact absurd (by rw [show k = 0 from by first | exact h_1 | exact Decidable.not_not.mp h_1]; decide) hk4

theorem p_rule {M : qMem} {s : sT} (hI : MI M s) (hs : sOk s) {k v : Int32} : qSem 1 mX8_rule [.ref 0, .int k, .int v] M (fun r N => r = some (.int (rRule s k v).1) ∧ MI N (rRule s k v).2) := by
  by_cases h : 0 ≤ k ∧ k < nI 4
  · obtain ⟨j, hj, rfl⟩ := inN_o (by decide) h
    have hh : j = 0 ∨ j = 1 ∨ j = 2 ∨ j = 3 := by omega
    rcases hh with rfl | rfl | rfl | rfl
    · exact p_rule0 hI hs
    · exact p_rule1 hI hs
    · exact p_rule2 hI hs
    · exact p_rule3 hI hs
  · exact p_rule9 hI hs h
