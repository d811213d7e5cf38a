
-- ===== the model: the whole text =====
theorem item_4 {tx : List Nat} {a : Nat} {d d' : dT} {z : Nat} (h : item tx a d = some (z, d')) (h4 : 0 < a → 4 ≤ dY d) (h0 : a = 0 → dY d = 0) : 4 ≤ dY d' := by
  unfold item at h
  split at h
  · unfold itemY at h
    split at h
    · split at h
      · rename_i v _ hc; cases h; exact hc.2.1
      · cases h
    · cases h
  · split at h
    · cases h
    · rename_i hy
      have h4 : 4 ≤ dY d := h4 (Nat.pos_of_ne_zero fun e => hy (h0 e))
      split at h
      · unfold itemS at h
        split at h
        · cases h; exact h4
        · cases h
      · split at h
        · unfold itemP at h
          split at h
          · split at h
            · cases h; exact h4
            · cases h
          · cases h
        · split at h
          · unfold itemL at h
            split at h
            · cases h; exact h4
            · cases h
          · cases h
abbrev qrA (tx : List Nat) (M : qMem) : qQ := fun v N => cOff sRd M N ∧ (match rdR tx with
  | .inl f => v = some (.int (nI f)) ∧ f < tx.length
  | .inr d => v = some (.int (-4)) ∧ MD N d)
theorem qrA_l {tx : List Nat} {M N : qMem} {v : Option Value} {f : Nat} (h : rdR tx = .inl f) (hq : qrA tx M v N) : cOff sRd M N ∧ v = some (.int (nI f)) ∧ f < tx.length := by
  unfold qrA at hq; rw [h] at hq; exact hq
theorem qrA_r {tx : List Nat} {M N : qMem} {v : Option Value} {d : dT} (h : rdR tx = .inr d) (hq : qrA tx M v N) : cOff sRd M N ∧ v = some (.int (-4)) ∧ MD N d := by
  unfold qrA at hq; rw [h] at hq; exact hq
set_option maxRecDepth 100000 in
set_option maxHeartbeats 4000000 in
theorem m_item {M : qMem} {tx : List Nat} (hT : MT M tx) (hB : txB tx) {d : dT} {a : Nat} (hX : MD M d) (hD : dB d) (hal : a < tx.length) (ha0 : 0 < a) (h4 : 4 ≤ dY d) (h15 : M.1 0 15 = nI (a + 1)) : qSem 1 mX8_item [.ref 0, .int (nI (lt tx a))] M (qitM M a (item tx a d)) := by
  have hlen := hB.1
  have hla := (hB.2 a hal).2
  refine qSem.of (by decide +kernel) (Nat.le_of_ble_eq_true rfl) (fun w => ?_)
  refine R_ls (L' := [(0, .ref 0), (1, .int (nI (lt tx a)))]) (qs1 rfl (qs1 rfl qs0)) ?_
  refine R_iload_n dX8_item_0 rfl ?_
  refine R_bipush (v := nI 115) dX8_item_1 rfl ?_
  refine R_icmp_neN (tgt := 13) dX8_item_3 (by decide) (by omega) (by omega) (fun h_3 => ?_) (fun h_3 => ?_)
  · refine R_iload_n dX8_item_13 rfl ?_
    refine R_bipush (v := nI 112) dX8_item_14 rfl ?_
    refine R_icmp_neN (tgt := 26) dX8_item_16 (by decide) (by omega) (by omega) (fun h_16 => ?_) (fun h_16 => ?_)
    · refine R_iload_n dX8_item_26 rfl ?_
      refine R_bipush (v := nI 108) dX8_item_27 rfl ?_
      refine R_icmp_neN (tgt := 43) dX8_item_29 (by decide) (by omega) (by omega) (fun h_29 => ?_) (fun h_29 => ?_)
      · refine R_iconst (v := nI 0) dX8_item_43 rfl ?_
        refine R_ireturn dX8_item_44 rfl rfl ?_
        exact ⟨cOff.rf, Or.inr ⟨by unfold item; by_cases e : lt tx a = 121; rw [if_pos e]; exact itemY_a (by omega); rw [if_neg e, if_neg (by omega), if_neg (by omega), if_neg (by omega), if_neg (by omega)], rfl⟩⟩
      · refine R_aload_n dX8_item_32 rfl ?_
        refine R_callV (mc := mX8_rulesItem) (As := []) (r := 0) dX8_item_33 lm_RX8_134 mv_X8_rulesItem rfl (by decide) rfl rfl rfl rfl (Nat.le_of_ble_eq_true rfl) (m_rulItem hT hB hX hD (by omega) h15) ?_
        rintro _ _ ⟨hO2, (⟨z, d2, hi, rfl, hX2, h152⟩ | ⟨hi, rfl⟩)⟩
        · refine R_if_eqN (tgt := 43) dX8_item_36 (by decide) (by omega) (fun h_36 => by exact absurd h_36 (by decide)) (fun h_36 => ?_)
          refine R_iconst (v := nI 1) dX8_item_39 rfl ?_
          refine R_goto (tgt := 44) dX8_item_40 (by decide) ?_
          refine R_ireturn dX8_item_44 rfl rfl ?_
          exact ⟨hO2, Or.inl ⟨z, d2, by unfold item; rw [if_neg (by omega), if_neg (by omega), if_neg (by omega), if_neg (by omega), if_pos h_29]; exact hi, rfl, hX2, h152⟩⟩
        · refine R_if_eqN (tgt := 43) dX8_item_36 (by decide) (by omega) (fun h_36 => ?_) (fun h_36 => by exact absurd h_36 (by decide))
          refine R_iconst (v := nI 0) dX8_item_43 rfl ?_
          refine R_ireturn dX8_item_44 rfl rfl ?_
          exact ⟨hO2, Or.inr ⟨by unfold item; rw [if_neg (by omega), if_neg (by omega), if_neg (by omega), if_neg (by omega), if_pos h_29]; exact hi, rfl⟩⟩
    · refine R_aload_n dX8_item_19 rfl ?_
      refine R_callV (mc := mX8_penaltyItem) (As := []) (r := 0) dX8_item_20 lm_RX8_131 mv_X8_penaltyItem rfl (by decide) rfl rfl rfl rfl (Nat.le_of_ble_eq_true rfl) (m_penItem hT hB hX hD (by omega) h15) ?_
      rintro _ _ ⟨hO2, (⟨z, d2, hi, rfl, hX2, h152⟩ | ⟨hi, rfl⟩)⟩
      · refine R_goto (tgt := 44) dX8_item_23 (by decide) ?_
        refine R_ireturn dX8_item_44 rfl rfl ?_
        exact ⟨hO2, Or.inl ⟨z, d2, by unfold item; rw [if_neg (by omega), if_neg (by omega), if_neg (by omega), if_pos h_16]; exact hi, rfl, hX2, h152⟩⟩
      · refine R_goto (tgt := 44) dX8_item_23 (by decide) ?_
        refine R_ireturn dX8_item_44 rfl rfl ?_
        exact ⟨hO2, Or.inr ⟨by unfold item; rw [if_neg (by omega), if_neg (by omega), if_neg (by omega), if_pos h_16]; exact hi, rfl⟩⟩
  · refine R_aload_n dX8_item_6 rfl ?_
    refine R_callV (mc := mX8_stationItem) (As := []) (r := 0) dX8_item_7 lm_RX8_128 mv_X8_stationItem rfl (by decide) rfl rfl rfl rfl (Nat.le_of_ble_eq_true rfl) (m_stItem hT hB hX hD (by omega) h15) ?_
    rintro _ _ ⟨hO2, (⟨z, d2, hi, rfl, hX2, h152⟩ | ⟨hi, rfl⟩)⟩
    · refine R_goto (tgt := 44) dX8_item_10 (by decide) ?_
      refine R_ireturn dX8_item_44 rfl rfl ?_
      exact ⟨hO2, Or.inl ⟨z, d2, by unfold item; rw [if_neg (by omega), if_neg (by omega), if_pos h_3]; exact hi, rfl, hX2, h152⟩⟩
    · refine R_goto (tgt := 44) dX8_item_10 (by decide) ?_
      refine R_ireturn dX8_item_44 rfl rfl ?_
      exact ⟨hO2, Or.inr ⟨by unfold item; rw [if_neg (by omega), if_neg (by omega), if_pos h_3]; exact hi, rfl⟩⟩
set_option maxRecDepth 100000 in
set_option maxHeartbeats 4000000 in
theorem m_emL {w : qWT} {M : qMem} : ∀ (fu : Nat) (i : Nat) (K : qMem), (97 - i) < fu → (i ≤ 96) → (cOff sRd M K) → (K.1 0 7 = nI 0) → (K.1 0 8 = nI 0) → qRW 1 w mX8_empty 12 [(0, .ref 0), (1, .int (nI i))] [] K (fun v N => v = none ∧ cOff sRd M N ∧ MD N dFresh) := by
  intro fu
  induction fu with
  | zero => intro i K hn; exact absurd hn (Nat.not_lt_zero _)
  | succ fu ih =>
    intro i K hn hi hO h7 h8
    refine R_iload_n dX8_empty_12 rfl ?_
    refine R_bipush (v := nI 96) dX8_empty_13 rfl ?_
    refine R_icmp_geN (tgt := 32) dX8_empty_15 (by decide) (by omega) (by omega) (fun h_15 => ?_) (fun h_15 => ?_)
    · refine R_aload_n dX8_empty_32 rfl ?_
      refine R_getR dX8_empty_33 lg_RX8_28 (by decide) rfl rfl ?_
      refine R_bipush (v := nI 96) dX8_empty_36 rfl ?_
      refine R_bipush (v := nI 20) dX8_empty_38 rfl ?_
      refine R_iastN dX8_empty_40 (by decide) rfl (by omega) (by decide) ?_
      refine R_aload_n dX8_empty_41 rfl ?_
      refine R_iconst (v := nI 2) dX8_empty_42 rfl ?_
      refine R_iconst (v := nI 3) dX8_empty_43 rfl ?_
      refine R_iconst (v := nI 2) dX8_empty_44 rfl ?_
      refine R_iconst (v := nI 0) dX8_empty_45 rfl ?_
      refine R_callV (mc := mX8_rulesAre) (As := [_, _, _, _]) (r := 0) dX8_empty_46 lm_RX8_84 mv_X8_rulesAre rfl (by decide) rfl rfl rfl rfl (Nat.le_of_ble_eq_true rfl) m_rulesAre ?_
      rintro _ _ ⟨rfl, rfl⟩
      refine R_aload_n dX8_empty_49 rfl ?_
      refine R_getR dX8_empty_50 lg_RX8_28 (by decide) rfl rfl ?_
      refine R_bipush (v := nI 101) dX8_empty_53 rfl ?_
      refine R_iconst (v := nI 0) dX8_empty_55 rfl ?_
      refine R_iastN dX8_empty_56 (by decide) rfl (by omega) (by decide) ?_
      refine R_return dX8_empty_57 rfl ?_
      have hf : dK dFresh = 0 ∧ dY dFresh = 0 ∧ dR dFresh 4 = 20 ∧ dR dFresh 0 = 2 ∧ dR dFresh 1 = 3 ∧ dR dFresh 2 = 2 ∧ dR dFresh 3 = 0 := by decide
      refine ⟨rfl, (((((hO.is (by unfold sRd; omega)).is (by unfold sRd; omega)).is (by unfold sRd; omega)).is (by unfold sRd; omega)).is (by unfold sRd; omega)).is (by unfold sRd; omega), ?_, ?_, fun c hc => absurd hc (by rw [hf.1]; omega), fun c hc => absurd hc (by rw [hf.1]; omega), ⟨fun c t hc ht => absurd hc (by rw [hf.1]; omega), ?_, fun k hk => ?_⟩, ?_⟩
      · rw [qIs_no (by decide), qIs_no (by decide), qIs_no (by decide), qIs_no (by decide), qIs_no (by decide), qIs_no (by decide), hf.1]; exact h7
      · rw [qIs_no (by decide), qIs_no (by decide), qIs_no (by decide), qIs_no (by decide), qIs_no (by decide), qIs_no (by decide), hf.2.1]; exact h8
      · rw [hf.2.2.1]; simp [qIs_1]
      · have hk4 : k = 0 ∨ k = 1 ∨ k = 2 ∨ k = 3 := by omega
        rcases hk4 with rfl | rfl | rfl | rfl
        · rw [hf.2.2.2.1]; simp [qIs_1]
        · rw [hf.2.2.2.2.1]; simp [qIs_1]
        · rw [hf.2.2.2.2.2.1]; simp [qIs_1]
        · rw [hf.2.2.2.2.2.2]; simp [qIs_1]
      · rw [qIs_eq]
    · refine R_aload_n dX8_empty_18 rfl ?_
      refine R_getR dX8_empty_19 lg_RX8_28 (by decide) rfl rfl ?_
      refine R_iload_n dX8_empty_22 rfl ?_
      refine R_ldc (v := nI 99999) dX8_empty_23 lc_RX8_83 ?_
      refine R_top (y := 99999) rfl ?_
      refine R_iastN dX8_empty_25 (by decide) rfl (by omega) (by decide) ?_
      refine R_iincN (n := 1) (L' := [(0, .ref 0), (1, .int (nI (i + 1)))]) dX8_empty_26 rfl (by decide) (qs1 rfl (qs1 rfl qs0)) ?_
      refine R_goto (tgt := 12) dX8_empty_29 (by decide) ?_
      refine R_ls (L' := [(0, .ref 0), (1, .int (nI (i + 1)))]) (qs1 rfl (qs1 rfl qs0)) ?_
      exact (ih (i + 1) _ (by omega) (by omega) (hO.is (by unfold sRd; omega)) (by rw [qIs_no (by decide)]; exact h7) (by rw [qIs_no (by decide)]; exact h8))
set_option maxRecDepth 100000 in
set_option maxHeartbeats 4000000 in
theorem m_empty {M : qMem} : qSem 1 mX8_empty [.ref 0] M (fun v N => v = none ∧ cOff sRd M N ∧ MD N dFresh) := by
  refine qSem.of (by decide +kernel) (Nat.le_of_ble_eq_true rfl) (fun w => ?_)
  refine R_ls (L' := [(0, .ref 0)]) (qs1 rfl qs0) ?_
  refine R_aload_n dX8_empty_0 rfl ?_
  refine R_iconst (v := nI 0) dX8_empty_1 rfl ?_
  refine R_putI dX8_empty_2 lf_RX8_91 (by decide) rfl rfl rfl rfl ?_
  refine R_aload_n dX8_empty_5 rfl ?_
  refine R_iconst (v := nI 0) dX8_empty_6 rfl ?_
  refine R_putI dX8_empty_7 lf_RX8_71 (by decide) rfl rfl rfl rfl ?_
  refine R_iconst (v := nI 0) dX8_empty_10 rfl ?_
  refine R_istore_n (L' := [(0, .ref 0), (1, .int (nI 0))]) dX8_empty_11 (by decide) (qs1 rfl (qs1 rfl qs0)) ?_
  refine R_ls (L' := [(0, .ref 0), (1, .int (nI 0))]) (qs1 rfl (qs1 rfl qs0)) ?_
  exact (m_emL 98 0 _ (by omega) (Nat.zero_le _) (((cOff.rf).is (by unfold sRd; omega)).is (by unfold sRd; omega)) (by rw [qIs_nk (by decide), qIs_eq]) (by rw [qIs_eq]))
set_option maxRecDepth 100000 in
set_option maxHeartbeats 4000000 in
theorem m_rdL {w : qWT} {M : qMem} {tx : List Nat} (hT : MT M tx) (hB : txB tx) : ∀ (fu : Nat) (a F : Nat) (d : dT) (K : qMem), (tx.length + 1 - a) < fu → (a ≤ tx.length) → (tx.length < a + F) → (prs tx F a d = rdR tx) → (MD K d) → (dB d) → (0 < a → 4 ≤ dY d) → (a = 0 → dK d = 0 ∧ dY d = 0) → (K.1 0 15 = nI a) → (cOff sRd M K) → qRW 1 w mX8_readAll 9 [(0, .ref 0)] [] K (qrA tx M) := by
  intro fu
  induction fu with
  | zero => intro a F d K hn; exact absurd hn (Nat.not_lt_zero _)
  | succ fu ih =>
    intro a F d K hn ha hF hp hX hD h4 h00 h15 hO
    have hlen := hB.1
    have hTK : MT K tx := hT.rd hO
    have hO1 : cOff sRd M (qIs K 0 15 (nI (a + 1))) := hO.is (by unfold sRd; omega)
    refine R_aload_n dX8_readAll_9 rfl ?_
    refine R_getI dX8_readAll_10 (lf_RX8_105).get (by decide) rfl rfl ?_
    refine R_top (y := nI a) h15 ?_
    refine R_aload_n dX8_readAll_13 rfl ?_
    refine R_getI dX8_readAll_14 (lf_RX8_102).get (by decide) rfl rfl ?_
    refine R_top (y := nI tx.length) hTK.1 ?_
    refine R_icmp_geN (tgt := 84) dX8_readAll_17 (by decide) (by omega) (by omega) (fun h_14 => ?_) (fun h_14 => ?_)
    · have hge : ¬ a < tx.length := by omega
      refine R_bipush (v := -4) dX8_readAll_84 rfl ?_
      refine R_ireturn dX8_readAll_86 rfl rfl ?_
      have e : rdR tx = .inr d := by rw [← hp]; exact prs_stop hge
      unfold qrA; rw [e]
      exact ⟨hO, rfl, hX⟩
    · obtain ⟨F2, rfl⟩ : ∃ F2, F = F2 + 1 := ⟨F - 1, by omega⟩
      refine R_aload_n dX8_readAll_20 rfl ?_
      refine R_getI dX8_readAll_21 (lf_RX8_105).get (by decide) rfl rfl ?_
      refine R_top (y := nI a) h15 ?_
      refine R_istore_n (L' := [(0, .ref 0), (1, .int (nI a))]) dX8_readAll_24 (by decide) (qs1 rfl (qs1 rfl qs0)) ?_
      refine R_aload_n dX8_readAll_25 rfl ?_
      refine R_aload_n dX8_readAll_26 rfl ?_
      refine R_getI dX8_readAll_27 (lf_RX8_105).get (by decide) rfl rfl ?_
      refine R_top (y := nI a) h15 ?_
      refine R_callV (mc := mX8_letterAt) (As := [_]) (r := 0) dX8_readAll_30 lm_RX8_108 mv_X8_letterAt rfl (by decide) rfl rfl rfl rfl (Nat.le_of_ble_eq_true rfl) (m_let hTK hB (by omega)) ?_
      rintro _ _ ⟨rfl, rfl⟩
      have hla := (hB.2 a h_14).2
      refine R_istore_n (L' := [(0, .ref 0), (1, .int (nI a)), (2, .int (nI (lt tx a)))]) dX8_readAll_33 (by decide) (qs1 rfl (qs1 rfl (qs1 rfl qs0))) ?_
      refine R_aload_n dX8_readAll_34 rfl ?_
      refine R_dup dX8_readAll_35 rfl ?_
      refine R_getI dX8_readAll_36 (lf_RX8_105).get (by decide) rfl rfl ?_
      refine R_top (y := nI a) h15 ?_
      refine R_iconst (v := nI 1) dX8_readAll_39 rfl ?_
      refine R_iaddN dX8_readAll_40 ?_
      refine R_putI dX8_readAll_41 lf_RX8_105 (by decide) rfl rfl rfl rfl ?_
      refine R_iload_n dX8_readAll_44 rfl ?_
      refine R_if_neN (tgt := 69) dX8_readAll_45 (by decide) (by omega) (fun h_45 => ?_) (fun h_45 => ?_)
      · refine R_aload_n dX8_readAll_69 rfl ?_
        refine R_iload_n dX8_readAll_70 rfl ?_
        refine R_callV (mc := mX8_item) (As := [_]) (r := 0) dX8_readAll_71 lm_RX8_140 mv_X8_item rfl (by decide) rfl rfl rfl rfl (Nat.le_of_ble_eq_true rfl) (m_item hTK.s hB hX.s hD h_14 h_45 (h4 h_45) (by rw [qIs_eq])) ?_
        rintro _ _ ⟨hO2, (⟨z, d2, hi, rfl, hX2, h152⟩ | ⟨hi, rfl⟩)⟩
        · have h153 := h152
          have hok := item_ok hi hD
          have h42 := item_4 hi h4 (fun e => (h00 e).2)
          refine R_istore_n (L' := [(0, .ref 0), (1, .int (nI a)), (2, .int (nI (lt tx a))), (3, .int (nI 1))]) dX8_readAll_74 (by decide) (qs1 rfl (qs1 rfl (qs1 rfl (qs1 rfl qs0)))) ?_
          refine R_iload_n dX8_readAll_75 rfl ?_
          refine R_if_neN (tgt := 81) dX8_readAll_76 (by decide) (by omega) (fun h_76 => ?_) (fun h_76 => by exact absurd h_76 (by decide))
          refine R_goto (tgt := 9) dX8_readAll_81 (by decide) ?_
          refine R_ls (L' := [(0, .ref 0)]) (qs1 rfl qs0) ?_
          exact (ih (a + z) F2 d2 _ (by omega) hok.2.2 (by omega) (by rw [← prs_go h_14 hi]; exact hp) hX2 hok.1 (fun _ => h42) (fun e => absurd e (by omega)) h153 (hO1.tr hO2))
        · refine R_istore_n (L' := [(0, .ref 0), (1, .int (nI a)), (2, .int (nI (lt tx a))), (3, .int (nI 0))]) dX8_readAll_74 (by decide) (qs1 rfl (qs1 rfl (qs1 rfl (qs1 rfl qs0)))) ?_
          refine R_iload_n dX8_readAll_75 rfl ?_
          refine R_if_neN (tgt := 81) dX8_readAll_76 (by decide) (by omega) (fun h_76 => by exact absurd h_76 (by decide)) (fun h_76 => ?_)
          refine R_iload_n dX8_readAll_79 rfl ?_
          refine R_ireturn dX8_readAll_80 rfl rfl ?_
          have e : rdR tx = .inl a := by rw [← hp]; exact prs_bad h_14 hi
          unfold qrA; rw [e]
          exact ⟨hO1.tr hO2, rfl, h_14⟩
      · refine R_iload_n dX8_readAll_48 rfl ?_
        refine R_bipush (v := nI 121) dX8_readAll_49 rfl ?_
        refine R_icmp_neN (tgt := 65) dX8_readAll_51 (by decide) (by omega) (by omega) (fun h_51 => ?_) (fun h_51 => ?_)
        · refine R_iconst (v := nI 0) dX8_readAll_65 rfl ?_
          refine R_goto (tgt := 74) dX8_readAll_66 (by decide) ?_
          refine R_istore_n (L' := [(0, .ref 0), (1, .int (nI a)), (2, .int (nI (lt tx a))), (3, .int (nI 0))]) dX8_readAll_74 (by decide) (qs1 rfl (qs1 rfl (qs1 rfl (qs1 rfl qs0)))) ?_
          refine R_iload_n dX8_readAll_75 rfl ?_
          refine R_if_neN (tgt := 81) dX8_readAll_76 (by decide) (by omega) (fun h_76 => by exact absurd h_76 (by decide)) (fun h_76 => ?_)
          refine R_iload_n dX8_readAll_79 rfl ?_
          refine R_ireturn dX8_readAll_80 rfl rfl ?_
          have hi : item tx a d = none := by unfold item; rw [if_neg h_51, if_pos (h00 h_45).2]
          have e : rdR tx = .inl a := by rw [← hp]; exact prs_bad h_14 hi
          unfold qrA; rw [e]
          exact ⟨hO1, rfl, h_14⟩
        · refine R_aload_n dX8_readAll_54 rfl ?_
          refine R_callV (mc := mX8_yearsItem) (As := []) (r := 0) dX8_readAll_55 lm_RX8_137 mv_X8_yearsItem rfl (by decide) rfl rfl rfl rfl (Nat.le_of_ble_eq_true rfl) (m_years hTK.s hB hX.s (h00 h_45).1 (by rw [qIs_eq, h_45])) ?_
          rintro _ _ ⟨hO2, (⟨z, d2, hi, rfl, hX2, h152⟩ | ⟨hi, rfl⟩)⟩
          · have hit : item tx a d = itemY tx 0 d := by unfold item; rw [if_pos h_51, h_45]
            rw [← hit] at hi
            have h153 := h152.trans (show nI (0 + z) = nI (a + z) by rw [h_45])
            have hok := item_ok hi hD
            have h42 := item_4 hi h4 (fun e => (h00 e).2)
            refine R_if_eqN (tgt := 65) dX8_readAll_58 (by decide) (by omega) (fun h_58 => by exact absurd h_58 (by decide)) (fun h_58 => ?_)
            refine R_iconst (v := nI 1) dX8_readAll_61 rfl ?_
            refine R_goto (tgt := 74) dX8_readAll_62 (by decide) ?_
            refine R_istore_n (L' := [(0, .ref 0), (1, .int (nI a)), (2, .int (nI (lt tx a))), (3, .int (nI 1))]) dX8_readAll_74 (by decide) (qs1 rfl (qs1 rfl (qs1 rfl (qs1 rfl qs0)))) ?_
            refine R_iload_n dX8_readAll_75 rfl ?_
            refine R_if_neN (tgt := 81) dX8_readAll_76 (by decide) (by omega) (fun h_76 => ?_) (fun h_76 => by exact absurd h_76 (by decide))
            refine R_goto (tgt := 9) dX8_readAll_81 (by decide) ?_
            refine R_ls (L' := [(0, .ref 0)]) (qs1 rfl qs0) ?_
            exact (ih (a + z) F2 d2 _ (by omega) hok.2.2 (by omega) (by rw [← prs_go h_14 hi]; exact hp) hX2 hok.1 (fun _ => h42) (fun e => absurd e (by omega)) h153 (hO1.tr hO2))
          · have hit : item tx a d = itemY tx 0 d := by unfold item; rw [if_pos h_51, h_45]
            rw [← hit] at hi
            refine R_if_eqN (tgt := 65) dX8_readAll_58 (by decide) (by omega) (fun h_58 => ?_) (fun h_58 => by exact absurd h_58 (by decide))
            refine R_iconst (v := nI 0) dX8_readAll_65 rfl ?_
            refine R_goto (tgt := 74) dX8_readAll_66 (by decide) ?_
            refine R_istore_n (L' := [(0, .ref 0), (1, .int (nI a)), (2, .int (nI (lt tx a))), (3, .int (nI 0))]) dX8_readAll_74 (by decide) (qs1 rfl (qs1 rfl (qs1 rfl (qs1 rfl qs0)))) ?_
            refine R_iload_n dX8_readAll_75 rfl ?_
            refine R_if_neN (tgt := 81) dX8_readAll_76 (by decide) (by omega) (fun h_76 => by exact absurd h_76 (by decide)) (fun h_76 => ?_)
            refine R_iload_n dX8_readAll_79 rfl ?_
            refine R_ireturn dX8_readAll_80 rfl rfl ?_
            have e : rdR tx = .inl a := by rw [← hp]; exact prs_bad h_14 hi
            unfold qrA; rw [e]
            exact ⟨hO1.tr hO2, rfl, h_14⟩
set_option maxRecDepth 100000 in
set_option maxHeartbeats 4000000 in
theorem m_readAll {M : qMem} {tx : List Nat} (hT : MT M tx) (hB : txB tx) : qSem 1 mX8_readAll [.ref 0] M (qrA tx M) := by
  refine qSem.of (by decide +kernel) (Nat.le_of_ble_eq_true rfl) (fun w => ?_)
  refine R_ls (L' := [(0, .ref 0)]) (qs1 rfl qs0) ?_
  refine R_aload_n dX8_readAll_0 rfl ?_
  refine R_callV (mc := mX8_empty) (As := []) (r := 0) dX8_readAll_1 lm_RX8_68 mv_X8_empty rfl (by decide) rfl rfl rfl rfl (Nat.le_of_ble_eq_true rfl) m_empty ?_
  rintro _ _ ⟨rfl, hO, hX⟩
  refine R_aload_n dX8_readAll_4 rfl ?_
  refine R_iconst (v := nI 0) dX8_readAll_5 rfl ?_
  refine R_putI dX8_readAll_6 lf_RX8_105 (by decide) rfl rfl rfl rfl ?_
  refine R_ls (L' := [(0, .ref 0)]) (qs1 rfl qs0) ?_
  exact (m_rdL hT hB (tx.length + 2) 0 (tx.length + 1) dFresh _ (by omega) (Nat.zero_le _) (by omega) rfl hX.s dB_fresh (fun h => absurd h (Nat.lt_irrefl 0)) (fun _ => ⟨rfl, rfl⟩) (by rw [qIs_eq]) (hO.is (by unfold sRd; omega)))
set_option maxRecDepth 100000 in
set_option maxHeartbeats 4000000 in
theorem p_fault0 {M : qMem} {s : sT} (hI : MI M s) (hs : sOk s) {f : Nat} (hr : rdR (sX s) = .inl f) : qSem 1 mX8_fault [.ref 0] M (fun r N => r = some (.int (rFault s)) ∧ MI N s) := by
  have hf : rFault s = nI f := by unfold rFault; rw [hr]
  rw [hf]
  refine qSem.of (by decide +kernel) (Nat.le_of_ble_eq_true rfl) (fun w => ?_)
  refine R_ls (L' := [(0, .ref 0)]) (qs1 rfl qs0) ?_
  refine R_aload_n dX8_fault_0 rfl ?_
  refine R_callV (mc := mX8_readAll) (As := []) (r := 0) dX8_fault_1 lm_RX8_144 mv_X8_readAll rfl (by decide) rfl rfl rfl rfl (Nat.le_of_ble_eq_true rfl) ((m_readAll hI.2.2.1 hs.2.2.1).mono (fun _ _ => qrA_l hr)) ?_
  rintro _ _ ⟨hO, rfl, _⟩
  refine R_ireturn dX8_fault_4 rfl rfl ?_
  exact ⟨rfl, hI.rd hO⟩
set_option maxRecDepth 100000 in
set_option maxHeartbeats 4000000 in
theorem p_fault1 {M : qMem} {s : sT} (hI : MI M s) (hs : sOk s) {d : dT} (hr : rdR (sX s) = .inr d) : qSem 1 mX8_fault [.ref 0] M (fun r N => r = some (.int (rFault s)) ∧ MI N s) := by
  have hf : rFault s = -4 := by unfold rFault; rw [hr]
  rw [hf]
  refine qSem.of (by decide +kernel) (Nat.le_of_ble_eq_true rfl) (fun w => ?_)
  refine R_ls (L' := [(0, .ref 0)]) (qs1 rfl qs0) ?_
  refine R_aload_n dX8_fault_0 rfl ?_
  refine R_callV (mc := mX8_readAll) (As := []) (r := 0) dX8_fault_1 lm_RX8_144 mv_X8_readAll rfl (by decide) rfl rfl rfl rfl (Nat.le_of_ble_eq_true rfl) ((m_readAll hI.2.2.1 hs.2.2.1).mono (fun _ _ => qrA_r hr)) ?_
  rintro _ _ ⟨hO, rfl, _⟩
  refine R_ireturn dX8_fault_4 rfl rfl ?_
  exact ⟨rfl, hI.rd hO⟩

theorem p_fault {M : qMem} {s : sT} (hI : MI M s) (hs : sOk s) : qSem 1 mX8_fault [.ref 0] M (fun r N => r = some (.int (rFault s)) ∧ MI N s) := by
  cases h : rdR (sX s) with
  | inl f => exact p_fault0 hI hs h
  | inr d => exact p_fault1 hI hs h

def sBg (o k : Nat) : Prop := o = 2 ∨ o = 3 ∨ o = 4 ∨ (o = 0 ∧ (k = 2 ∨ k = 3 ∨ k = 13 ∨ k = 22))
theorem cOff.bg {M N : qMem} (h : cOff sBg M N) {o : Nat} (h0 : o ≠ 0) (h2 : o ≠ 2) (h3 : o ≠ 3) (h4 : o ≠ 4) : N.1 o = M.1 o := funext fun k => (h o k (by unfold sBg; omega)).1
def bE (M N : qMem) : Prop := cOff sBg M N ∧ N.1 0 2 = M.1 0 7 ∧ N.1 0 3 = M.1 0 8 ∧ (∀ c, c < 6 → N.1 2 c = M.1 5 c ∧ N.1 3 c = M.1 6 c) ∧ (∀ k, k < 102 → N.1 4 k = M.1 7 k) ∧ N.1 0 13 = nI 0 ∧ N.1 0 22 = nI 0
set_option maxRecDepth 100000 in
set_option maxHeartbeats 4000000 in
theorem m_bg2 {w : qWT} {M : qMem} : ∀ (fu : Nat) (i : Nat) (K : qMem), (103 - i) < fu → (i ≤ 102) → (cOff sBg M K) → (K.1 0 2 = M.1 0 7) → (K.1 0 3 = M.1 0 8) → (∀ c, c < 6 → K.1 2 c = M.1 5 c ∧ K.1 3 c = M.1 6 c) → (∀ k, k < i → K.1 4 k = M.1 7 k) → qRW 1 w mX8_begin 56 [(0, .ref 0), (1, .int (nI i))] [] K (fun v N => v = none ∧ bE M N) := by
  intro fu
  induction fu with
  | zero => intro i K hn; exact absurd hn (Nat.not_lt_zero _)
  | succ fu ih =>
    intro i K hn hi hO h2 h3 hp hn
    refine R_iload_n dX8_begin_56 rfl ?_
    refine R_bipush (v := nI 102) dX8_begin_57 rfl ?_
    refine R_icmp_geN (tgt := 80) dX8_begin_59 (by decide) (by omega) (by omega) (fun h_59 => ?_) (fun h_59 => ?_)
    · refine R_aload_n dX8_begin_80 rfl ?_
      refine R_iconst (v := nI 0) dX8_begin_81 rfl ?_
      refine R_putI dX8_begin_82 lf_RX8_154 (by decide) rfl rfl rfl rfl ?_
      refine R_aload_n dX8_begin_85 rfl ?_
      refine R_iconst (v := nI 0) dX8_begin_86 rfl ?_
      refine R_putI dX8_begin_87 lf_RX8_157 (by decide) rfl rfl rfl rfl ?_
      refine R_return dX8_begin_90 rfl ?_
      exact ⟨rfl, (hO.is (by unfold sBg; omega)).is (by unfold sBg; omega), by rw [qIs_nk (by decide), qIs_nk (by decide)]; exact h2, by rw [qIs_nk (by decide), qIs_nk (by decide)]; exact h3, fun c hc => by rw [qIs_no (by decide), qIs_no (by decide), qIs_no (by decide), qIs_no (by decide)]; exact hp c hc, fun k hk => by rw [qIs_no (by decide), qIs_no (by decide)]; exact hn k (by omega), by rw [qIs_nk (by decide), qIs_eq], by rw [qIs_eq]⟩
    · refine R_aload_n dX8_begin_62 rfl ?_
      refine R_getR dX8_begin_63 lg_RX8_19 (by decide) rfl rfl ?_
      refine R_iload_n dX8_begin_66 rfl ?_
      refine R_aload_n dX8_begin_67 rfl ?_
      refine R_getR dX8_begin_68 lg_RX8_28 (by decide) rfl rfl ?_
      refine R_iload_n dX8_begin_71 rfl ?_
      refine R_ialdN dX8_begin_72 (by decide) rfl (by omega) (by decide) ?_
      refine R_top (y := M.1 7 i) (by rw [hO.bg (by decide) (by decide) (by decide) (by decide)]) ?_
      refine R_iastN dX8_begin_73 (by decide) rfl (by omega) (by decide) ?_
      refine R_iincN (n := 1) (L' := [(0, .ref 0), (1, .int (nI (i + 1)))]) dX8_begin_74 rfl (by decide) (qs1 rfl (qs1 rfl qs0)) ?_
      refine R_goto (tgt := 56) dX8_begin_77 (by decide) ?_
      refine R_ls (L' := [(0, .ref 0), (1, .int (nI (i + 1)))]) (qs1 rfl (qs1 rfl qs0)) ?_
      exact (ih (i + 1) _ (by omega) (by omega) (hO.is (by unfold sBg; omega)) (by rw [qIs_no (by decide)]; exact h2) (by rw [qIs_no (by decide)]; exact h3) (fun c hc => by rw [qIs_no (by decide), qIs_no (by decide)]; exact hp c hc) (fun k hk => by rw [qIs_1]; by_cases e : k = i; rw [if_pos ⟨rfl, e⟩, e]; rw [if_neg (fun z => e z.2)]; exact hn k (by omega)))
set_option maxRecDepth 100000 in
set_option maxHeartbeats 4000000 in
theorem m_bg1 {w : qWT} {M : qMem} : ∀ (fu : Nat) (i : Nat) (K : qMem), (7 - i) < fu → (i ≤ 6) → (cOff sBg M K) → (K.1 0 2 = M.1 0 7) → (K.1 0 3 = M.1 0 8) → (∀ c, c < i → K.1 2 c = M.1 5 c ∧ K.1 3 c = M.1 6 c) → qRW 1 w mX8_begin 18 [(0, .ref 0), (1, .int (nI i))] [] K (fun v N => v = none ∧ bE M N) := by
  intro fu
  induction fu with
  | zero => intro i K hn; exact absurd hn (Nat.not_lt_zero _)
  | succ fu ih =>
    intro i K hn hi hO h2 h3 hp
    refine R_iload_n dX8_begin_18 rfl ?_
    refine R_bipush (v := nI 6) dX8_begin_19 rfl ?_
    refine R_icmp_geN (tgt := 54) dX8_begin_21 (by decide) (by omega) (by omega) (fun h_21 => ?_) (fun h_21 => ?_)
    · refine R_iconst (v := nI 0) dX8_begin_54 rfl ?_
      refine R_istore_n (L' := [(0, .ref 0), (1, .int (nI 0))]) dX8_begin_55 (by decide) (qs1 rfl (qs1 rfl qs0)) ?_
      refine R_ls (L' := [(0, .ref 0), (1, .int (nI 0))]) (qs1 rfl (qs1 rfl qs0)) ?_
      exact (m_bg2 104 0 K (by omega) (Nat.zero_le _) hO h2 h3 (fun c hc => hp c (by omega)) (fun k hk => absurd hk (Nat.not_lt_zero k)))
    · refine R_aload_n dX8_begin_24 rfl ?_
      refine R_getR dX8_begin_25 lg_RX8_13 (by decide) rfl rfl ?_
      refine R_iload_n dX8_begin_28 rfl ?_
      refine R_aload_n dX8_begin_29 rfl ?_
      refine R_getR dX8_begin_30 lg_RX8_22 (by decide) rfl rfl ?_
      refine R_iload_n dX8_begin_33 rfl ?_
      refine R_ialdN dX8_begin_34 (by decide) rfl (by omega) (by decide) ?_
      refine R_top (y := M.1 5 i) (by rw [hO.bg (by decide) (by decide) (by decide) (by decide)]) ?_
      refine R_iastN dX8_begin_35 (by decide) rfl (by omega) (by decide) ?_
      refine R_aload_n dX8_begin_36 rfl ?_
      refine R_getR dX8_begin_37 lg_RX8_16 (by decide) rfl rfl ?_
      refine R_iload_n dX8_begin_40 rfl ?_
      refine R_aload_n dX8_begin_41 rfl ?_
      refine R_getR dX8_begin_42 lg_RX8_25 (by decide) rfl rfl ?_
      refine R_iload_n dX8_begin_45 rfl ?_
      refine R_ialdN dX8_begin_46 (by decide) rfl (by omega) (by decide) ?_
      refine R_top (y := M.1 6 i) (by rw [qIs_no (by decide), hO.bg (by decide) (by decide) (by decide) (by decide)]) ?_
      refine R_iastN dX8_begin_47 (by decide) rfl (by omega) (by decide) ?_
      refine R_iincN (n := 1) (L' := [(0, .ref 0), (1, .int (nI (i + 1)))]) dX8_begin_48 rfl (by decide) (qs1 rfl (qs1 rfl qs0)) ?_
      refine R_goto (tgt := 18) dX8_begin_51 (by decide) ?_
      refine R_ls (L' := [(0, .ref 0), (1, .int (nI (i + 1)))]) (qs1 rfl (qs1 rfl qs0)) ?_
      exact (ih (i + 1) _ (by omega) (by omega) ((hO.is (by unfold sBg; omega)).is (by unfold sBg; omega)) (by rw [qIs_no (by decide), qIs_no (by decide)]; exact h2) (by rw [qIs_no (by decide), qIs_no (by decide)]; exact h3) (fun c hc => by rw [qIs_no (a := 2) (by decide), qIs_1, qIs_1, qIs_no (M := K) (a := 3) (by decide)]; by_cases e : c = i; rw [if_pos ⟨rfl, e⟩, if_pos ⟨rfl, e⟩, e]; exact ⟨rfl, rfl⟩; rw [if_neg (fun z => e z.2), if_neg (fun z => e z.2)]; exact hp c (by omega)))
set_option maxRecDepth 100000 in
set_option maxHeartbeats 4000000 in
theorem m_begin {M : qMem} : qSem 1 mX8_begin [.ref 0] M (fun v N => v = none ∧ bE M N) := by
  refine qSem.of (by decide +kernel) (Nat.le_of_ble_eq_true rfl) (fun w => ?_)
  refine R_ls (L' := [(0, .ref 0)]) (qs1 rfl qs0) ?_
  refine R_aload_n dX8_begin_0 rfl ?_
  refine R_aload_n dX8_begin_1 rfl ?_
  refine R_getI dX8_begin_2 (lf_RX8_91).get (by decide) rfl rfl ?_
  refine R_putI dX8_begin_5 lf_RX8_148 (by decide) rfl rfl rfl rfl ?_
  refine R_aload_n dX8_begin_8 rfl ?_
  refine R_aload_n dX8_begin_9 rfl ?_
  refine R_getI dX8_begin_10 (lf_RX8_71).get (by decide) rfl rfl ?_
  refine R_top (y := M.1 0 8) (by rw [qIs_nk (by decide)]) ?_
  refine R_putI dX8_begin_13 lf_RX8_151 (by decide) rfl rfl rfl rfl ?_
  refine R_iconst (v := nI 0) dX8_begin_16 rfl ?_
  refine R_istore_n (L' := [(0, .ref 0), (1, .int (nI 0))]) dX8_begin_17 (by decide) (qs1 rfl (qs1 rfl qs0)) ?_
  refine R_ls (L' := [(0, .ref 0), (1, .int (nI 0))]) (qs1 rfl (qs1 rfl qs0)) ?_
  exact (m_bg1 8 0 _ (by omega) (Nat.zero_le _) ((cOff.rf.is (by unfold sBg; omega)).is (by unfold sBg; omega)) (by rw [qIs_nk (by decide), qIs_eq]) (by rw [qIs_eq]) (fun c hc => absurd hc (Nat.not_lt_zero c)))

theorem MI_bg {M N : qMem} {d : dT} {tx : List Nat} (hT : MT M tx) (h : MD M d) (hD : dB d) (hE : bE M N) : MI N (d, [], [], tx) := by
  obtain ⟨g1, g2, g3, g4, g5, g6⟩ := h
  obtain ⟨e0, e1, e2, e3, e4, e5, e6⟩ := hE
  have hK6 := hD.2.1
  have hY16 := hD.1
  refine ⟨⟨⟨by rw [e1]; exact g1, by rw [e2]; exact g2, fun c hc => ?_, fun c hc => ?_⟩, g5.mv hK6 hY16 (fun k hk => by rw [Nat.zero_add]; exact e4 k hk)⟩, ⟨by rw [e4 101 (by decide)]; exact g6, fun i x hi => absurd hi (by intro z; cases z)⟩, hT.off (e0 0 0 (by unfold sBg; omega)).1 (e0.bg (by decide) (by decide) (by decide) (by decide)), e5, True.intro, fun z => absurd (by rw [e6]; rfl) z⟩
  · have hc : c < dK d := hc
    rw [(e3 c (by omega)).1]; exact g3 c hc
  · have hc : c < dK d := hc
    rw [(e3 c (by omega)).2]; exact g4 c hc
set_option maxRecDepth 100000 in
set_option maxHeartbeats 4000000 in
theorem p_lay0 {M : qMem} {s : sT} (hI : MI M s) (hs : sOk s) {f : Nat} (hr : rdR (sX s) = .inl f) : qSem 1 mX8_lay [.ref 0] M (fun r N => r = some (.int (rLay s).1) ∧ MI N (rLay s).2) := by
  have hl200 := hs.2.2.1.1
  have hl : rLay s = (-2, s) := by unfold rLay; rw [hr]
  rw [hl]
  refine qSem.of (by decide +kernel) (Nat.le_of_ble_eq_true rfl) (fun w => ?_)
  refine R_ls (L' := [(0, .ref 0)]) (qs1 rfl qs0) ?_
  refine R_aload_n dX8_lay_0 rfl ?_
  refine R_callV (mc := mX8_readAll) (As := []) (r := 0) dX8_lay_1 lm_RX8_144 mv_X8_readAll rfl (by decide) rfl rfl rfl rfl (Nat.le_of_ble_eq_true rfl) ((m_readAll hI.2.2.1 hs.2.2.1).mono (fun _ _ => qrA_l hr)) ?_
  rintro _ _ ⟨hO, rfl, hfl⟩
  refine R_bipush (v := -4) dX8_lay_4 rfl ?_
  refine R_icmp_ne (tgt := 17) dX8_lay_6 (by decide) (fun h_6 => ?_) (fun h_6 => by first | exact absurd h_6 (nI_m4 (by omega)) | exact absurd (Decidable.not_not.mp h_6) (nI_m4 (by omega)))
  refine R_bipush (v := -2) dX8_lay_17 rfl ?_
  refine R_ireturn dX8_lay_19 rfl rfl ?_
  exact ⟨rfl, hI.rd hO⟩
set_option maxRecDepth 100000 in
set_option maxHeartbeats 4000000 in
theorem p_lay1 {M : qMem} {s : sT} (hI : MI M s) (hs : sOk s) {d : dT} (hr : rdR (sX s) = .inr d) : qSem 1 mX8_lay [.ref 0] M (fun r N => r = some (.int (rLay s).1) ∧ MI N (rLay s).2) := by
  obtain ⟨hDB, hD4⟩ := rdR_G hr
  have hK6 := hDB.2.1
  refine qSem.of (by decide +kernel) (Nat.le_of_ble_eq_true rfl) (fun w => ?_)
  refine R_ls (L' := [(0, .ref 0)]) (qs1 rfl qs0) ?_
  refine R_aload_n dX8_lay_0 rfl ?_
  refine R_callV (mc := mX8_readAll) (As := []) (r := 0) dX8_lay_1 lm_RX8_144 mv_X8_readAll rfl (by decide) rfl rfl rfl rfl (Nat.le_of_ble_eq_true rfl) ((m_readAll hI.2.2.1 hs.2.2.1).mono (fun _ _ => qrA_r hr)) ?_
  rintro _ _ ⟨hO, rfl, hX⟩
  refine R_bipush (v := -4) dX8_lay_4 rfl ?_
  refine R_icmp_ne (tgt := 17) dX8_lay_6 (by decide) (fun h_6 => by exact absurd h_6 (by decide)) (fun h_6 => ?_)
  refine R_aload_n dX8_lay_9 rfl ?_
  refine R_getI dX8_lay_10 (lf_RX8_91).get (by decide) rfl rfl ?_
  refine R_top (y := nI (dK d)) hX.1 ?_
  refine R_iconst (v := nI 2) dX8_lay_13 rfl ?_
  refine R_icmp_geN (tgt := 20) dX8_lay_14 (by decide) (by omega) (by omega) (fun h_14 => ?_) (fun h_14 => ?_)
  · refine R_aload_n dX8_lay_20 rfl ?_
    refine R_callV (mc := mX8_begin) (As := []) (r := 0) dX8_lay_21 lm_RX8_88 mv_X8_begin rfl (by decide) rfl rfl rfl rfl (Nat.le_of_ble_eq_true rfl) m_begin ?_
    rintro _ _ ⟨rfl, hE⟩
    refine R_aload_n dX8_lay_24 rfl ?_
    refine R_getI dX8_lay_25 (lf_RX8_148).get (by decide) rfl rfl ?_
    refine R_top (y := nI (dK d)) (by rw [hE.2.1]; exact hX.1) ?_
    refine R_ireturn dX8_lay_28 rfl rfl ?_
    have hl : rLay s = (nI (dK d), (d, [], [], sX s)) := by unfold rLay; rw [hr]; exact if_neg (by omega)
    rw [hl]
    exact ⟨rfl, MI_bg (hI.2.2.1.rd hO) hX hDB hE⟩
  · refine R_bipush (v := -2) dX8_lay_17 rfl ?_
    refine R_ireturn dX8_lay_19 rfl rfl ?_
    have hl : rLay s = (-2, s) := by unfold rLay; rw [hr]; exact if_pos (by omega)
    rw [hl]
    exact ⟨rfl, hI.rd hO⟩

theorem p_lay {M : qMem} {s : sT} (hI : MI M s) (hs : sOk s) : qSem 1 mX8_lay [.ref 0] M (fun r N => r = some (.int (rLay s).1) ∧ MI N (rLay s).2) := by
  cases h : rdR (sX s) with
  | inl f => exact p_lay0 hI hs h
  | inr d => exact p_lay1 hI hs h
