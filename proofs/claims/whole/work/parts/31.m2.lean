set_option maxRecDepth 100000 in
set_option maxHeartbeats 4000000 in
theorem n_value {M : qMem} {d : dT} (hX : MR M d) (hB : dB d) (hK2 : 2 ≤ dK d) (hY4 : 4 ≤ dY d) {c t : Int32} : qSem 1 mX8_value [.ref 0, .int (c), .int (t)] M (qr (aValue d c t) M) := by
  have hK6 := hB.2.1
  have hY16 := hB.1
  refine qSem.of (by decide +kernel) (Nat.le_of_ble_eq_true rfl) (fun w => ?_)
  refine R_ls (L' := [(0, .ref 0), (1, .int (c)), (2, .int (t))]) (qs1 rfl (qs1 rfl (qs1 rfl qs0))) ?_
  refine R_aload_n dX8_value_0 rfl ?_
  refine R_iload_n dX8_value_1 rfl ?_
  refine R_callV (mc := mX8_isStation) (As := [_]) (r := 0) dX8_value_2 lm_RX8_161 mv_X8_isStation rfl (by decide) rfl rfl rfl rfl (Nat.le_of_ble_eq_true rfl) (m_isSta hX (by omega) (by omega)) ?_
  rintro _ _ ⟨rfl, ⟨rfl, hkc⟩ | ⟨rfl, hkc⟩⟩
  · have hkc2 : inN c (dK d) := hkc
    obtain ⟨cc, hcc, rfl⟩ := inN_o (by omega) hkc2
    refine R_if_eqN (tgt := 28) dX8_value_5 (by decide) (by omega) (fun h_5 => by exact absurd h_5 (by decide)) (fun h_5 => ?_)
    refine R_aload_n dX8_value_8 rfl ?_
    refine R_iload_n dX8_value_9 rfl ?_
    refine R_callV (mc := mX8_isYear) (As := [_]) (r := 0) dX8_value_10 lm_RX8_171 mv_X8_isYear rfl (by decide) rfl rfl rfl rfl (Nat.le_of_ble_eq_true rfl) (m_isYea hX (by omega) (by omega)) ?_
    rintro _ _ ⟨rfl, ⟨rfl, hkt⟩ | ⟨rfl, hkt⟩⟩
    · have hkt2 : inN t (dY d) := hkt
      obtain ⟨ct, hct, rfl⟩ := inN_o (by omega) hkt2
      refine R_if_eqN (tgt := 28) dX8_value_13 (by decide) (by omega) (fun h_13 => by exact absurd h_13 (by decide)) (fun h_13 => ?_)
      refine R_aload_n dX8_value_16 rfl ?_
      refine R_iload_n dX8_value_17 rfl ?_
      refine R_iload_n dX8_value_18 rfl ?_
      refine R_callV (mc := mX8_valueOf) (As := [_, _]) (r := 0) dX8_value_19 lm_RX8_164 mv_X8_valueOf rfl (by decide) rfl rfl rfl rfl (Nat.le_of_ble_eq_true rfl) (m_val hX hB (by omega) (by omega)) ?_
      rintro _ _ ⟨rfl, rfl⟩
      refine R_callS (mc := mX8_told) (As := [_]) dX8_value_22 lm_RX8_174 mv_X8_told rfl rfl rfl (Nat.le_of_ble_eq_true rfl) (m_told rfl (fun v e => hB.2.2.1 _ _ v e)) ?_
      rintro _ _ ⟨rfl, rfl⟩
      refine R_goto (tgt := 29) dX8_value_25 (by decide) ?_
      refine R_ireturn dX8_value_29 rfl rfl ?_
      refine ⟨?_, rfl⟩
      unfold aValue
      (first | rw [if_pos ⟨hkc2, hkt2⟩, kn_n (by omega), kn_n (by omega)] | rw [if_neg (fun h => hkt h.2)] | rw [if_neg (fun h => hkc h.1)])
    · refine R_if_eqN (tgt := 28) dX8_value_13 (by decide) (by omega) (fun h_13 => ?_) (fun h_13 => by exact absurd h_13 (by decide))
      refine R_iconst (v := -1) dX8_value_28 rfl ?_
      refine R_ireturn dX8_value_29 rfl rfl ?_
      refine ⟨?_, rfl⟩
      unfold aValue
      (first | rw [if_pos ⟨hkc2, hkt2⟩, kn_n (by omega), kn_n (by omega)] | rw [if_neg (fun h => hkt h.2)] | rw [if_neg (fun h => hkc h.1)])
  · refine R_if_eqN (tgt := 28) dX8_value_5 (by decide) (by omega) (fun h_5 => ?_) (fun h_5 => by exact absurd h_5 (by decide))
    refine R_iconst (v := -1) dX8_value_28 rfl ?_
    refine R_ireturn dX8_value_29 rfl rfl ?_
    refine ⟨?_, rfl⟩
    unfold aValue
    (first | rw [if_pos ⟨hkc2, hkt2⟩, kn_n (by omega), kn_n (by omega)] | rw [if_neg (fun h => hkt h.2)] | rw [if_neg (fun h => hkc h.1)])
set_option maxRecDepth 100000 in
set_option maxHeartbeats 4000000 in
theorem m_near {w : qWT} {M : qMem} {d : dT} (hX : MR M d) (hB : dB d) (hK2 : 2 ≤ dK d) (hY4 : 4 ≤ dY d) {cc : Nat} {k : Int32} (hcc : cc < dK d) : ∀ (fu : Nat) (i : Nat), (dK d + 1 - i) < fu → (i ≤ dK d) → (∀ a, 0 ≤ a → a < i → (fun o => decide (o ≠ cc) && decide (nI (rnk d cc o) = k)) a = false) → qRW 1 w mX8_nearest 16 [(0, .ref 0), (1, .int (nI cc)), (2, .int (k)), (3, .int (nI i))] [] M (qr (if nrF d cc k < dK d then nI (nrF d cc k) else -4) M) := by
  intro fu
  induction fu with
  | zero => intro i hn; exact absurd hn (Nat.not_lt_zero _)
  | succ fu ih =>
    intro i hn hi hn2
    have hK6 := hB.2.1
    have hY16 := hB.1
    refine R_iload_n dX8_nearest_16 rfl ?_
    refine R_aload_n dX8_nearest_17 rfl ?_
    refine R_getI dX8_nearest_18 (lf_RX8_148).get (by decide) rfl rfl ?_
    refine R_top (y := nI (dK d)) hX.1.1 ?_
    refine R_icmp_geN (tgt := 47) dX8_nearest_21 (by decide) (by omega) (by omega) (fun h_21 => ?_) (fun h_21 => ?_)
    · refine R_bipush (v := -4) dX8_nearest_47 rfl ?_
      refine R_ireturn dX8_nearest_49 rfl rfl ?_
      have e0 : i = dK d := by omega
      subst e0
      have e : nrF d cc k = 0 + dK d := srch_none (fun a h1 h2 => hn2 a h1 (by omega))
      exact ⟨by rw [e, if_neg (by omega)], rfl⟩
    · refine R_iload_n dX8_nearest_24 rfl ?_
      refine R_iload_n dX8_nearest_25 rfl ?_
      refine R_icmp_eqN (tgt := 41) dX8_nearest_26 (by decide) (by omega) (by omega) (fun h_26 => ?_) (fun h_26 => ?_)
      · refine R_iincN (n := 1) (L' := [(0, .ref 0), (1, .int (nI cc)), (2, .int (k)), (3, .int (nI (i + 1)))]) dX8_nearest_41 rfl (by decide) (qs1 rfl (qs1 rfl (qs1 rfl (qs1 rfl qs0)))) ?_
        refine R_goto (tgt := 16) dX8_nearest_44 (by decide) ?_
        refine R_ls (L' := [(0, .ref 0), (1, .int (nI cc)), (2, .int (k)), (3, .int (nI (i + 1)))]) (qs1 rfl (qs1 rfl (qs1 rfl (qs1 rfl qs0)))) ?_
        exact (ih (i + 1) (by omega) (by omega) (fun a ha hb => by rcases Nat.lt_or_ge a i with q | q <;> first | exact hn2 a ha q | (have e : a = i := (by omega); subst e; simp; omega)))
      · refine R_aload_n dX8_nearest_29 rfl ?_
        refine R_iload_n dX8_nearest_30 rfl ?_
        refine R_iload_n dX8_nearest_31 rfl ?_
        refine R_callV (mc := mX8_rankOf) (As := [_, _]) (r := 0) dX8_nearest_32 lm_RX8_207 mv_X8_rankOf rfl (by decide) rfl rfl rfl rfl (Nat.le_of_ble_eq_true rfl) (m_rank hX hB hcc (by omega)) ?_
        rintro _ _ ⟨rfl, rfl⟩
        refine R_iload_n dX8_nearest_35 rfl ?_
        refine R_icmp_ne (tgt := 41) dX8_nearest_36 (by decide) (fun h_36 => ?_) (fun h_36 => ?_)
        · refine R_iincN (n := 1) (L' := [(0, .ref 0), (1, .int (nI cc)), (2, .int (k)), (3, .int (nI (i + 1)))]) dX8_nearest_41 rfl (by decide) (qs1 rfl (qs1 rfl (qs1 rfl (qs1 rfl qs0)))) ?_
          refine R_goto (tgt := 16) dX8_nearest_44 (by decide) ?_
          refine R_ls (L' := [(0, .ref 0), (1, .int (nI cc)), (2, .int (k)), (3, .int (nI (i + 1)))]) (qs1 rfl (qs1 rfl (qs1 rfl (qs1 rfl qs0)))) ?_
          exact (ih (i + 1) (by omega) (by omega) (fun a ha hb => by rcases Nat.lt_or_ge a i with q | q <;> first | exact hn2 a ha q | (have e : a = i := (by omega); subst e; simp_all)))
        · refine R_iload_n dX8_nearest_39 rfl ?_
          refine R_ireturn dX8_nearest_40 rfl rfl ?_
          have e : nrF d cc k = i := srch_first (Nat.zero_le _) (by omega) (by simp; exact ⟨h_26, h_36⟩) hn2
          exact ⟨by rw [e, if_pos (by omega)], rfl⟩
set_option maxRecDepth 100000 in
set_option maxHeartbeats 4000000 in
theorem n_nearest {M : qMem} {d : dT} (hX : MR M d) (hB : dB d) (hK2 : 2 ≤ dK d) (hY4 : 4 ≤ dY d) {c k : Int32} : qSem 1 mX8_nearest [.ref 0, .int (c), .int (k)] M (qr (aNearest d c k) M) := by
  have hK6 := hB.2.1
  have hY16 := hB.1
  refine qSem.of (by decide +kernel) (Nat.le_of_ble_eq_true rfl) (fun w => ?_)
  refine R_ls (L' := [(0, .ref 0), (1, .int (c)), (2, .int (k))]) (qs1 rfl (qs1 rfl (qs1 rfl qs0))) ?_
  refine R_aload_n dX8_nearest_0 rfl ?_
  refine R_iload_n dX8_nearest_1 rfl ?_
  refine R_callV (mc := mX8_isStation) (As := [_]) (r := 0) dX8_nearest_2 lm_RX8_161 mv_X8_isStation rfl (by decide) rfl rfl rfl rfl (Nat.le_of_ble_eq_true rfl) (m_isSta hX (by omega) (by omega)) ?_
  rintro _ _ ⟨rfl, ⟨rfl, hkc⟩ | ⟨rfl, hkc⟩⟩
  · have hkc2 : inN c (dK d) := hkc
    obtain ⟨cc, hcc, rfl⟩ := inN_o (by omega) hkc2
    refine R_if_eqN (tgt := 12) dX8_nearest_5 (by decide) (by omega) (fun h_5 => by exact absurd h_5 (by decide)) (fun h_5 => ?_)
    refine R_iload_n dX8_nearest_8 rfl ?_
    refine R_if_ge (tgt := 14) dX8_nearest_9 (by decide) (fun h_9 => ?_) (fun h_9 => ?_)
    · refine R_iconst (v := nI 0) dX8_nearest_14 rfl ?_
      refine R_istore_n (L' := [(0, .ref 0), (1, .int (nI cc)), (2, .int (k)), (3, .int (nI 0))]) dX8_nearest_15 (by decide) (qs1 rfl (qs1 rfl (qs1 rfl (qs1 rfl qs0)))) ?_
      rw [show aNearest d (nI cc) k = (if nrF d cc k < dK d then nI (nrF d cc k) else -4) from by unfold aNearest; rw [if_pos ⟨hkc2, by first | exact h_9 | exact Int32.not_lt.mpr h_9⟩, kn_n (by omega)]]
      refine R_ls (L' := [(0, .ref 0), (1, .int (nI cc)), (2, .int (k)), (3, .int (nI 0))]) (qs1 rfl (qs1 rfl (qs1 rfl (qs1 rfl qs0)))) ?_
      exact (m_near hX hB hK2 hY4 hcc (dK d + 2) 0 (by omega) (Nat.zero_le _) (fun a _ h => absurd h (Nat.not_lt_zero a)))
    · refine R_iconst (v := -1) dX8_nearest_12 rfl ?_
      refine R_ireturn dX8_nearest_13 rfl rfl ?_
      exact ⟨by unfold aNearest; rw [if_neg (fun h => by first | exact hkc h.1 | exact h.2 h_9 | exact h.2 (Int32.not_le.mp h_9))], rfl⟩
  · refine R_if_eqN (tgt := 12) dX8_nearest_5 (by decide) (by omega) (fun h_5 => ?_) (fun h_5 => by exact absurd h_5 (by decide))
    refine R_iconst (v := -1) dX8_nearest_12 rfl ?_
    refine R_ireturn dX8_nearest_13 rfl rfl ?_
    exact ⟨by unfold aNearest; rw [if_neg (fun h => by first | exact hkc h.1 | exact h.2 h_9 | exact h.2 (Int32.not_le.mp h_9))], rfl⟩
set_option maxRecDepth 100000 in
set_option maxHeartbeats 4000000 in
theorem n_pair {M : qMem} {d : dT} (hX : MR M d) (hB : dB d) (hK2 : 2 ≤ dK d) (hY4 : 4 ≤ dY d) {u v : Int32} : qSem 1 mX8_pair [.ref 0, .int (u), .int (v)] M (qr (aPair d u v) M) := by
  have hK6 := hB.2.1
  have hY16 := hB.1
  refine qSem.of (by decide +kernel) (Nat.le_of_ble_eq_true rfl) (fun w => ?_)
  refine R_ls (L' := [(0, .ref 0), (1, .int (u)), (2, .int (v))]) (qs1 rfl (qs1 rfl (qs1 rfl qs0))) ?_
  refine R_aload_n dX8_pair_0 rfl ?_
  refine R_iload_n dX8_pair_1 rfl ?_
  refine R_iload_n dX8_pair_2 rfl ?_
  refine R_callV (mc := mX8_areTwo) (As := [_, _]) (r := 0) dX8_pair_3 lm_RX8_210 mv_X8_areTwo rfl (by decide) rfl rfl rfl rfl (Nat.le_of_ble_eq_true rfl) (m_two hX hB hK2 hY4) ?_
  rintro _ _ ⟨rfl, ⟨rfl, htw⟩ | ⟨rfl, htw⟩⟩
  · have htw2 := htw
    obtain ⟨⟨cu, hu, rfl⟩, ⟨cv, hv, rfl⟩, hne⟩ : (∃ j, j < dK d ∧ u = nI j) ∧ (∃ j, j < dK d ∧ v = nI j) ∧ ¬ u = v := ⟨inN_o (by omega) htw.1, inN_o (by omega) htw.2.1, htw.2.2⟩
    refine R_if_eqN (tgt := 26) dX8_pair_6 (by decide) (by omega) (fun h_6 => by exact absurd h_6 (by decide)) (fun h_6 => ?_)
    refine R_aload_n dX8_pair_9 rfl ?_
    refine R_iload_n dX8_pair_10 rfl ?_
    refine R_iload_n dX8_pair_11 rfl ?_
    refine R_callV (mc := mX8_isPair) (As := [_, _]) (r := 0) dX8_pair_12 lm_RX8_213 mv_X8_isPair rfl (by decide) rfl rfl rfl rfl (Nat.le_of_ble_eq_true rfl) (m_pair hX hB hu hv) ?_
    rintro _ _ ⟨rfl, ⟨rfl, hp⟩ | ⟨rfl, hp⟩⟩
    · refine R_if_eqN (tgt := 22) dX8_pair_15 (by decide) (by omega) (fun h_15 => by exact absurd h_15 (by decide)) (fun h_15 => ?_)
      refine R_iconst (v := nI 1) dX8_pair_18 rfl ?_
      refine R_goto (tgt := 27) dX8_pair_19 (by decide) ?_
      refine R_ireturn dX8_pair_27 rfl rfl ?_
      refine ⟨?_, rfl⟩
      unfold aPair
      (first | rw [if_pos htw2, kn_n (by omega), kn_n (by omega), if_pos hp] | rw [if_pos htw2, kn_n (by omega), kn_n (by omega), if_neg hp] | rw [if_neg htw])
      try rfl
    · refine R_if_eqN (tgt := 22) dX8_pair_15 (by decide) (by omega) (fun h_15 => ?_) (fun h_15 => by exact absurd h_15 (by decide))
      refine R_iconst (v := nI 0) dX8_pair_22 rfl ?_
      refine R_goto (tgt := 27) dX8_pair_23 (by decide) ?_
      refine R_ireturn dX8_pair_27 rfl rfl ?_
      refine ⟨?_, rfl⟩
      unfold aPair
      (first | rw [if_pos htw2, kn_n (by omega), kn_n (by omega), if_pos hp] | rw [if_pos htw2, kn_n (by omega), kn_n (by omega), if_neg hp] | rw [if_neg htw])
      try rfl
  · refine R_if_eqN (tgt := 26) dX8_pair_6 (by decide) (by omega) (fun h_6 => ?_) (fun h_6 => by exact absurd h_6 (by decide))
    refine R_iconst (v := -1) dX8_pair_26 rfl ?_
    refine R_ireturn dX8_pair_27 rfl rfl ?_
    refine ⟨?_, rfl⟩
    unfold aPair
    (first | rw [if_pos htw2, kn_n (by omega), kn_n (by omega), if_pos hp] | rw [if_pos htw2, kn_n (by omega), kn_n (by omega), if_neg hp] | rw [if_neg htw])
    try rfl

theorem dir_gt {a b : Int32} (h : a < b) : dirI a b = 1 := by
  unfold dirI; rw [if_neg (fun e => by rw [e] at h; exact Int32.lt_irrefl h), if_pos h]
theorem dir_lt {a b : Int32} (h : b < a) : dirI a b = -1 := by
  unfold dirI; rw [if_neg (fun e => by rw [e] at h; exact Int32.lt_irrefl h), if_neg (fun z => Int32.lt_irrefl (Int32.lt_trans z h))]
theorem dir_eq {a b : Int32} (h1 : ¬ a < b) (h2 : ¬ b < a) : dirI a b = 0 := by
  have e : a = b := Int32.le_antisymm (Int32.not_lt.mp h2) (Int32.not_lt.mp h1)
  unfold dirI; rw [if_pos e]
theorem rise_s {d : dT} {c t y : Nat} {a b x : Int32} (h1 : dV d c y = some a) (h2 : dV d c t = some b) (hx : x = dirI a b) {s z : Int32} : s + rsIn d c t y + z + x = s + rsIn d c t (y + 1) + z := by
  rw [rsIn_s h1 h2, hx, Int32.add_assoc, Int32.add_comm z, ← Int32.add_assoc, Int32.add_assoc s]
set_option maxRecDepth 100000 in
set_option maxHeartbeats 4000000 in
theorem m_rise1 {w : qWT} {M : qMem} {d : dT} (hX : MR M d) (hB : dB d) (hK2 : 2 ≤ dK d) (hY4 : 4 ≤ dY d) {cc t : Nat} (hcc : cc < dK d) (ht : t < dY d) (hk : qRW 1 w mX8_rise 101 [(0, .ref 0), (1, .int (nI cc)), (2, .int (rsTo d cc (t + 1) + nI 100000)), (3, .int (nI t))] [] M (qr (rsTo d cc (dY d) + nI 100000) M)) : ∀ (fu : Nat) (y : Nat), (t + 1 - y) < fu → (y ≤ t) → qRW 1 w mX8_rise 26 [(0, .ref 0), (1, .int (nI cc)), (2, .int (rsTo d cc t + rsIn d cc t y + nI 100000)), (3, .int (nI t)), (4, .int (nI y))] [] M (qr (rsTo d cc (dY d) + nI 100000) M) := by
  intro fu
  induction fu with
  | zero => intro y hn; exact absurd hn (Nat.not_lt_zero _)
  | succ fu ih =>
    intro y hn hy
    have hK6 := hB.2.1
    have hY16 := hB.1
    refine R_iload dX8_rise_26 rfl ?_
    refine R_iload_n dX8_rise_28 rfl ?_
    refine R_icmp_geN (tgt := 101) dX8_rise_29 (by decide) (by omega) (by omega) (fun h_29 => ?_) (fun h_29 => ?_)
    · have e : y = t := by omega
      subst e
      refine R_ls (L' := [(0, .ref 0), (1, .int (nI cc)), (2, .int (rsTo d cc (y + 1) + nI 100000)), (3, .int (nI y))]) (qs1 rfl (qs1 rfl (qs1 rfl (qs1 rfl qs0)))) ?_
      exact hk
    · refine R_aload_n dX8_rise_32 rfl ?_
      refine R_iload_n dX8_rise_33 rfl ?_
      refine R_iload_n dX8_rise_34 rfl ?_
      refine R_callV (mc := mX8_isThere) (As := [_, _]) (r := 0) dX8_rise_35 lm_RX8_184 mv_X8_isThere rfl (by decide) rfl rfl rfl rfl (Nat.le_of_ble_eq_true rfl) (m_isT hX hB hcc (by omega)) ?_
      rintro _ _ ⟨rfl, ⟨rfl, ht2⟩ | ⟨rfl, ht2⟩⟩
      · obtain ⟨vht2, eht2⟩ := Option.isSome_iff_exists.mp ht2
        refine R_if_eqN (tgt := 95) dX8_rise_38 (by decide) (by omega) (fun h_38 => by exact absurd h_38 (by decide)) (fun h_38 => ?_)
        refine R_aload_n dX8_rise_41 rfl ?_
        refine R_iload_n dX8_rise_42 rfl ?_
        refine R_iload dX8_rise_43 rfl ?_
        refine R_callV (mc := mX8_isThere) (As := [_, _]) (r := 0) dX8_rise_45 lm_RX8_184 mv_X8_isThere rfl (by decide) rfl rfl rfl rfl (Nat.le_of_ble_eq_true rfl) (m_isT hX hB hcc (by omega)) ?_
        rintro _ _ ⟨rfl, ⟨rfl, hy2⟩ | ⟨rfl, hy2⟩⟩
        · obtain ⟨vhy2, ehy2⟩ := Option.isSome_iff_exists.mp hy2
          refine R_if_eqN (tgt := 95) dX8_rise_48 (by decide) (by omega) (fun h_48 => by exact absurd h_48 (by decide)) (fun h_48 => ?_)
          refine R_iload_n dX8_rise_51 rfl ?_
          refine R_aload_n dX8_rise_52 rfl ?_
          refine R_iload_n dX8_rise_53 rfl ?_
          refine R_iload_n dX8_rise_54 rfl ?_
          refine R_callV (mc := mX8_valueOf) (As := [_, _]) (r := 0) dX8_rise_55 lm_RX8_164 mv_X8_valueOf rfl (by decide) rfl rfl rfl rfl (Nat.le_of_ble_eq_true rfl) (m_val hX hB hcc (by omega)) ?_
          rintro _ _ ⟨rfl, rfl⟩
          refine R_top (y := vht2) (by rw [eht2]; rfl) ?_
          refine R_aload_n dX8_rise_58 rfl ?_
          refine R_iload_n dX8_rise_59 rfl ?_
          refine R_iload dX8_rise_60 rfl ?_
          refine R_callV (mc := mX8_valueOf) (As := [_, _]) (r := 0) dX8_rise_62 lm_RX8_164 mv_X8_valueOf rfl (by decide) rfl rfl rfl rfl (Nat.le_of_ble_eq_true rfl) (m_val hX hB hcc (by omega)) ?_
          rintro _ _ ⟨rfl, rfl⟩
          refine R_top (y := vhy2) (by rw [ehy2]; rfl) ?_
          refine R_icmp_le (tgt := 72) dX8_rise_65 (by decide) (fun h_65 => ?_) (fun h_65 => ?_)
          · refine R_aload_n dX8_rise_72 rfl ?_
            refine R_iload_n dX8_rise_73 rfl ?_
            refine R_iload_n dX8_rise_74 rfl ?_
            refine R_callV (mc := mX8_valueOf) (As := [_, _]) (r := 0) dX8_rise_75 lm_RX8_164 mv_X8_valueOf rfl (by decide) rfl rfl rfl rfl (Nat.le_of_ble_eq_true rfl) (m_val hX hB hcc (by omega)) ?_
            rintro _ _ ⟨rfl, rfl⟩
            refine R_top (y := vht2) (by rw [eht2]; rfl) ?_
            refine R_aload_n dX8_rise_78 rfl ?_
            refine R_iload_n dX8_rise_79 rfl ?_
            refine R_iload dX8_rise_80 rfl ?_
            refine R_callV (mc := mX8_valueOf) (As := [_, _]) (r := 0) dX8_rise_82 lm_RX8_164 mv_X8_valueOf rfl (by decide) rfl rfl rfl rfl (Nat.le_of_ble_eq_true rfl) (m_val hX hB hcc (by omega)) ?_
            rintro _ _ ⟨rfl, rfl⟩
            refine R_top (y := vhy2) (by rw [ehy2]; rfl) ?_
            refine R_icmp_ge (tgt := 92) dX8_rise_85 (by decide) (fun h_85 => ?_) (fun h_85 => ?_)
            · refine R_iconst (v := nI 0) dX8_rise_92 rfl ?_
              refine R_iadd dX8_rise_93 ?_
              refine R_istore_n (L' := [(0, .ref 0), (1, .int (nI cc)), (2, .int _), (3, .int (nI t)), (4, .int (nI y))]) dX8_rise_94 (by decide) (qs1 rfl (qs1 rfl (qs1 rfl (qs1 rfl (qs1 rfl qs0))))) ?_
              refine R_iincN (n := 1) (L' := [(0, .ref 0), (1, .int (nI cc)), (2, .int _), (3, .int (nI t)), (4, .int (nI (y + 1)))]) dX8_rise_95 rfl (by decide) (qs1 rfl (qs1 rfl (qs1 rfl (qs1 rfl (qs1 rfl qs0))))) ?_
              refine R_goto (tgt := 26) dX8_rise_98 (by decide) ?_
              refine R_ls (L' := [(0, .ref 0), (1, .int (nI cc)), (2, .int _), (3, .int (nI t)), (4, .int (nI (y + 1)))]) (qs1 rfl (qs1 rfl (qs1 rfl (qs1 rfl (qs1 rfl qs0))))) ?_
              exact (by have h := ih (y + 1) (by omega) (by omega); rw [← rise_s (x := 0) ehy2 eht2 (by rw [dir_eq (by first | exact h_65 | exact Int32.not_lt.mpr h_65 | exact h_85 | exact Int32.not_lt.mpr h_85) (by first | exact h_85 | exact Int32.not_lt.mpr h_85)])] at h; exact h)
            · refine R_iconst (v := -1) dX8_rise_88 rfl ?_
              refine R_goto (tgt := 93) dX8_rise_89 (by decide) ?_
              refine R_iadd dX8_rise_93 ?_
              refine R_istore_n (L' := [(0, .ref 0), (1, .int (nI cc)), (2, .int _), (3, .int (nI t)), (4, .int (nI y))]) dX8_rise_94 (by decide) (qs1 rfl (qs1 rfl (qs1 rfl (qs1 rfl (qs1 rfl qs0))))) ?_
              refine R_iincN (n := 1) (L' := [(0, .ref 0), (1, .int (nI cc)), (2, .int _), (3, .int (nI t)), (4, .int (nI (y + 1)))]) dX8_rise_95 rfl (by decide) (qs1 rfl (qs1 rfl (qs1 rfl (qs1 rfl (qs1 rfl qs0))))) ?_
              refine R_goto (tgt := 26) dX8_rise_98 (by decide) ?_
              refine R_ls (L' := [(0, .ref 0), (1, .int (nI cc)), (2, .int _), (3, .int (nI t)), (4, .int (nI (y + 1)))]) (qs1 rfl (qs1 rfl (qs1 rfl (qs1 rfl (qs1 rfl qs0))))) ?_
              exact (by have h := ih (y + 1) (by omega) (by omega); rw [← rise_s (x := -1) ehy2 eht2 (by rw [dir_lt (by first | exact h_85 | exact Int32.not_le.mp h_85)])] at h; exact h)
          · refine R_iconst (v := nI 1) dX8_rise_68 rfl ?_
            refine R_goto (tgt := 93) dX8_rise_69 (by decide) ?_
            refine R_iadd dX8_rise_93 ?_
            refine R_istore_n (L' := [(0, .ref 0), (1, .int (nI cc)), (2, .int _), (3, .int (nI t)), (4, .int (nI y))]) dX8_rise_94 (by decide) (qs1 rfl (qs1 rfl (qs1 rfl (qs1 rfl (qs1 rfl qs0))))) ?_
            refine R_iincN (n := 1) (L' := [(0, .ref 0), (1, .int (nI cc)), (2, .int _), (3, .int (nI t)), (4, .int (nI (y + 1)))]) dX8_rise_95 rfl (by decide) (qs1 rfl (qs1 rfl (qs1 rfl (qs1 rfl (qs1 rfl qs0))))) ?_
            refine R_goto (tgt := 26) dX8_rise_98 (by decide) ?_
            refine R_ls (L' := [(0, .ref 0), (1, .int (nI cc)), (2, .int _), (3, .int (nI t)), (4, .int (nI (y + 1)))]) (qs1 rfl (qs1 rfl (qs1 rfl (qs1 rfl (qs1 rfl qs0))))) ?_
            exact (by have h := ih (y + 1) (by omega) (by omega); rw [← rise_s (x := 1) ehy2 eht2 (by rw [dir_gt (by first | exact h_65 | exact Int32.not_le.mp h_65)])] at h; exact h)
        · have ehy2 : dV d cc y = none := Option.not_isSome_iff_eq_none.mp hy2
          refine R_if_eqN (tgt := 95) dX8_rise_48 (by decide) (by omega) (fun h_48 => ?_) (fun h_48 => by exact absurd h_48 (by decide))
          refine R_iincN (n := 1) (L' := [(0, .ref 0), (1, .int (nI cc)), (2, .int (rsTo d cc t + rsIn d cc t y + nI 100000)), (3, .int (nI t)), (4, .int (nI (y + 1)))]) dX8_rise_95 rfl (by decide) (qs1 rfl (qs1 rfl (qs1 rfl (qs1 rfl (qs1 rfl qs0))))) ?_
          refine R_goto (tgt := 26) dX8_rise_98 (by decide) ?_
          refine R_ls (L' := [(0, .ref 0), (1, .int (nI cc)), (2, .int (rsTo d cc t + rsIn d cc t y + nI 100000)), (3, .int (nI t)), (4, .int (nI (y + 1)))]) (qs1 rfl (qs1 rfl (qs1 rfl (qs1 rfl (qs1 rfl qs0))))) ?_
          exact (by have h := ih (y + 1) (by omega) (by omega); rw [rsIn_1 ehy2] at h; exact h)
      · have eht2 : dV d cc t = none := Option.not_isSome_iff_eq_none.mp ht2
        refine R_if_eqN (tgt := 95) dX8_rise_38 (by decide) (by omega) (fun h_38 => ?_) (fun h_38 => by exact absurd h_38 (by decide))
        refine R_iincN (n := 1) (L' := [(0, .ref 0), (1, .int (nI cc)), (2, .int (rsTo d cc t + rsIn d cc t y + nI 100000)), (3, .int (nI t)), (4, .int (nI (y + 1)))]) dX8_rise_95 rfl (by decide) (qs1 rfl (qs1 rfl (qs1 rfl (qs1 rfl (qs1 rfl qs0))))) ?_
        refine R_goto (tgt := 26) dX8_rise_98 (by decide) ?_
        refine R_ls (L' := [(0, .ref 0), (1, .int (nI cc)), (2, .int (rsTo d cc t + rsIn d cc t y + nI 100000)), (3, .int (nI t)), (4, .int (nI (y + 1)))]) (qs1 rfl (qs1 rfl (qs1 rfl (qs1 rfl (qs1 rfl qs0))))) ?_
        exact (by have h := ih (y + 1) (by omega) (by omega); rw [rsIn_2 eht2] at h; exact h)
set_option maxRecDepth 100000 in
set_option maxHeartbeats 4000000 in
theorem m_rise2 {w : qWT} {M : qMem} {d : dT} (hX : MR M d) (hB : dB d) (hK2 : 2 ≤ dK d) (hY4 : 4 ≤ dY d) {cc : Nat} (hcc : cc < dK d) : ∀ (fu : Nat) (t : Nat), (dY d + 1 - t) < fu → (t ≤ dY d) → qRW 1 w mX8_rise 15 [(0, .ref 0), (1, .int (nI cc)), (2, .int (rsTo d cc t + nI 100000)), (3, .int (nI t))] [] M (qr (rsTo d cc (dY d) + nI 100000) M) := by
  intro fu
  induction fu with
  | zero => intro t hn; exact absurd hn (Nat.not_lt_zero _)
  | succ fu ih =>
    intro t hn ht
    have hK6 := hB.2.1
    have hY16 := hB.1
    refine R_iload_n dX8_rise_15 rfl ?_
    refine R_aload_n dX8_rise_16 rfl ?_
    refine R_getI dX8_rise_17 (lf_RX8_151).get (by decide) rfl rfl ?_
    refine R_top (y := nI (dY d)) hX.1.2.1 ?_
    refine R_icmp_geN (tgt := 107) dX8_rise_20 (by decide) (by omega) (by omega) (fun h_20 => ?_) (fun h_20 => ?_)
    · refine R_iload_n dX8_rise_107 rfl ?_
      refine R_ireturn dX8_rise_108 rfl rfl ?_
      have e : t = dY d := by omega
      subst e
      exact ⟨rfl, rfl⟩
    · refine R_iconst (v := nI 0) dX8_rise_23 rfl ?_
      refine R_istore (L' := [(0, .ref 0), (1, .int (nI cc)), (2, .int (rsTo d cc t + nI 100000)), (3, .int (nI t)), (4, .int (nI 0))]) dX8_rise_24 (by decide) (qs1 rfl (qs1 rfl (qs1 rfl (qs1 rfl (qs1 rfl qs0))))) ?_
      refine R_ls (L' := [(0, .ref 0), (1, .int (nI cc)), (2, .int (rsTo d cc t + rsIn d cc t 0 + nI 100000)), (3, .int (nI t)), (4, .int (nI 0))]) (qs1 rfl (qs1 rfl (qs1 (by show some (Value.int (rsTo d cc t + nI 100000)) = some (Value.int (rsTo d cc t + 0 + nI 100000)); rw [Int32.add_zero]) (qs1 rfl (qs1 rfl qs0))))) ?_
      exact (m_rise1 (w := w) hX hB hK2 hY4 hcc (by omega) (by have h := ih (t + 1) (by omega) (by omega); refine R_iincN (n := 1) (L' := [(0, .ref 0), (1, .int (nI cc)), (2, .int (rsTo d cc (t + 1) + nI 100000)), (3, .int (nI (t + 1)))]) dX8_rise_101 rfl (by decide) (qs1 rfl (qs1 rfl (qs1 rfl (qs1 rfl qs0)))) ?_; refine R_goto (tgt := 15) dX8_rise_104 (by decide) ?_; exact h) (t + 2) 0 (by omega) (by omega))
set_option maxRecDepth 100000 in
set_option maxHeartbeats 4000000 in
theorem n_rise {M : qMem} {d : dT} (hX : MR M d) (hB : dB d) (hK2 : 2 ≤ dK d) (hY4 : 4 ≤ dY d) {c : Int32} : qSem 1 mX8_rise [.ref 0, .int (c)] M (qr (aRise d c) M) := by
  have hK6 := hB.2.1
  have hY16 := hB.1
  refine qSem.of (by decide +kernel) (Nat.le_of_ble_eq_true rfl) (fun w => ?_)
  refine R_ls (L' := [(0, .ref 0), (1, .int (c))]) (qs1 rfl (qs1 rfl qs0)) ?_
  refine R_aload_n dX8_rise_0 rfl ?_
  refine R_iload_n dX8_rise_1 rfl ?_
  refine R_callV (mc := mX8_isStation) (As := [_]) (r := 0) dX8_rise_2 lm_RX8_161 mv_X8_isStation rfl (by decide) rfl rfl rfl rfl (Nat.le_of_ble_eq_true rfl) (m_isSta hX (by omega) (by omega)) ?_
  rintro _ _ ⟨rfl, ⟨rfl, hkc⟩ | ⟨rfl, hkc⟩⟩
  · have hkc2 : inN c (dK d) := hkc
    obtain ⟨cc, hcc, rfl⟩ := inN_o (by omega) hkc2
    refine R_if_neN (tgt := 10) dX8_rise_5 (by decide) (by omega) (fun h_5 => ?_) (fun h_5 => by exact absurd h_5 (by decide))
    refine R_ldc (v := nI 100000) dX8_rise_10 lc_RX8_167 ?_
    refine R_istore_n (L' := [(0, .ref 0), (1, .int (nI cc)), (2, .int (nI 100000))]) dX8_rise_12 (by decide) (qs1 rfl (qs1 rfl (qs1 rfl qs0))) ?_
    refine R_iconst (v := nI 0) dX8_rise_13 rfl ?_
    refine R_istore_n (L' := [(0, .ref 0), (1, .int (nI cc)), (2, .int (nI 100000)), (3, .int (nI 0))]) dX8_rise_14 (by decide) (qs1 rfl (qs1 rfl (qs1 rfl (qs1 rfl qs0)))) ?_
    rw [show aRise d (nI cc) = rsTo d cc (dY d) + nI 100000 from by unfold aRise; rw [if_pos hkc2, kn_n (by omega)]]
    refine R_ls (L' := [(0, .ref 0), (1, .int (nI cc)), (2, .int (rsTo d cc 0 + nI 100000)), (3, .int (nI 0))]) (qs1 rfl (qs1 rfl (qs1 (by show some (Value.int (nI 100000)) = some (Value.int (0 + nI 100000)); rw [Int32.zero_add]) (qs1 rfl qs0)))) ?_
    exact m_rise2 hX hB hK2 hY4 hcc (dY d + 2) 0 (by omega) (by omega)
  · refine R_if_neN (tgt := 10) dX8_rise_5 (by decide) (by omega) (fun h_5 => by exact absurd h_5 (by decide)) (fun h_5 => ?_)
    refine R_iconst (v := -1) dX8_rise_8 rfl ?_
    refine R_ireturn dX8_rise_9 rfl rfl ?_
    exact ⟨by unfold aRise; rw [if_neg hkc], rfl⟩
set_option maxRecDepth 100000 in
set_option maxHeartbeats 4000000 in
theorem m_ms1 {w : qWT} {M : qMem} {d : dT} (hX : MR M d) (hB : dB d) (hK2 : 2 ≤ dK d) (hY4 : 4 ≤ dY d) {c : Nat} (hc : c < dK d) (hk : qRW 1 w mX8_missing 45 [(0, .ref 0), (1, .int (nI (msTo d c + msIn d c (dY d)))), (2, .int (nI c))] [] M (qr (nI (msTo d (dK d))) M)) : ∀ (fu : Nat) (t : Nat), (dY d + 1 - t) < fu → (t ≤ dY d) → qRW 1 w mX8_missing 14 [(0, .ref 0), (1, .int (nI (msTo d c + msIn d c t))), (2, .int (nI c)), (3, .int (nI t))] [] M (qr (nI (msTo d (dK d))) M) := by
  intro fu
  induction fu with
  | zero => intro t hn; exact absurd hn (Nat.not_lt_zero _)
  | succ fu ih =>
    intro t hn ht
    have hK6 := hB.2.1
    have hY16 := hB.1
    refine R_iload_n dX8_missing_14 rfl ?_
    refine R_aload_n dX8_missing_15 rfl ?_
    refine R_getI dX8_missing_16 (lf_RX8_151).get (by decide) rfl rfl ?_
    refine R_top (y := nI (dY d)) hX.1.2.1 ?_
    refine R_icmp_geN (tgt := 45) dX8_missing_19 (by decide) (by omega) (by omega) (fun h_19 => ?_) (fun h_19 => ?_)
    · have e : t = dY d := by omega
      subst e
      refine R_ls (L' := [(0, .ref 0), (1, .int (nI (msTo d c + msIn d c (dY d)))), (2, .int (nI c))]) (qs1 rfl (qs1 rfl (qs1 rfl qs0))) ?_
      exact hk
    · refine R_iload_n dX8_missing_22 rfl ?_
      refine R_aload_n dX8_missing_23 rfl ?_
      refine R_iload_n dX8_missing_24 rfl ?_
      refine R_iload_n dX8_missing_25 rfl ?_
      refine R_callV (mc := mX8_isThere) (As := [_, _]) (r := 0) dX8_missing_26 lm_RX8_184 mv_X8_isThere rfl (by decide) rfl rfl rfl rfl (Nat.le_of_ble_eq_true rfl) (m_isT hX hB hc (by omega)) ?_
      rintro _ _ ⟨rfl, ⟨rfl, hp⟩ | ⟨rfl, hp⟩⟩
      · refine R_if_eqN (tgt := 36) dX8_missing_29 (by decide) (by omega) (fun h_29 => by exact absurd h_29 (by decide)) (fun h_29 => ?_)
        refine R_iconst (v := nI 0) dX8_missing_32 rfl ?_
        refine R_goto (tgt := 37) dX8_missing_33 (by decide) ?_
        refine R_iaddN dX8_missing_37 ?_
        refine R_istore_n (L' := [(0, .ref 0), (1, .int (nI ((msTo d c + msIn d c t) + 0))), (2, .int (nI c)), (3, .int (nI t))]) dX8_missing_38 (by decide) (qs1 rfl (qs1 rfl (qs1 rfl (qs1 rfl qs0)))) ?_
        refine R_iincN (n := 1) (L' := [(0, .ref 0), (1, .int (nI ((msTo d c + msIn d c t) + 0))), (2, .int (nI c)), (3, .int (nI (t + 1)))]) dX8_missing_39 rfl (by decide) (qs1 rfl (qs1 rfl (qs1 rfl (qs1 rfl qs0)))) ?_
        refine R_goto (tgt := 14) dX8_missing_42 (by decide) ?_
        refine R_ls (L' := [(0, .ref 0), (1, .int (nI ((msTo d c + msIn d c t) + 0))), (2, .int (nI c)), (3, .int (nI (t + 1)))]) (qs1 rfl (qs1 rfl (qs1 rfl (qs1 rfl qs0)))) ?_
        exact (by have h := ih (t + 1) (by omega) (by omega); rw [show msIn d c (t + 1) = msIn d c t + (if (dV d c t).isSome then 0 else 1) from rfl, if_pos hp, ← Nat.add_assoc] at h; exact h)
      · refine R_if_eqN (tgt := 36) dX8_missing_29 (by decide) (by omega) (fun h_29 => ?_) (fun h_29 => by exact absurd h_29 (by decide))
        refine R_iconst (v := nI 1) dX8_missing_36 rfl ?_
        refine R_iaddN dX8_missing_37 ?_
        refine R_istore_n (L' := [(0, .ref 0), (1, .int (nI ((msTo d c + msIn d c t) + 1))), (2, .int (nI c)), (3, .int (nI t))]) dX8_missing_38 (by decide) (qs1 rfl (qs1 rfl (qs1 rfl (qs1 rfl qs0)))) ?_
        refine R_iincN (n := 1) (L' := [(0, .ref 0), (1, .int (nI ((msTo d c + msIn d c t) + 1))), (2, .int (nI c)), (3, .int (nI (t + 1)))]) dX8_missing_39 rfl (by decide) (qs1 rfl (qs1 rfl (qs1 rfl (qs1 rfl qs0)))) ?_
        refine R_goto (tgt := 14) dX8_missing_42 (by decide) ?_
        refine R_ls (L' := [(0, .ref 0), (1, .int (nI ((msTo d c + msIn d c t) + 1))), (2, .int (nI c)), (3, .int (nI (t + 1)))]) (qs1 rfl (qs1 rfl (qs1 rfl (qs1 rfl qs0)))) ?_
        exact (by have h := ih (t + 1) (by omega) (by omega); rw [show msIn d c (t + 1) = msIn d c t + (if (dV d c t).isSome then 0 else 1) from rfl, if_neg hp, ← Nat.add_assoc] at h; exact h)
set_option maxRecDepth 100000 in
set_option maxHeartbeats 4000000 in
theorem m_ms2 {w : qWT} {M : qMem} {d : dT} (hX : MR M d) (hB : dB d) (hK2 : 2 ≤ dK d) (hY4 : 4 ≤ dY d) : ∀ (fu : Nat) (c : Nat), (dK d + 1 - c) < fu → (c ≤ dK d) → qRW 1 w mX8_missing 4 [(0, .ref 0), (1, .int (nI (msTo d c))), (2, .int (nI c))] [] M (qr (nI (msTo d (dK d))) M) := by
  intro fu
  induction fu with
  | zero => intro c hn; exact absurd hn (Nat.not_lt_zero _)
  | succ fu ih =>
    intro c hn hc
    have hK6 := hB.2.1
    have hY16 := hB.1
    refine R_iload_n dX8_missing_4 rfl ?_
    refine R_aload_n dX8_missing_5 rfl ?_
    refine R_getI dX8_missing_6 (lf_RX8_148).get (by decide) rfl rfl ?_
    refine R_top (y := nI (dK d)) hX.1.1 ?_
    refine R_icmp_geN (tgt := 51) dX8_missing_9 (by decide) (by omega) (by omega) (fun h_9 => ?_) (fun h_9 => ?_)
    · refine R_iload_n dX8_missing_51 rfl ?_
      refine R_ireturn dX8_missing_52 rfl rfl ?_
      have e : c = dK d := by omega
      subst e
      exact ⟨rfl, rfl⟩
    · refine R_iconst (v := nI 0) dX8_missing_12 rfl ?_
      refine R_istore_n (L' := [(0, .ref 0), (1, .int (nI (msTo d c))), (2, .int (nI c)), (3, .int (nI 0))]) dX8_missing_13 (by decide) (qs1 rfl (qs1 rfl (qs1 rfl (qs1 rfl qs0)))) ?_
      refine R_ls (L' := [(0, .ref 0), (1, .int (nI (msTo d c))), (2, .int (nI c)), (3, .int (nI 0))]) (qs1 rfl (qs1 rfl (qs1 rfl (qs1 rfl qs0)))) ?_
      exact (m_ms1 (w := w) hX hB hK2 hY4 (c := c) (by omega) (by have h := ih (c + 1) (by omega) (by omega); refine R_iincN (n := 1) (L' := [(0, .ref 0), (1, .int (nI (msTo d (c + 1)))), (2, .int (nI (c + 1)))]) dX8_missing_45 rfl (by decide) (qs1 rfl (qs1 rfl (qs1 rfl qs0))) ?_; refine R_goto (tgt := 4) dX8_missing_48 (by decide) ?_; exact h) (dY d + 2) 0 (by omega) (by omega))
set_option maxRecDepth 100000 in
set_option maxHeartbeats 4000000 in
theorem m_missing {M : qMem} {d : dT} (hX : MR M d) (hB : dB d) (hK2 : 2 ≤ dK d) (hY4 : 4 ≤ dY d) : qSem 1 mX8_missing [.ref 0] M (qr (nI (msTo d (dK d))) M) := by
  refine qSem.of (by decide +kernel) (Nat.le_of_ble_eq_true rfl) (fun w => ?_)
  refine R_ls (L' := [(0, .ref 0)]) (qs1 rfl qs0) ?_
  refine R_iconst (v := nI 0) dX8_missing_0 rfl ?_
  refine R_istore_n (L' := [(0, .ref 0), (1, .int (nI 0))]) dX8_missing_1 (by decide) (qs1 rfl (qs1 rfl qs0)) ?_
  refine R_iconst (v := nI 0) dX8_missing_2 rfl ?_
  refine R_istore_n (L' := [(0, .ref 0), (1, .int (nI 0)), (2, .int (nI 0))]) dX8_missing_3 (by decide) (qs1 rfl (qs1 rfl (qs1 rfl qs0))) ?_
  refine R_ls (L' := [(0, .ref 0), (1, .int (nI 0)), (2, .int (nI 0))]) (qs1 rfl (qs1 rfl (qs1 rfl qs0))) ?_
  exact (m_ms2 hX hB hK2 hY4 (dK d + 2) 0 (by omega) (by omega))

/-- pairs (b, a) with a before b -/
def pvIn (d : dT) (b : Nat) : Nat → Nat
  | 0 => 0
  | a + 1 => pvIn d b a + (if prb d b a then 1 else 0)
def pvTo (d : dT) : Nat → Nat
  | 0 => 0
  | b + 1 => pvTo d b + pvIn d b b
def cpS (d : dT) (m : Nat) : Nat → Nat
  | 0 => 0
  | u + 1 => cpS d m u + cpIn d u m
theorem cpIn_z (d : dT) {u : Nat} : ∀ {m : Nat}, m ≤ u + 1 → cpIn d u m = 0
  | 0, _ => rfl
  | m + 1, h => by
    show cpIn d u m + (if decide (u < m) && prb d u m then 1 else 0) = 0
    rw [cpIn_z d (by omega), if_neg (by simp; omega)]
theorem cpS_1 (d : dT) (m : Nat) : ∀ n, n ≤ m → cpS d (m + 1) n = cpS d m n + pvIn d m n
  | 0, _ => rfl
  | n + 1, h => by
    show cpS d (m + 1) n + (cpIn d n m + (if decide (n < m) && prb d n m then 1 else 0)) = cpS d m n + cpIn d n m + (pvIn d m n + (if prb d m n then 1 else 0))
    rw [cpS_1 d m n (by omega), prb_comm d m n, decide_eq_true (show n < m by omega), Bool.true_and]; omega
theorem cp_pv (d : dT) : ∀ m, cpS d m m = pvTo d m
  | 0 => rfl
  | m + 1 => by
    show cpS d (m + 1) m + cpIn d m (m + 1) = pvTo d m + pvIn d m m
    rw [cpIn_z d (Nat.le_refl _), cpS_1 d m m (Nat.le_refl _), cp_pv d m]; omega
theorem cpTo_S (d : dT) : ∀ n, cpTo d n = cpS d (dK d) n
  | 0 => rfl
  | n + 1 => by show cpTo d n + cpIn d n (dK d) = cpS d (dK d) n + cpIn d n (dK d); rw [cpTo_S d n]
theorem cp_all (d : dT) : cpTo d (dK d) = pvTo d (dK d) := by rw [cpTo_S, cp_pv]
set_option maxRecDepth 100000 in
set_option maxHeartbeats 4000000 in
theorem m_pr1 {w : qWT} {M : qMem} {d : dT} (hX : MR M d) (hB : dB d) (hK2 : 2 ≤ dK d) (hY4 : 4 ≤ dY d) {b : Nat} (hb : b < dK d) (hk : qRW 1 w mX8_pairs 42 [(0, .ref 0), (1, .int (nI (pvTo d (b + 1)))), (2, .int (nI b))] [] M (qr (nI (pvTo d (dK d))) M)) : ∀ (fu : Nat) (a : Nat), (b + 1 - a) < fu → (a ≤ b) → qRW 1 w mX8_pairs 14 [(0, .ref 0), (1, .int (nI (pvTo d b + pvIn d b a))), (2, .int (nI b)), (3, .int (nI a))] [] M (qr (nI (pvTo d (dK d))) M) := by
  intro fu
  induction fu with
  | zero => intro a hn; exact absurd hn (Nat.not_lt_zero _)
  | succ fu ih =>
    intro a hn ha
    have hK6 := hB.2.1
    have hY16 := hB.1
    refine R_iload_n dX8_pairs_14 rfl ?_
    refine R_iload_n dX8_pairs_15 rfl ?_
    refine R_icmp_geN (tgt := 42) dX8_pairs_16 (by decide) (by omega) (by omega) (fun h_16 => ?_) (fun h_16 => ?_)
    · have e : a = b := by omega
      subst e
      refine R_ls (L' := [(0, .ref 0), (1, .int (nI (pvTo d (a + 1)))), (2, .int (nI a))]) (qs1 rfl (qs1 rfl (qs1 rfl qs0))) ?_
      exact hk
    · refine R_iload_n dX8_pairs_19 rfl ?_
      refine R_aload_n dX8_pairs_20 rfl ?_
      refine R_iload_n dX8_pairs_21 rfl ?_
      refine R_iload_n dX8_pairs_22 rfl ?_
      refine R_callV (mc := mX8_isPair) (As := [_, _]) (r := 0) dX8_pairs_23 lm_RX8_213 mv_X8_isPair rfl (by decide) rfl rfl rfl rfl (Nat.le_of_ble_eq_true rfl) (m_pair hX hB (by omega) (by omega)) ?_
      rintro _ _ ⟨rfl, ⟨rfl, hp⟩ | ⟨rfl, hp⟩⟩
      · refine R_if_eqN (tgt := 33) dX8_pairs_26 (by decide) (by omega) (fun h_26 => by exact absurd h_26 (by decide)) (fun h_26 => ?_)
        refine R_iconst (v := nI 1) dX8_pairs_29 rfl ?_
        refine R_goto (tgt := 34) dX8_pairs_30 (by decide) ?_
        refine R_iaddN dX8_pairs_34 ?_
        refine R_istore_n (L' := [(0, .ref 0), (1, .int (nI ((pvTo d b + pvIn d b a) + 1))), (2, .int (nI b)), (3, .int (nI a))]) dX8_pairs_35 (by decide) (qs1 rfl (qs1 rfl (qs1 rfl (qs1 rfl qs0)))) ?_
        refine R_iincN (n := 1) (L' := [(0, .ref 0), (1, .int (nI ((pvTo d b + pvIn d b a) + 1))), (2, .int (nI b)), (3, .int (nI (a + 1)))]) dX8_pairs_36 rfl (by decide) (qs1 rfl (qs1 rfl (qs1 rfl (qs1 rfl qs0)))) ?_
        refine R_goto (tgt := 14) dX8_pairs_39 (by decide) ?_
        refine R_ls (L' := [(0, .ref 0), (1, .int (nI ((pvTo d b + pvIn d b a) + 1))), (2, .int (nI b)), (3, .int (nI (a + 1)))]) (qs1 rfl (qs1 rfl (qs1 rfl (qs1 rfl qs0)))) ?_
        exact (by have h := ih (a + 1) (by omega) (by omega); rw [show pvIn d b (a + 1) = pvIn d b a + (if prb d b a then 1 else 0) from rfl, if_pos hp, ← Nat.add_assoc] at h; exact h)
      · refine R_if_eqN (tgt := 33) dX8_pairs_26 (by decide) (by omega) (fun h_26 => ?_) (fun h_26 => by exact absurd h_26 (by decide))
        refine R_iconst (v := nI 0) dX8_pairs_33 rfl ?_
        refine R_iaddN dX8_pairs_34 ?_
        refine R_istore_n (L' := [(0, .ref 0), (1, .int (nI ((pvTo d b + pvIn d b a) + 0))), (2, .int (nI b)), (3, .int (nI a))]) dX8_pairs_35 (by decide) (qs1 rfl (qs1 rfl (qs1 rfl (qs1 rfl qs0)))) ?_
        refine R_iincN (n := 1) (L' := [(0, .ref 0), (1, .int (nI ((pvTo d b + pvIn d b a) + 0))), (2, .int (nI b)), (3, .int (nI (a + 1)))]) dX8_pairs_36 rfl (by decide) (qs1 rfl (qs1 rfl (qs1 rfl (qs1 rfl qs0)))) ?_
        refine R_goto (tgt := 14) dX8_pairs_39 (by decide) ?_
        refine R_ls (L' := [(0, .ref 0), (1, .int (nI ((pvTo d b + pvIn d b a) + 0))), (2, .int (nI b)), (3, .int (nI (a + 1)))]) (qs1 rfl (qs1 rfl (qs1 rfl (qs1 rfl qs0)))) ?_
        exact (by have h := ih (a + 1) (by omega) (by omega); rw [show pvIn d b (a + 1) = pvIn d b a + (if prb d b a then 1 else 0) from rfl, if_neg hp, ← Nat.add_assoc] at h; exact h)
set_option maxRecDepth 100000 in
set_option maxHeartbeats 4000000 in
theorem m_pr2 {w : qWT} {M : qMem} {d : dT} (hX : MR M d) (hB : dB d) (hK2 : 2 ≤ dK d) (hY4 : 4 ≤ dY d) : ∀ (fu : Nat) (b : Nat), (dK d + 1 - b) < fu → (b ≤ dK d) → qRW 1 w mX8_pairs 4 [(0, .ref 0), (1, .int (nI (pvTo d b))), (2, .int (nI b))] [] M (qr (nI (pvTo d (dK d))) M) := by
  intro fu
  induction fu with
  | zero => intro b hn; exact absurd hn (Nat.not_lt_zero _)
  | succ fu ih =>
    intro b hn hb
    have hK6 := hB.2.1
    have hY16 := hB.1
    refine R_iload_n dX8_pairs_4 rfl ?_
    refine R_aload_n dX8_pairs_5 rfl ?_
    refine R_getI dX8_pairs_6 (lf_RX8_148).get (by decide) rfl rfl ?_
    refine R_top (y := nI (dK d)) hX.1.1 ?_
    refine R_icmp_geN (tgt := 48) dX8_pairs_9 (by decide) (by omega) (by omega) (fun h_9 => ?_) (fun h_9 => ?_)
    · refine R_iload_n dX8_pairs_48 rfl ?_
      refine R_ireturn dX8_pairs_49 rfl rfl ?_
      have e : b = dK d := by omega
      subst e
      exact ⟨rfl, rfl⟩
    · refine R_iconst (v := nI 0) dX8_pairs_12 rfl ?_
      refine R_istore_n (L' := [(0, .ref 0), (1, .int (nI (pvTo d b))), (2, .int (nI b)), (3, .int (nI 0))]) dX8_pairs_13 (by decide) (qs1 rfl (qs1 rfl (qs1 rfl (qs1 rfl qs0)))) ?_
      refine R_ls (L' := [(0, .ref 0), (1, .int (nI (pvTo d b))), (2, .int (nI b)), (3, .int (nI 0))]) (qs1 rfl (qs1 rfl (qs1 rfl (qs1 rfl qs0)))) ?_
      exact (m_pr1 (w := w) hX hB hK2 hY4 (b := b) (by omega) (by have h := ih (b + 1) (by omega) (by omega); refine R_iincN (n := 1) (L' := [(0, .ref 0), (1, .int (nI (pvTo d (b + 1)))), (2, .int (nI (b + 1)))]) dX8_pairs_42 rfl (by decide) (qs1 rfl (qs1 rfl (qs1 rfl qs0))) ?_; refine R_goto (tgt := 4) dX8_pairs_45 (by decide) ?_; exact h) (b + 2) 0 (by omega) (by omega))
set_option maxRecDepth 100000 in
set_option maxHeartbeats 4000000 in
theorem m_pairs {M : qMem} {d : dT} (hX : MR M d) (hB : dB d) (hK2 : 2 ≤ dK d) (hY4 : 4 ≤ dY d) : qSem 1 mX8_pairs [.ref 0] M (qr (nI (cpTo d (dK d))) M) := by
  rw [cp_all]
  refine qSem.of (by decide +kernel) (Nat.le_of_ble_eq_true rfl) (fun w => ?_)
  refine R_ls (L' := [(0, .ref 0)]) (qs1 rfl qs0) ?_
  refine R_iconst (v := nI 0) dX8_pairs_0 rfl ?_
  refine R_istore_n (L' := [(0, .ref 0), (1, .int (nI 0))]) dX8_pairs_1 (by decide) (qs1 rfl (qs1 rfl qs0)) ?_
  refine R_iconst (v := nI 0) dX8_pairs_2 rfl ?_
  refine R_istore_n (L' := [(0, .ref 0), (1, .int (nI 0)), (2, .int (nI 0))]) dX8_pairs_3 (by decide) (qs1 rfl (qs1 rfl (qs1 rfl qs0))) ?_
  refine R_ls (L' := [(0, .ref 0), (1, .int (nI 0)), (2, .int (nI 0))]) (qs1 rfl (qs1 rfl (qs1 rfl qs0))) ?_
  exact (m_pr2 hX hB hK2 hY4 (dK d + 2) 0 (by omega) (by omega))
