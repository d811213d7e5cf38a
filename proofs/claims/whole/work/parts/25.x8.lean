
-- ===== the object under test: the other questions =====
theorem q_tout {x : Int32} {n : Nat} (hn : n < 1000) (h : ∀ k, k ≤ n → ¬ x = nI k) : x.toInt < 0 ∨ (n : Int) < x.toInt := by
  rcases pk_ix x (show n + 1 < 2147483648 by omega) with q | q | ⟨j, h1, h2⟩
  · exact Or.inl (Int32.lt_iff_toInt_lt.mp q)
  · have := Int32.le_iff_toInt_le.mp q
    rw [nI_toInt (by omega)] at this
    exact Or.inr (by omega)
  · exact absurd h2 (h j (by omega))
theorem srch_none {p : Nat → Bool} : ∀ {c lo : Nat}, (∀ a, lo ≤ a → a < lo + c → p a = false) → srch p lo c = lo + c
  | 0, lo, _ => rfl
  | c + 1, lo, h => by
    unfold srch
    rw [h lo (Nat.le_refl _) (by omega), if_neg (by decide), srch_none (fun a h1 h2 => h a (by omega) (by omega))]; omega
theorem XI.mono {a b : Nat} {M : qMem} {s : sT} (h : XI a M s) (hab : a ≤ b) : XI b M s := by
  obtain ⟨h1, h2, h3, h4, h5, h6, h7, h8, ⟨⟨ver, v1, v2, v3⟩, h9⟩, h10⟩ := h
  exact ⟨h1, h2, h3, h4, h5, h6, h7, h8, ⟨⟨ver, v1, by omega, v3⟩, h9⟩, h10⟩
theorem XI.dr {vb : Nat} {M N : qMem} {s : sT} (h : XI vb M s) (hO : qOff oDr M N) : XI vb N s := by
  obtain ⟨h1, h2, h3, h4, h5, h6, h7, h8, h9, h10⟩ := h
  have e : ∀ o, ¬ (3 ≤ o ∧ o < 14) → N.1 o = M.1 o := fun o ho => (hO o ho).1
  have e2 : ∀ o, ¬ (3 ≤ o ∧ o < 14) → N.2 o = M.2 o := fun o ho => (hO o ho).2
  refine ⟨h1.off h2.2.1 (fun o a b => e o (by omega)), h2, h3, h4.off (fun o ho => e2 o (by omega)), h5.off (fun o a b => e o (by omega)), h6.off (fun o a b => e o (by omega)), h7.off (e 1 (by omega)) (e 2 (by omega)), h8, ⟨?_, fun hc => ?_⟩, h10⟩
  · rw [e 14 (by omega), e 36 (by omega)]; exact h9.1
  · rw [e 14 (by omega), e 36 (by omega)] at hc
    exact (h9.2 hc).off h2.2.1 (fun o a b => e o (by omega))
/-- a change of the record: the version goes up -/
theorem XI.chg {vb : Nat} {M N : qMem} {s s' : sT} (h : XI vb M s) (hvb : vb < 2000000000) (hR : XR 14 N (sD s')) (hB : dB (sD s')) (h42 : 4 ≤ dY (sD s') ∧ 2 ≤ dK (sD s')) (hv : N.1 14 7 = M.1 14 7 + nI 1) (h36 : N.1 36 1 = M.1 36 1) (hZ : XW N) (hH : XH N ((sA s').map aEnc)) (hL : XL N (sG s')) (hT : XT N (sX s')) (htB : txB (sX s')) (hV : HV (sD s', sG s') (sA s').reverse) : XI (vb + 1) N s' := by
  obtain ⟨⟨ver, v1, v2, v3⟩, -⟩ := h.2.2.2.2.2.2.2.2.1
  have e : N.1 14 7 = nI (ver + 1) := by rw [hv, v1, nI_add]
  have hne : ¬ N.1 36 1 = N.1 14 7 := by
    rw [h36, e]
    rcases v3 with q | ⟨cv, q1, q2⟩
    · rw [q]; intro z
      have := congrArg Int32.toInt z
      rw [nI_toInt (by omega)] at this
      have h1 : ((-1 : Int32)).toInt = -1 := rfl
      omega
    · rw [q2, nI_eq (by omega) (by omega)]; omega
  refine ⟨hR, hB, h42, hZ, hH, hL, hT, htB, ⟨⟨ver + 1, e, by omega, ?_⟩, fun z => absurd z hne⟩, hV⟩
  rw [h36]
  rcases v3 with q | ⟨cv, q1, q2⟩
  · exact Or.inl q
  · exact Or.inr ⟨cv, by omega, q2⟩
theorem has_ex {M : qMem} {d : dT} (hX : XR 14 M d) (hB : dB d) {c t : Nat} (hc : c < dK d) (ht : t < dY d) : (¬ M.1 (19 + c) t = 1000000 ↔ ∃ v, dV d c t = some v ∧ M.1 (19 + c) t = v) ∧ (M.1 (19 + c) t = 1000000 ↔ dV d c t = none) := by
  have e := hX.2.2.2.2.1 c t hc ht
  have e' : M.1 (19 + c) t = encX (dV d c t) := e
  rw [e']
  cases h : dV d c t with
  | none => exact ⟨⟨fun z => absurd rfl z, fun ⟨v, z, _⟩ => by cases z⟩, ⟨fun _ => rfl, fun _ => rfl⟩⟩
  | some v => exact ⟨⟨fun _ => ⟨v, rfl, rfl⟩, fun _ => okv_X (hB.2.2.1 c t v h)⟩, ⟨fun z => absurd z (okv_X (hB.2.2.1 c t v h)), fun z => by cases z⟩⟩
abbrev okI (v : Int32) : Prop := (-9999 : Int32) ≤ v ∧ v ≤ (9999 : Int32)
set_option maxRecDepth 100000 in
set_option maxHeartbeats 4000000 in
theorem l_near {w : qWT} {vb : Nat} {M : qMem} {s : sT} (hI : XI vb M s) {cc : Nat} {k : Int32} (hcc : cc < dK (sD s)) : ∀ (fu : Nat) (i : Nat), (dK (sD s) + 1 - i) < fu → (i ≤ dK (sD s)) → (∀ a, 0 ≤ a → a < i → (fun o => decide (o ≠ cc) && decide (nI (rnk (sD s) cc o) = k)) a = false) → qRW 0 w mX7_nearest 19 [(0, .ref 0), (1, .int (nI cc)), (2, .int (k)), (3, .int (nI i))] [] M (fun r N => r = some (.int (if nrF (sD s) cc k < dK (sD s) then nI (nrF (sD s) cc k) else -4)) ∧ XI vb N s) := by
  intro fu
  induction fu with
  | zero => intro i hn; exact absurd hn (Nat.not_lt_zero _)
  | succ fu ih =>
    intro i hn hi hn2
    have hX := hI.1
    have hB := hI.2.1
    have hK6 := hB.2.1
    have hY16 := hB.1
    have hZ := hI.2.2.2.1
    refine R_iload_n dX7_nearest_19 rfl ?_
    refine R_aload_n dX7_nearest_20 rfl ?_
    refine R_getR dX7_nearest_21 lg_RX7_19 (by decide) rfl rfl ?_
    refine R_callV (mc := mX3_stations) (As := []) (r := 14) dX7_nearest_24 lm_RX7_88 mv_X3_stations rfl (by decide) rfl rfl rfl rfl (Nat.le_of_ble_eq_true rfl) c_stations_14 ?_
    rintro _ _ ⟨rfl, rfl⟩
    refine R_top (y := nI (dK (sD s))) hX.2.1 ?_
    refine R_icmp_geN (tgt := 56) dX7_nearest_27 (by decide) (by omega) (by omega) (fun h_27 => ?_) (fun h_27 => ?_)
    · refine R_bipush (v := -4) dX7_nearest_56 rfl ?_
      refine R_ireturn dX7_nearest_58 rfl rfl ?_
      have e0 : i = dK (sD s) := by omega
      subst e0
      have e : nrF (sD s) cc k = 0 + dK (sD s) := srch_none (fun a h1 h2 => hn2 a h1 (by omega))
      exact ⟨by rw [e, if_neg (by omega)], hI⟩
    · refine R_iload_n dX7_nearest_30 rfl ?_
      refine R_iload_n dX7_nearest_31 rfl ?_
      refine R_icmp_eqN (tgt := 50) dX7_nearest_32 (by decide) (by omega) (by omega) (fun h_32 => ?_) (fun h_32 => ?_)
      · refine R_iincN (n := 1) (L' := [(0, .ref 0), (1, .int (nI cc)), (2, .int (k)), (3, .int (nI (i + 1)))]) dX7_nearest_50 rfl (by decide) (qs1 rfl (qs1 rfl (qs1 rfl (qs1 rfl qs0)))) ?_
        refine R_goto (tgt := 19) dX7_nearest_53 (by decide) ?_
        refine R_ls (L' := [(0, .ref 0), (1, .int (nI cc)), (2, .int (k)), (3, .int (nI (i + 1)))]) (qs1 rfl (qs1 rfl (qs1 rfl (qs1 rfl qs0)))) ?_
        exact (ih (i + 1) (by omega) (by omega) (fun a ha hb => by rcases Nat.lt_or_ge a i with q | q <;> first | exact hn2 a ha q | (have e : a = i := (by omega); subst e; simp; omega)))
      · refine R_aload_n dX7_nearest_35 rfl ?_
        refine R_getR dX7_nearest_36 lg_RX7_19 (by decide) rfl rfl ?_
        refine R_iload_n dX7_nearest_39 rfl ?_
        refine R_iload_n dX7_nearest_40 rfl ?_
        refine R_callV (mc := mX3_rank) (As := [_, _]) (r := 14) dX7_nearest_41 lm_RX7_183 mv_X3_rank rfl (by decide) rfl rfl rfl rfl (Nat.le_of_ble_eq_true rfl) (c_rank hX hB hcc (by omega)) ?_
        rintro _ _ ⟨rfl, rfl⟩
        refine R_iload_n dX7_nearest_44 rfl ?_
        refine R_icmp_ne (tgt := 50) dX7_nearest_45 (by decide) (fun h_45 => ?_) (fun h_45 => ?_)
        · refine R_iincN (n := 1) (L' := [(0, .ref 0), (1, .int (nI cc)), (2, .int (k)), (3, .int (nI (i + 1)))]) dX7_nearest_50 rfl (by decide) (qs1 rfl (qs1 rfl (qs1 rfl (qs1 rfl qs0)))) ?_
          refine R_goto (tgt := 19) dX7_nearest_53 (by decide) ?_
          refine R_ls (L' := [(0, .ref 0), (1, .int (nI cc)), (2, .int (k)), (3, .int (nI (i + 1)))]) (qs1 rfl (qs1 rfl (qs1 rfl (qs1 rfl qs0)))) ?_
          exact (ih (i + 1) (by omega) (by omega) (fun a ha hb => by rcases Nat.lt_or_ge a i with q | q <;> first | exact hn2 a ha q | (have e : a = i := (by omega); subst e; simp_all)))
        · refine R_iload_n dX7_nearest_48 rfl ?_
          refine R_ireturn dX7_nearest_49 rfl rfl ?_
          have e : nrF (sD s) cc k = i := srch_first (Nat.zero_le _) (by omega) (by simp; exact ⟨h_32, h_45⟩) hn2
          exact ⟨by rw [e, if_pos (by omega)], hI⟩
set_option maxRecDepth 100000 in
set_option maxHeartbeats 4000000 in
theorem o_nearest {vb : Nat} {M : qMem} {s : sT} (hI : XI vb M s) {c k : Int32} : qSem 0 mX7_nearest [.ref 0, .int (c), .int (k)] M (fun r N => r = some (.int (aNearest (sD s) c k)) ∧ XI vb N s) := by
  have hX := hI.1
  have hB := hI.2.1
  have hK6 := hB.2.1
  have hY16 := hB.1
  have hZ := hI.2.2.2.1
  refine qSem.of (by decide +kernel) (Nat.le_of_ble_eq_true rfl) (fun w => ?_)
  refine R_ls (L' := [(0, .ref 0), (1, .int (c)), (2, .int (k))]) (qs1 rfl (qs1 rfl (qs1 rfl qs0))) ?_
  refine R_aload_n dX7_nearest_0 rfl ?_
  refine R_getR dX7_nearest_1 lg_RX7_19 (by decide) rfl rfl ?_
  refine R_iload_n dX7_nearest_4 rfl ?_
  refine R_callV (mc := mX3_hasStation) (As := [_]) (r := 14) dX7_nearest_5 lm_RX7_180 mv_X3_hasStation rfl (by decide) rfl rfl rfl rfl (Nat.le_of_ble_eq_true rfl) c_hasStation ?_
  rintro _ _ ⟨rfl, ⟨rfl, hk⟩ | ⟨rfl, hk⟩⟩
  · rw [hX.2.1] at hk
    have hk2 : inN c (dK (sD s)) := hk
    obtain ⟨cc, hcc, rfl⟩ := inN_o (by omega) hk2
    refine R_if_eqN (tgt := 15) dX7_nearest_8 (by decide) (by omega) (fun h_8 => by exact absurd h_8 (by decide)) (fun h_8 => ?_)
    refine R_iload_n dX7_nearest_11 rfl ?_
    refine R_if_ge (tgt := 17) dX7_nearest_12 (by decide) (fun h_12 => ?_) (fun h_12 => ?_)
    · refine R_iconst (v := nI 0) dX7_nearest_17 rfl ?_
      refine R_istore_n (L' := [(0, .ref 0), (1, .int (nI cc)), (2, .int (k)), (3, .int (nI 0))]) dX7_nearest_18 (by decide) (qs1 rfl (qs1 rfl (qs1 rfl (qs1 rfl qs0)))) ?_
      rw [show aNearest (sD s) (nI cc) k = (if nrF (sD s) cc k < dK (sD s) then nI (nrF (sD s) cc k) else -4) from by unfold aNearest; rw [if_pos ⟨hk2, by first | exact h_12 | exact Int32.not_lt.mpr h_12⟩, kn_n (by omega)]]
      refine R_ls (L' := [(0, .ref 0), (1, .int (nI cc)), (2, .int (k)), (3, .int (nI 0))]) (qs1 rfl (qs1 rfl (qs1 rfl (qs1 rfl qs0)))) ?_
      exact (l_near hI hcc (dK (sD s) + 2) 0 (by omega) (Nat.zero_le _) (fun a _ h => absurd h (Nat.not_lt_zero a)))
    · refine R_iconst (v := -1) dX7_nearest_15 rfl ?_
      refine R_ireturn dX7_nearest_16 rfl rfl ?_
      exact ⟨by unfold aNearest; rw [if_neg (fun h => by first | exact hk2 h.1 | exact absurd h_12 h.2 | exact h.2 (Int32.not_le.mp h_12) | exact h.2 h_12 | exact h_12 (Int32.not_lt.mp h.2))], hI⟩
  · rw [hX.2.1] at hk
    have hk2 : ¬ inN c (dK (sD s)) := hk
    refine R_if_eqN (tgt := 15) dX7_nearest_8 (by decide) (by omega) (fun h_8 => ?_) (fun h_8 => by exact absurd h_8 (by decide))
    refine R_iconst (v := -1) dX7_nearest_15 rfl ?_
    refine R_ireturn dX7_nearest_16 rfl rfl ?_
    exact ⟨by unfold aNearest; rw [if_neg (fun h => by first | exact hk2 h.1 | exact absurd h_12 h.2 | exact h.2 (Int32.not_le.mp h_12) | exact h.2 h_12 | exact h_12 (Int32.not_lt.mp h.2))], hI⟩
set_option maxRecDepth 100000 in
set_option maxHeartbeats 4000000 in
theorem o_pair {vb : Nat} {M : qMem} {s : sT} (hI : XI vb M s) {u v : Int32} : qSem 0 mX7_pair [.ref 0, .int (u), .int (v)] M (fun r N => r = some (.int (aPair (sD s) u v)) ∧ XI vb N s) := by
  have hX := hI.1
  have hB := hI.2.1
  have hK6 := hB.2.1
  have hY16 := hB.1
  have hZ := hI.2.2.2.1
  refine qSem.of (by decide +kernel) (Nat.le_of_ble_eq_true rfl) (fun w => ?_)
  refine R_ls (L' := [(0, .ref 0), (1, .int (u)), (2, .int (v))]) (qs1 rfl (qs1 rfl (qs1 rfl qs0))) ?_
  refine R_aload_n dX7_pair_0 rfl ?_
  refine R_iload_n dX7_pair_1 rfl ?_
  refine R_iload_n dX7_pair_2 rfl ?_
  refine R_callV (mc := mX7_areTwoStations) (As := [_, _]) (r := 0) dX7_pair_3 lm_RX7_186 mv_X7_areTwoStations rfl (by decide) rfl rfl rfl rfl (Nat.le_of_ble_eq_true rfl) (c_two hX) ?_
  rintro _ _ ⟨rfl, ⟨rfl, htw⟩ | ⟨rfl, htw⟩⟩
  · have htw2 := htw
    obtain ⟨⟨cu, hu, rfl⟩, ⟨cv, hv, rfl⟩, hne⟩ : (∃ j, j < dK (sD s) ∧ u = nI j) ∧ (∃ j, j < dK (sD s) ∧ v = nI j) ∧ ¬ u = v := ⟨inN_o (by omega) htw.1, inN_o (by omega) htw.2.1, htw.2.2⟩
    refine R_if_neN (tgt := 11) dX7_pair_6 (by decide) (by omega) (fun h_6 => ?_) (fun h_6 => by exact absurd h_6 (by decide))
    refine R_aload_n dX7_pair_11 rfl ?_
    refine R_getR dX7_pair_12 lg_RX7_19 (by decide) rfl rfl ?_
    refine R_iload_n dX7_pair_15 rfl ?_
    refine R_iload_n dX7_pair_16 rfl ?_
    refine R_callV (mc := mX3_arePair) (As := [_, _]) (r := 14) dX7_pair_17 lm_RX7_189 mv_X3_arePair rfl (by decide) rfl rfl rfl rfl (Nat.le_of_ble_eq_true rfl) (c_arePair hX hB hu hv) ?_
    rintro _ _ ⟨rfl, ⟨rfl, hp⟩ | ⟨rfl, hp⟩⟩
    · refine R_if_eqN (tgt := 27) dX7_pair_20 (by decide) (by omega) (fun h_20 => by exact absurd h_20 (by decide)) (fun h_20 => ?_)
      refine R_iconst (v := nI 1) dX7_pair_23 rfl ?_
      refine R_goto (tgt := 28) dX7_pair_24 (by decide) ?_
      refine R_ireturn dX7_pair_28 rfl rfl ?_
      exact ⟨by unfold aPair; rw [if_pos htw2, kn_n (by omega), kn_n (by omega)]; first | rw [if_pos hp]; rfl | rw [if_neg hp]; try rfl, hI⟩
    · refine R_if_eqN (tgt := 27) dX7_pair_20 (by decide) (by omega) (fun h_20 => ?_) (fun h_20 => by exact absurd h_20 (by decide))
      refine R_iconst (v := nI 0) dX7_pair_27 rfl ?_
      refine R_ireturn dX7_pair_28 rfl rfl ?_
      exact ⟨by unfold aPair; rw [if_pos htw2, kn_n (by omega), kn_n (by omega)]; first | rw [if_pos hp]; rfl | rw [if_neg hp]; try rfl, hI⟩
  · refine R_if_neN (tgt := 11) dX7_pair_6 (by decide) (by omega) (fun h_6 => by exact absurd h_6 (by decide)) (fun h_6 => ?_)
    refine R_iconst (v := -1) dX7_pair_9 rfl ?_
    refine R_ireturn dX7_pair_10 rfl rfl ?_
    exact ⟨by unfold aPair; rw [if_neg htw], hI⟩
set_option maxRecDepth 100000 in
set_option maxHeartbeats 4000000 in
theorem c_dir {M : qMem} {a b : Int32} : qSem 0 mX7_direction [.int (a), .int (b)] M (qr (dirI a b) M) := by
  refine qSem.of (by decide +kernel) (Nat.le_of_ble_eq_true rfl) (fun w => ?_)
  refine R_ls (L' := [(0, .int (a)), (1, .int (b))]) (qs1 rfl (qs1 rfl qs0)) ?_
  refine R_iload_n dX7_direction_0 rfl ?_
  refine R_iload_n dX7_direction_1 rfl ?_
  refine R_icmp_ne (tgt := 7) dX7_direction_2 (by decide) (fun h_2 => ?_) (fun h_2 => ?_)
  · refine R_iload_n dX7_direction_7 rfl ?_
    refine R_iload_n dX7_direction_8 rfl ?_
    refine R_icmp_ge (tgt := 16) dX7_direction_9 (by decide) (fun h_9 => ?_) (fun h_9 => ?_)
    · refine R_iconst (v := -1) dX7_direction_16 rfl ?_
      refine R_ireturn dX7_direction_17 rfl rfl ?_
      refine ⟨?_, rfl⟩
      unfold dirI
      (first | rw [if_pos (by assumption)] | rw [if_neg (by assumption), if_pos (by assumption)] | rw [if_neg (by assumption), if_pos (Int32.not_le.mp (by assumption))] | rw [if_neg (by assumption), if_neg (by assumption)] | rw [if_neg (by assumption), if_neg (Int32.not_lt.mpr (by assumption))])
      try rfl
    · refine R_iconst (v := nI 1) dX7_direction_12 rfl ?_
      refine R_goto (tgt := 17) dX7_direction_13 (by decide) ?_
      refine R_ireturn dX7_direction_17 rfl rfl ?_
      refine ⟨?_, rfl⟩
      unfold dirI
      (first | rw [if_pos (by assumption)] | rw [if_neg (by assumption), if_pos (by assumption)] | rw [if_neg (by assumption), if_pos (Int32.not_le.mp (by assumption))] | rw [if_neg (by assumption), if_neg (by assumption)] | rw [if_neg (by assumption), if_neg (Int32.not_lt.mpr (by assumption))])
      try rfl
  · refine R_iconst (v := nI 0) dX7_direction_5 rfl ?_
    refine R_ireturn dX7_direction_6 rfl rfl ?_
    refine ⟨?_, rfl⟩
    unfold dirI
    (first | rw [if_pos (by assumption)] | rw [if_neg (by assumption), if_pos (by assumption)] | rw [if_neg (by assumption), if_pos (Int32.not_le.mp (by assumption))] | rw [if_neg (by assumption), if_neg (by assumption)] | rw [if_neg (by assumption), if_neg (Int32.not_lt.mpr (by assumption))])
    try rfl

theorem rsIn_s {d : dT} {c t y : Nat} {a b : Int32} (h1 : dV d c y = some a) (h2 : dV d c t = some b) : rsIn d c t (y + 1) = rsIn d c t y + dirI a b := by
  show rsIn d c t y + _ = _; rw [h1, h2]
theorem rsIn_1 {d : dT} {c t y : Nat} (h1 : dV d c y = none) : rsIn d c t (y + 1) = rsIn d c t y := by
  show rsIn d c t y + _ = _; rw [h1]; exact Int32.add_zero _
theorem rsIn_2 {d : dT} {c t y : Nat} (h1 : dV d c t = none) : rsIn d c t (y + 1) = rsIn d c t y := by
  show rsIn d c t y + _ = _; rw [h1]
  cases dV d c y <;> exact Int32.add_zero _
set_option maxRecDepth 100000 in
set_option maxHeartbeats 4000000 in
theorem l_rise1 {w : qWT} {vb : Nat} {M : qMem} {s : sT} (hI : XI vb M s) {cc t : Nat} (hcc : cc < dK (sD s)) (ht : t < dY (sD s)) (hk : qRW 0 w mX7_rise 93 [(0, .ref 0), (1, .int (nI cc)), (2, .int (rsTo (sD s) cc (t + 1))), (3, .int (nI t))] [] M (fun r N => r = some (.int (rsTo (sD s) cc (dY (sD s)) + nI 100000)) ∧ XI vb N s)) : ∀ (fu : Nat) (y : Nat), (t + 1 - y) < fu → (y ≤ t) → qRW 0 w mX7_rise 31 [(0, .ref 0), (1, .int (nI cc)), (2, .int (rsTo (sD s) cc t + rsIn (sD s) cc t y)), (3, .int (nI t)), (4, .int (nI y))] [] M (fun r N => r = some (.int (rsTo (sD s) cc (dY (sD s)) + nI 100000)) ∧ XI vb N s) := by
  intro fu
  induction fu with
  | zero => intro y hn; exact absurd hn (Nat.not_lt_zero _)
  | succ fu ih =>
    intro y hn hy
    have hX := hI.1
    have hB := hI.2.1
    have hK6 := hB.2.1
    have hY16 := hB.1
    have hZ := hI.2.2.2.1
    refine R_iload dX7_rise_31 rfl ?_
    refine R_iload_n dX7_rise_33 rfl ?_
    refine R_icmp_geN (tgt := 93) dX7_rise_34 (by decide) (by omega) (by omega) (fun h_34 => ?_) (fun h_34 => ?_)
    · have e : y = t := by omega
      subst e
      refine R_ls (L' := [(0, .ref 0), (1, .int (nI cc)), (2, .int (rsTo (sD s) cc (y + 1))), (3, .int (nI y))]) (qs1 rfl (qs1 rfl (qs1 rfl (qs1 rfl qs0)))) ?_
      exact hk
    · refine R_aload_n dX7_rise_37 rfl ?_
      refine R_getR dX7_rise_38 lg_RX7_19 (by decide) rfl rfl ?_
      refine R_iload_n dX7_rise_41 rfl ?_
      refine R_iload dX7_rise_42 rfl ?_
      refine R_callV (mc := mX3_has) (As := [_, _]) (r := 14) dX7_rise_44 lm_RX7_257 mv_X3_has rfl (by decide) rfl rfl rfl rfl (Nat.le_of_ble_eq_true rfl) (c_has_14 (by omega) (by omega)) ?_
      rintro _ _ ⟨rfl, ⟨rfl, hp⟩ | ⟨rfl, hp⟩⟩
      · obtain ⟨vhp, ehp, mhp⟩ := (has_ex hX hB hcc (by omega)).1.mp hp
        refine R_if_eqN (tgt := 87) dX7_rise_47 (by decide) (by omega) (fun h_47 => by exact absurd h_47 (by decide)) (fun h_47 => ?_)
        refine R_aload_n dX7_rise_50 rfl ?_
        refine R_getR dX7_rise_51 lg_RX7_19 (by decide) rfl rfl ?_
        refine R_iload_n dX7_rise_54 rfl ?_
        refine R_iload_n dX7_rise_55 rfl ?_
        refine R_callV (mc := mX3_has) (As := [_, _]) (r := 14) dX7_rise_56 lm_RX7_257 mv_X3_has rfl (by decide) rfl rfl rfl rfl (Nat.le_of_ble_eq_true rfl) (c_has_14 (by omega) (by omega)) ?_
        rintro _ _ ⟨rfl, ⟨rfl, hq⟩ | ⟨rfl, hq⟩⟩
        · obtain ⟨vhq, ehq, mhq⟩ := (has_ex hX hB hcc (by omega)).1.mp hq
          refine R_if_eqN (tgt := 87) dX7_rise_59 (by decide) (by omega) (fun h_59 => by exact absurd h_59 (by decide)) (fun h_59 => ?_)
          refine R_iload_n dX7_rise_62 rfl ?_
          refine R_aload_n dX7_rise_63 rfl ?_
          refine R_getR dX7_rise_64 lg_RX7_19 (by decide) rfl rfl ?_
          refine R_iload_n dX7_rise_67 rfl ?_
          refine R_iload dX7_rise_68 rfl ?_
          refine R_callV (mc := mX3_at) (As := [_, _]) (r := 14) dX7_rise_70 lm_RX7_101 mv_X3_at rfl (by decide) rfl rfl rfl rfl (Nat.le_of_ble_eq_true rfl) (c_at_14 (by omega) (by omega)) ?_
          rintro _ _ ⟨rfl, rfl⟩
          refine R_top (y := vhp) mhp ?_
          refine R_aload_n dX7_rise_73 rfl ?_
          refine R_getR dX7_rise_74 lg_RX7_19 (by decide) rfl rfl ?_
          refine R_iload_n dX7_rise_77 rfl ?_
          refine R_iload_n dX7_rise_78 rfl ?_
          refine R_callV (mc := mX3_at) (As := [_, _]) (r := 14) dX7_rise_79 lm_RX7_101 mv_X3_at rfl (by decide) rfl rfl rfl rfl (Nat.le_of_ble_eq_true rfl) (c_at_14 (by omega) (by omega)) ?_
          rintro _ _ ⟨rfl, rfl⟩
          refine R_top (y := vhq) mhq ?_
          refine R_callS (mc := mX7_direction) (As := [_, _]) dX7_rise_82 lm_RX7_277 mv_X7_direction rfl rfl rfl (Nat.le_of_ble_eq_true rfl) c_dir ?_
          rintro _ _ ⟨rfl, rfl⟩
          refine R_iadd dX7_rise_85 ?_
          refine R_istore_n (L' := [(0, .ref 0), (1, .int (nI cc)), (2, .int _), (3, .int (nI t)), (4, .int (nI y))]) dX7_rise_86 (by decide) (qs1 rfl (qs1 rfl (qs1 rfl (qs1 rfl (qs1 rfl qs0))))) ?_
          refine R_iincN (n := 1) (L' := [(0, .ref 0), (1, .int (nI cc)), (2, .int _), (3, .int (nI t)), (4, .int (nI (y + 1)))]) dX7_rise_87 rfl (by decide) (qs1 rfl (qs1 rfl (qs1 rfl (qs1 rfl (qs1 rfl qs0))))) ?_
          refine R_goto (tgt := 31) dX7_rise_90 (by decide) ?_
          refine R_ls (L' := [(0, .ref 0), (1, .int (nI cc)), (2, .int _), (3, .int (nI t)), (4, .int (nI (y + 1)))]) (qs1 rfl (qs1 rfl (qs1 rfl (qs1 rfl (qs1 rfl qs0))))) ?_
          exact (by have h := ih (y + 1) (by omega) (by omega); rw [rsIn_s ehp ehq] at h; first | exact h | (rw [← Int32.add_assoc] at h; exact h))
        · have ehq := (has_ex hX hB hcc (by omega)).2.mp (Decidable.not_not.mp hq)
          refine R_if_eqN (tgt := 87) dX7_rise_59 (by decide) (by omega) (fun h_59 => ?_) (fun h_59 => by exact absurd h_59 (by decide))
          refine R_iincN (n := 1) (L' := [(0, .ref 0), (1, .int (nI cc)), (2, .int (rsTo (sD s) cc t + rsIn (sD s) cc t y)), (3, .int (nI t)), (4, .int (nI (y + 1)))]) dX7_rise_87 rfl (by decide) (qs1 rfl (qs1 rfl (qs1 rfl (qs1 rfl (qs1 rfl qs0))))) ?_
          refine R_goto (tgt := 31) dX7_rise_90 (by decide) ?_
          refine R_ls (L' := [(0, .ref 0), (1, .int (nI cc)), (2, .int (rsTo (sD s) cc t + rsIn (sD s) cc t y)), (3, .int (nI t)), (4, .int (nI (y + 1)))]) (qs1 rfl (qs1 rfl (qs1 rfl (qs1 rfl (qs1 rfl qs0))))) ?_
          exact (by have h := ih (y + 1) (by omega) (by omega); rw [rsIn_2 ehq] at h; first | exact h | (rw [← Int32.add_assoc] at h; exact h))
      · have ehp := (has_ex hX hB hcc (by omega)).2.mp (Decidable.not_not.mp hp)
        refine R_if_eqN (tgt := 87) dX7_rise_47 (by decide) (by omega) (fun h_47 => ?_) (fun h_47 => by exact absurd h_47 (by decide))
        refine R_iincN (n := 1) (L' := [(0, .ref 0), (1, .int (nI cc)), (2, .int (rsTo (sD s) cc t + rsIn (sD s) cc t y)), (3, .int (nI t)), (4, .int (nI (y + 1)))]) dX7_rise_87 rfl (by decide) (qs1 rfl (qs1 rfl (qs1 rfl (qs1 rfl (qs1 rfl qs0))))) ?_
        refine R_goto (tgt := 31) dX7_rise_90 (by decide) ?_
        refine R_ls (L' := [(0, .ref 0), (1, .int (nI cc)), (2, .int (rsTo (sD s) cc t + rsIn (sD s) cc t y)), (3, .int (nI t)), (4, .int (nI (y + 1)))]) (qs1 rfl (qs1 rfl (qs1 rfl (qs1 rfl (qs1 rfl qs0))))) ?_
        exact (by have h := ih (y + 1) (by omega) (by omega); rw [rsIn_1 ehp] at h; first | exact h | (rw [← Int32.add_assoc] at h; exact h))
set_option maxRecDepth 100000 in
set_option maxHeartbeats 4000000 in
theorem l_rise2 {w : qWT} {vb : Nat} {M : qMem} {s : sT} (hI : XI vb M s) {cc : Nat} (hcc : cc < dK (sD s)) : ∀ (fu : Nat) (t : Nat), (dY (sD s) + 1 - t) < fu → (t ≤ dY (sD s)) → qRW 0 w mX7_rise 17 [(0, .ref 0), (1, .int (nI cc)), (2, .int (rsTo (sD s) cc t)), (3, .int (nI t))] [] M (fun r N => r = some (.int (rsTo (sD s) cc (dY (sD s)) + nI 100000)) ∧ XI vb N s) := by
  intro fu
  induction fu with
  | zero => intro t hn; exact absurd hn (Nat.not_lt_zero _)
  | succ fu ih =>
    intro t hn ht
    have hX := hI.1
    have hB := hI.2.1
    have hK6 := hB.2.1
    have hY16 := hB.1
    have hZ := hI.2.2.2.1
    refine R_iload_n dX7_rise_17 rfl ?_
    refine R_aload_n dX7_rise_18 rfl ?_
    refine R_getR dX7_rise_19 lg_RX7_19 (by decide) rfl rfl ?_
    refine R_callV (mc := mX3_years) (As := []) (r := 14) dX7_rise_22 lm_RX7_177 mv_X3_years rfl (by decide) rfl rfl rfl rfl (Nat.le_of_ble_eq_true rfl) c_years_14 ?_
    rintro _ _ ⟨rfl, rfl⟩
    refine R_top (y := nI (dY (sD s))) hX.1 ?_
    refine R_icmp_geN (tgt := 99) dX7_rise_25 (by decide) (by omega) (by omega) (fun h_25 => ?_) (fun h_25 => ?_)
    · refine R_iload_n dX7_rise_99 rfl ?_
      refine R_ldc (v := nI 100000) dX7_rise_100 lc_RX7_110 ?_
      refine R_iadd dX7_rise_102 ?_
      refine R_ireturn dX7_rise_103 rfl rfl ?_
      have e : t = dY (sD s) := by omega
      subst e
      exact ⟨rfl, hI⟩
    · refine R_iconst (v := nI 0) dX7_rise_28 rfl ?_
      refine R_istore (L' := [(0, .ref 0), (1, .int (nI cc)), (2, .int (rsTo (sD s) cc t)), (3, .int (nI t)), (4, .int (nI 0))]) dX7_rise_29 (by decide) (qs1 rfl (qs1 rfl (qs1 rfl (qs1 rfl (qs1 rfl qs0))))) ?_
      refine R_ls (L' := [(0, .ref 0), (1, .int (nI cc)), (2, .int (rsTo (sD s) cc t + rsIn (sD s) cc t 0)), (3, .int (nI t)), (4, .int (nI 0))]) (qs1 rfl (qs1 rfl (qs1 (by show some (Value.int (rsTo (sD s) cc t)) = some (Value.int (rsTo (sD s) cc t + 0)); rw [Int32.add_zero]) (qs1 rfl (qs1 rfl qs0))))) ?_
      exact (l_rise1 (w := w) hI hcc (by omega) (by have h := ih (t + 1) (by omega) (by omega); refine R_iincN (n := 1) (L' := [(0, .ref 0), (1, .int (nI cc)), (2, .int (rsTo (sD s) cc (t + 1))), (3, .int (nI (t + 1)))]) dX7_rise_93 rfl (by decide) (qs1 rfl (qs1 rfl (qs1 rfl (qs1 rfl qs0)))) ?_; refine R_goto (tgt := 17) dX7_rise_96 (by decide) ?_; exact h) (t + 2) 0 (by omega) (by omega))
set_option maxRecDepth 100000 in
set_option maxHeartbeats 4000000 in
theorem o_rise {vb : Nat} {M : qMem} {s : sT} (hI : XI vb M s) {c : Int32} : qSem 0 mX7_rise [.ref 0, .int (c)] M (fun r N => r = some (.int (aRise (sD s) c)) ∧ XI vb N s) := by
  have hX := hI.1
  have hB := hI.2.1
  have hK6 := hB.2.1
  have hY16 := hB.1
  have hZ := hI.2.2.2.1
  have hY4 := hI.2.2.1.1
  refine qSem.of (by decide +kernel) (Nat.le_of_ble_eq_true rfl) (fun w => ?_)
  refine R_ls (L' := [(0, .ref 0), (1, .int (c))]) (qs1 rfl (qs1 rfl qs0)) ?_
  refine R_aload_n dX7_rise_0 rfl ?_
  refine R_getR dX7_rise_1 lg_RX7_19 (by decide) rfl rfl ?_
  refine R_iload_n dX7_rise_4 rfl ?_
  refine R_callV (mc := mX3_hasStation) (As := [_]) (r := 14) dX7_rise_5 lm_RX7_180 mv_X3_hasStation rfl (by decide) rfl rfl rfl rfl (Nat.le_of_ble_eq_true rfl) c_hasStation ?_
  rintro _ _ ⟨rfl, ⟨rfl, hk⟩ | ⟨rfl, hk⟩⟩
  · rw [hX.2.1] at hk
    have hk2 : inN c (dK (sD s)) := hk
    obtain ⟨cc, hcc, rfl⟩ := inN_o (by omega) hk2
    refine R_if_neN (tgt := 13) dX7_rise_8 (by decide) (by omega) (fun h_8 => ?_) (fun h_8 => by exact absurd h_8 (by decide))
    refine R_iconst (v := nI 0) dX7_rise_13 rfl ?_
    refine R_istore_n (L' := [(0, .ref 0), (1, .int (nI cc)), (2, .int (nI 0))]) dX7_rise_14 (by decide) (qs1 rfl (qs1 rfl (qs1 rfl qs0))) ?_
    refine R_iconst (v := nI 1) dX7_rise_15 rfl ?_
    refine R_istore_n (L' := [(0, .ref 0), (1, .int (nI cc)), (2, .int (nI 0)), (3, .int (nI 1))]) dX7_rise_16 (by decide) (qs1 rfl (qs1 rfl (qs1 rfl (qs1 rfl qs0)))) ?_
    rw [show aRise (sD s) (nI cc) = rsTo (sD s) cc (dY (sD s)) + nI 100000 from by unfold aRise; rw [if_pos hk2, kn_n (by omega)]]
    refine R_ls (L' := [(0, .ref 0), (1, .int (nI cc)), (2, .int (nI 0)), (3, .int (nI 1))]) (qs1 rfl (qs1 rfl (qs1 rfl (qs1 rfl qs0)))) ?_
    exact (l_rise2 hI hcc (dY (sD s) + 2) 1 (by omega) (by omega))
  · rw [hX.2.1] at hk
    have hk2 : ¬ inN c (dK (sD s)) := hk
    refine R_if_neN (tgt := 13) dX7_rise_8 (by decide) (by omega) (fun h_8 => by exact absurd h_8 (by decide)) (fun h_8 => ?_)
    refine R_iconst (v := -1) dX7_rise_11 rfl ?_
    refine R_ireturn dX7_rise_12 rfl rfl ?_
    exact ⟨by unfold aRise; rw [if_neg hk2], hI⟩
set_option maxRecDepth 100000 in
set_option maxHeartbeats 4000000 in
theorem c_shown {M : qMem} {x : Int32} {o : Option Int32} (hx : x = encX o) (ho : ∀ v, o = some v → okv v) : qSem 0 mX7_shown [.int (x)] M (qr (shown o) M) := by
  refine qSem.of (by decide +kernel) (Nat.le_of_ble_eq_true rfl) (fun w => ?_)
  refine R_ls (L' := [(0, .int (x))]) (qs1 rfl qs0) ?_
  refine R_iload_n dX7_shown_0 rfl ?_
  refine R_ldc (v := nI 1000000) dX7_shown_1 lc_RX7_109 ?_
  refine R_top (y := 1000000) rfl ?_
  refine R_icmp_ne (tgt := 11) dX7_shown_3 (by decide) (fun h_3 => ?_) (fun h_3 => ?_)
  · refine R_iload_n dX7_shown_11 rfl ?_
    refine R_ldc (v := nI 100000) dX7_shown_12 lc_RX7_110 ?_
    refine R_iadd dX7_shown_14 ?_
    refine R_ireturn dX7_shown_15 rfl rfl ?_
    subst hx
    cases o with
    | none => first | exact ⟨rfl, rfl⟩ | exact absurd rfl (by assumption)
    | some v => first | exact absurd (show encX (some v) = 1000000 by assumption) (okv_X (ho v rfl)) | exact ⟨rfl, rfl⟩
  · refine R_bipush (v := -4) dX7_shown_6 rfl ?_
    refine R_goto (tgt := 15) dX7_shown_8 (by decide) ?_
    refine R_ireturn dX7_shown_15 rfl rfl ?_
    subst hx
    cases o with
    | none => first | exact ⟨rfl, rfl⟩ | exact absurd rfl (by assumption)
    | some v => first | exact absurd (show encX (some v) = 1000000 by assumption) (okv_X (ho v rfl)) | exact ⟨rfl, rfl⟩
set_option maxRecDepth 100000 in
set_option maxHeartbeats 4000000 in
theorem o_value {vb : Nat} {M : qMem} {s : sT} (hI : XI vb M s) {c t : Int32} : qSem 0 mX7_value [.ref 0, .int (c), .int (t)] M (fun r N => r = some (.int (aValue (sD s) c t)) ∧ XI vb N s) := by
  have hX := hI.1
  have hB := hI.2.1
  have hK6 := hB.2.1
  have hY16 := hB.1
  have hZ := hI.2.2.2.1
  refine qSem.of (by decide +kernel) (Nat.le_of_ble_eq_true rfl) (fun w => ?_)
  refine R_ls (L' := [(0, .ref 0), (1, .int (c)), (2, .int (t))]) (qs1 rfl (qs1 rfl (qs1 rfl qs0))) ?_
  refine R_aload_n dX7_value_0 rfl ?_
  refine R_getR dX7_value_1 lg_RX7_19 (by decide) rfl rfl ?_
  refine R_iload_n dX7_value_4 rfl ?_
  refine R_iload_n dX7_value_5 rfl ?_
  refine R_callV (mc := mX3_knows) (As := [_, _]) (r := 14) dX7_value_6 lm_RX7_97 mv_X3_knows rfl (by decide) rfl rfl rfl rfl (Nat.le_of_ble_eq_true rfl) c_knows ?_
  rintro _ _ ⟨rfl, ⟨rfl, hk⟩ | ⟨rfl, hk⟩⟩
  · rw [hX.1, hX.2.1] at hk
    have hk2 : ck (sD s) c t := hk
    obtain ⟨⟨cc, hcc, rfl⟩, ⟨ct, hct, rfl⟩⟩ : (∃ j, j < dK (sD s) ∧ c = nI j) ∧ (∃ j, j < dY (sD s) ∧ t = nI j) := ⟨inN_o (by omega) hk2.1, inN_o (by omega) hk2.2⟩
    refine R_if_eqN (tgt := 27) dX7_value_9 (by decide) (by omega) (fun h_9 => by exact absurd h_9 (by decide)) (fun h_9 => ?_)
    refine R_aload_n dX7_value_12 rfl ?_
    refine R_getR dX7_value_13 lg_RX7_19 (by decide) rfl rfl ?_
    refine R_iload_n dX7_value_16 rfl ?_
    refine R_iload_n dX7_value_17 rfl ?_
    refine R_callV (mc := mX3_at) (As := [_, _]) (r := 14) dX7_value_18 lm_RX7_101 mv_X3_at rfl (by decide) rfl rfl rfl rfl (Nat.le_of_ble_eq_true rfl) (c_at_14 (by omega) (by omega)) ?_
    rintro _ _ ⟨rfl, rfl⟩
    refine R_callS (mc := mX7_shown) (As := [_]) dX7_value_21 lm_RX7_105 mv_X7_shown rfl rfl rfl (Nat.le_of_ble_eq_true rfl) (c_shown (hX.2.2.2.2.1 cc ct hcc hct) (fun v e => hB.2.2.1 _ _ v e)) ?_
    rintro _ _ ⟨rfl, rfl⟩
    refine R_goto (tgt := 28) dX7_value_24 (by decide) ?_
    refine R_ireturn dX7_value_28 rfl rfl ?_
    exact ⟨by unfold aValue; first | rw [if_neg hk2]; rfl | rw [if_neg hk2] | rw [if_pos hk2, kn_n (by omega), kn_n (by omega)], hI⟩
  · rw [hX.1, hX.2.1] at hk
    have hk2 : ¬ ck (sD s) c t := hk
    refine R_if_eqN (tgt := 27) dX7_value_9 (by decide) (by omega) (fun h_9 => ?_) (fun h_9 => by exact absurd h_9 (by decide))
    refine R_iconst (v := -1) dX7_value_27 rfl ?_
    refine R_ireturn dX7_value_28 rfl rfl ?_
    exact ⟨by unfold aValue; first | rw [if_neg hk2]; rfl | rw [if_neg hk2] | rw [if_pos hk2, kn_n (by omega), kn_n (by omega)], hI⟩
set_option maxRecDepth 100000 in
set_option maxHeartbeats 4000000 in
theorem o_votes {vb : Nat} {M : qMem} {s : sT} (hI : XI vb M s) {c t : Int32} : qSem 0 mX7_votes [.ref 0, .int (c), .int (t)] M (fun r N => r = some (.int (aVotes (sD s) c t)) ∧ XI vb N s) := by
  have hX := hI.1
  have hB := hI.2.1
  have hK6 := hB.2.1
  have hY16 := hB.1
  have hZ := hI.2.2.2.1
  refine qSem.of (by decide +kernel) (Nat.le_of_ble_eq_true rfl) (fun w => ?_)
  refine R_ls (L' := [(0, .ref 0), (1, .int (c)), (2, .int (t))]) (qs1 rfl (qs1 rfl (qs1 rfl qs0))) ?_
  refine R_aload_n dX7_votes_0 rfl ?_
  refine R_getR dX7_votes_1 lg_RX7_19 (by decide) rfl rfl ?_
  refine R_iload_n dX7_votes_4 rfl ?_
  refine R_iload_n dX7_votes_5 rfl ?_
  refine R_callV (mc := mX3_knows) (As := [_, _]) (r := 14) dX7_votes_6 lm_RX7_97 mv_X3_knows rfl (by decide) rfl rfl rfl rfl (Nat.le_of_ble_eq_true rfl) c_knows ?_
  rintro _ _ ⟨rfl, ⟨rfl, hk⟩ | ⟨rfl, hk⟩⟩
  · rw [hX.1, hX.2.1] at hk
    have hk2 : ck (sD s) c t := hk
    obtain ⟨⟨cc, hcc, rfl⟩, ⟨ct, hct, rfl⟩⟩ : (∃ j, j < dK (sD s) ∧ c = nI j) ∧ (∃ j, j < dY (sD s) ∧ t = nI j) := ⟨inN_o (by omega) hk2.1, inN_o (by omega) hk2.2⟩
    refine R_if_neN (tgt := 14) dX7_votes_9 (by decide) (by omega) (fun h_9 => ?_) (fun h_9 => by exact absurd h_9 (by decide))
    refine R_aload_n dX7_votes_14 rfl ?_
    refine R_getR dX7_votes_15 lg_RX7_40 (by decide) rfl rfl ?_
    refine R_aload_n dX7_votes_18 rfl ?_
    refine R_getR dX7_votes_19 lg_RX7_19 (by decide) rfl rfl ?_
    refine R_callV (mc := mX0_refresh) (As := [_]) (r := 36) dX7_votes_22 lm_RX7_230 mv_X0_refresh rfl (by decide) rfl rfl rfl rfl (Nat.le_of_ble_eq_true rfl) (c_refresh hX hB (by have := hI.2.2.1.1; omega) hZ.2.2 hI.2.2.2.2.2.2.2.2.1.2) ?_
    rintro _ _ ⟨rfl, hC, h3, hZN, hOC⟩
    have hI2 := hI.cu hOC hZN hC h3
    refine R_aload_n dX7_votes_25 rfl ?_
    refine R_getR dX7_votes_26 lg_RX7_40 (by decide) rfl rfl ?_
    refine R_iload_n dX7_votes_29 rfl ?_
    refine R_iload_n dX7_votes_30 rfl ?_
    refine R_callV (mc := mX0_votesCast) (As := [_, _]) (r := 36) dX7_votes_31 lm_RX7_233 mv_X0_votesCast rfl (by decide) rfl rfl rfl rfl (Nat.le_of_ble_eq_true rfl) (c_cast (by omega) (by omega)) ?_
    rintro _ _ ⟨rfl, rfl⟩
    refine R_ireturn dX7_votes_34 rfl rfl ?_
    exact ⟨by unfold aVotes; rw [if_pos hk2, kn_n (by omega), kn_n (by omega)]; exact congrArg (fun z => some (Value.int z)) (hC.2.2 cc ct hcc hct), hI2⟩
  · rw [hX.1, hX.2.1] at hk
    have hk2 : ¬ ck (sD s) c t := hk
    refine R_if_neN (tgt := 14) dX7_votes_9 (by decide) (by omega) (fun h_9 => by exact absurd h_9 (by decide)) (fun h_9 => ?_)
    refine R_iconst (v := -1) dX7_votes_12 rfl ?_
    refine R_ireturn dX7_votes_13 rfl rfl ?_
    exact ⟨by unfold aVotes; rw [if_neg hk2]; try rfl, hI⟩

theorem culs_in {d : dT} {P : pT} : ∀ {n : Nat} {B : Nat → Nat → Bool} {x : cT}, x ∈ culs d P n B → x.1 < dK d ∧ x.2.1 < dY d
  | 0, B, x, h => by cases h
  | n + 1, B, x, h => by
    unfold culs at h
    have hfo : fOk (dK d) (dY d) (fnd d (cnt P B)).2 := fAl_ok (fun q hq => (by cases hq)) (dK d) (Nat.le_refl _)
    split at h
    · cases h
    · rename_i q hq
      rcases List.mem_cons.mp h with e | e
      · subst e; exact hfo q hq
      · exact culs_in e
theorem cuL_len (d : dT) : (cuL d).length ≤ 96 := culs_len _ _ _ _
theorem cuL_at {d : dT} {i : Nat} (h : i < (cuL d).length) : ∃ x, (cuL d)[i]? = some x ∧ (cuL d).getD i (0, 0, 0, 0) = x ∧ x.1 < dK d ∧ x.2.1 < dY d :=
  ⟨(cuL d)[i], List.getElem?_eq_getElem h, by rw [List.getD_eq_getElem?_getD, List.getElem?_eq_getElem h]; rfl, culs_in (List.getElem_mem h)⟩
set_option maxRecDepth 100000 in
set_option maxHeartbeats 4000000 in
theorem o_culprit {vb : Nat} {M : qMem} {s : sT} (hI : XI vb M s) {i k : Int32} : qSem 0 mX7_culprit [.ref 0, .int (i), .int (k)] M (fun r N => r = some (.int (aCulprit (sD s) i k)) ∧ XI vb N s) := by
  have hX := hI.1
  have hB := hI.2.1
  have hK6 := hB.2.1
  have hY16 := hB.1
  have hZ := hI.2.2.2.1
  refine qSem.of (by decide +kernel) (Nat.le_of_ble_eq_true rfl) (fun w => ?_)
  refine R_ls (L' := [(0, .ref 0), (1, .int (i)), (2, .int (k))]) (qs1 rfl (qs1 rfl (qs1 rfl qs0))) ?_
  refine R_iload_n dX7_culprit_0 rfl ?_
  refine R_iconst (v := -1) dX7_culprit_1 rfl ?_
  refine R_icmp_lt (tgt := 14) dX7_culprit_2 (by decide) (fun h_2 => ?_) (fun h_2 => ?_)
  · refine R_iconst (v := -1) dX7_culprit_14 rfl ?_
    refine R_ireturn dX7_culprit_15 rfl rfl ?_
    exact ⟨by unfold aCulprit; rw [if_neg (fun h => by first | exact absurd h.1 (Int32.not_le.mpr h_2) | exact absurd h.2.1 (Int32.not_le.mpr h_6) | exact absurd h.2.2 (Int32.not_lt.mpr h_11) | exact absurd h.2.2 h_11)], hI⟩
  · refine R_iload_n dX7_culprit_5 rfl ?_
    refine R_if_lt (tgt := 14) dX7_culprit_6 (by decide) (fun h_6 => ?_) (fun h_6 => ?_)
    · refine R_iconst (v := -1) dX7_culprit_14 rfl ?_
      refine R_ireturn dX7_culprit_15 rfl rfl ?_
      exact ⟨by unfold aCulprit; rw [if_neg (fun h => by first | exact absurd h.1 (Int32.not_le.mpr h_2) | exact absurd h.2.1 (Int32.not_le.mpr h_6) | exact absurd h.2.2 (Int32.not_lt.mpr h_11) | exact absurd h.2.2 h_11)], hI⟩
    · refine R_iload_n dX7_culprit_9 rfl ?_
      refine R_iconst (v := nI 4) dX7_culprit_10 rfl ?_
      refine R_icmp_lt (tgt := 16) dX7_culprit_11 (by decide) (fun h_11 => ?_) (fun h_11 => ?_)
      · have h_6k : 0 ≤ k := by first | exact h_6 | exact Int32.not_lt.mp h_6
        have h_2k : -1 ≤ i := by first | exact h_2 | exact Int32.not_lt.mp h_2
        have h_k : inN k 4 := ⟨h_6k, h_11⟩
        obtain ⟨cw, hcw, rfl⟩ := inN_o (by omega) h_k
        refine R_aload_n dX7_culprit_16 rfl ?_
        refine R_getR dX7_culprit_17 lg_RX7_40 (by decide) rfl rfl ?_
        refine R_aload_n dX7_culprit_20 rfl ?_
        refine R_getR dX7_culprit_21 lg_RX7_19 (by decide) rfl rfl ?_
        refine R_callV (mc := mX0_refresh) (As := [_]) (r := 36) dX7_culprit_24 lm_RX7_230 mv_X0_refresh rfl (by decide) rfl rfl rfl rfl (Nat.le_of_ble_eq_true rfl) (c_refresh hX hB (by have := hI.2.2.1.1; omega) hZ.2.2 hI.2.2.2.2.2.2.2.2.1.2) ?_
        rintro _ _ ⟨rfl, hC, h3, hZN, hOC⟩
        have hI2 := hI.cu hOC hZN hC h3
        refine R_iload_n dX7_culprit_27 rfl ?_
        refine R_iconst (v := -1) dX7_culprit_28 rfl ?_
        refine R_icmp_ne (tgt := 40) dX7_culprit_29 (by decide) (fun h_25 => ?_) (fun h_25 => ?_)
        · obtain ⟨ci, hci, rfl⟩ := q_gem1 h_2k h_25
          refine R_iload_n dX7_culprit_40 rfl ?_
          refine R_aload_n dX7_culprit_41 rfl ?_
          refine R_getR dX7_culprit_42 lg_RX7_40 (by decide) rfl rfl ?_
          refine R_callV (mc := mX0_length) (As := []) (r := 36) dX7_culprit_45 lm_RX7_236 mv_X0_length rfl (by decide) rfl rfl rfl rfl (Nat.le_of_ble_eq_true rfl) c_clen ?_
          rintro _ _ ⟨rfl, rfl⟩
          refine R_top (y := nI (cuL (sD s)).length) hC.1 ?_
          have hcl := cuL_len (sD s)
          refine R_icmp_ltN (tgt := 54) dX7_culprit_48 (by decide) (by omega) (by omega) (fun h_44 => ?_) (fun h_44 => ?_)
          · obtain ⟨x, hx1, hx2, hx3, hx4⟩ := cuL_at h_44
            obtain ⟨g1, g2, g3, g4⟩ := hC.2.1 ci x hx1
            refine R_iload_n dX7_culprit_54 rfl ?_
            refine R_iconst (v := nI 3) dX7_culprit_55 rfl ?_
            refine R_icmp_neN (tgt := 74) dX7_culprit_56 (by decide) (by omega) (by omega) (fun h_52 => ?_) (fun h_52 => ?_)
            · refine R_aload_n dX7_culprit_74 rfl ?_
              refine R_getR dX7_culprit_75 lg_RX7_40 (by decide) rfl rfl ?_
              refine R_iload_n dX7_culprit_78 rfl ?_
              refine R_iload_n dX7_culprit_79 rfl ?_
              refine R_callV (mc := mX0_property) (As := [_, _]) (r := 36) dX7_culprit_80 lm_RX7_237 mv_X0_property rfl (by decide) rfl rfl rfl rfl (Nat.le_of_ble_eq_true rfl) (c_prop (by omega) (by omega)) ?_
              rintro _ _ ⟨rfl, rfl⟩
              refine R_ireturn dX7_culprit_83 rfl rfl ?_
              exact ⟨by unfold aCulprit; rw [if_pos ⟨h_2k, h_k⟩, if_neg h_25, if_pos (nI_lt h_44 (by omega)), kn_n (by omega), kn_n (by omega), hx2]; have h9 : cw = 0 ∨ cw = 1 ∨ cw = 2 := (by omega); rcases h9 with rfl | rfl | rfl <;> first | exact congrArg (fun z => some (Value.int z)) g1 | exact congrArg (fun z => some (Value.int z)) g2 | exact congrArg (fun z => some (Value.int z)) g3, hI2⟩
            · refine R_aload_n dX7_culprit_59 rfl ?_
              refine R_getR dX7_culprit_60 lg_RX7_40 (by decide) rfl rfl ?_
              refine R_iload_n dX7_culprit_63 rfl ?_
              refine R_iload_n dX7_culprit_64 rfl ?_
              refine R_callV (mc := mX0_property) (As := [_, _]) (r := 36) dX7_culprit_65 lm_RX7_237 mv_X0_property rfl (by decide) rfl rfl rfl rfl (Nat.le_of_ble_eq_true rfl) (c_prop (by omega) (by omega)) ?_
              rintro _ _ ⟨rfl, rfl⟩
              refine R_ldc (v := nI 100000) dX7_culprit_68 lc_RX7_110 ?_
              refine R_iadd dX7_culprit_70 ?_
              refine R_goto (tgt := 83) dX7_culprit_71 (by decide) ?_
              refine R_ireturn dX7_culprit_83 rfl rfl ?_
              have h9 : cw = 3 := by omega
              subst h9
              exact ⟨by unfold aCulprit; rw [if_pos ⟨h_2k, h_k⟩, if_neg h_25, if_pos (nI_lt h_44 (by omega)), kn_n (by omega), hx2]; exact congrArg (fun z => some (Value.int (z + nI 100000))) g4, hI2⟩
          · refine R_bipush (v := -4) dX7_culprit_51 rfl ?_
            refine R_ireturn dX7_culprit_53 rfl rfl ?_
            exact ⟨by unfold aCulprit; rw [if_pos ⟨h_2k, h_k⟩, if_neg h_25, if_neg (nI_nlt h_44 (by omega))]; try rfl, hI2⟩
        · refine R_aload_n dX7_culprit_32 rfl ?_
          refine R_getR dX7_culprit_33 lg_RX7_40 (by decide) rfl rfl ?_
          refine R_callV (mc := mX0_length) (As := []) (r := 36) dX7_culprit_36 lm_RX7_236 mv_X0_length rfl (by decide) rfl rfl rfl rfl (Nat.le_of_ble_eq_true rfl) c_clen ?_
          rintro _ _ ⟨rfl, rfl⟩
          refine R_top (y := nI (cuL (sD s)).length) hC.1 ?_
          have hcl := cuL_len (sD s)
          refine R_ireturn dX7_culprit_39 rfl rfl ?_
          exact ⟨by unfold aCulprit; rw [if_pos ⟨h_2k, h_k⟩, if_pos h_25], hI2⟩
      · refine R_iconst (v := -1) dX7_culprit_14 rfl ?_
        refine R_ireturn dX7_culprit_15 rfl rfl ?_
        exact ⟨by unfold aCulprit; rw [if_neg (fun h => by first | exact absurd h.1 (Int32.not_le.mpr h_2) | exact absurd h.2.1 (Int32.not_le.mpr h_6) | exact absurd h.2.2 (Int32.not_lt.mpr h_11) | exact absurd h.2.2 h_11)], hI⟩
set_option maxRecDepth 100000 in
set_option maxHeartbeats 4000000 in
theorem o_ledger {vb : Nat} {M : qMem} {s : sT} (hI : XI vb M s) {i k : Int32} : qSem 0 mX7_ledger [.ref 0, .int (i), .int (k)] M (fun r N => r = some (.int (aLedger (sG s) i k)) ∧ XI vb N s) := by
  have hX := hI.1
  have hB := hI.2.1
  have hK6 := hB.2.1
  have hY16 := hB.1
  have hZ := hI.2.2.2.1
  have hG := hI.2.2.2.2.2.1
  refine qSem.of (by decide +kernel) (Nat.le_of_ble_eq_true rfl) (fun w => ?_)
  refine R_ls (L' := [(0, .ref 0), (1, .int (i)), (2, .int (k))]) (qs1 rfl (qs1 rfl (qs1 rfl qs0))) ?_
  refine R_iload_n dX7_ledger_0 rfl ?_
  refine R_iconst (v := -1) dX7_ledger_1 rfl ?_
  refine R_icmp_lt (tgt := 14) dX7_ledger_2 (by decide) (fun h_2 => ?_) (fun h_2 => ?_)
  · refine R_iconst (v := -1) dX7_ledger_14 rfl ?_
    refine R_ireturn dX7_ledger_15 rfl rfl ?_
    exact ⟨by unfold aLedger; rw [if_neg (fun h => by first | exact absurd h.1 (Int32.not_le.mpr h_2) | exact absurd h.2.1 (Int32.not_le.mpr h_6) | exact absurd h.2.2 (Int32.not_lt.mpr h_11) | exact absurd h.2.2 h_11)], hI⟩
  · refine R_iload_n dX7_ledger_5 rfl ?_
    refine R_if_lt (tgt := 14) dX7_ledger_6 (by decide) (fun h_6 => ?_) (fun h_6 => ?_)
    · refine R_iconst (v := -1) dX7_ledger_14 rfl ?_
      refine R_ireturn dX7_ledger_15 rfl rfl ?_
      exact ⟨by unfold aLedger; rw [if_neg (fun h => by first | exact absurd h.1 (Int32.not_le.mpr h_2) | exact absurd h.2.1 (Int32.not_le.mpr h_6) | exact absurd h.2.2 (Int32.not_lt.mpr h_11) | exact absurd h.2.2 h_11)], hI⟩
    · refine R_iload_n dX7_ledger_9 rfl ?_
      refine R_iconst (v := nI 3) dX7_ledger_10 rfl ?_
      refine R_icmp_lt (tgt := 16) dX7_ledger_11 (by decide) (fun h_11 => ?_) (fun h_11 => ?_)
      · have h_6k : 0 ≤ k := by first | exact h_6 | exact Int32.not_lt.mp h_6
        have h_2k : -1 ≤ i := by first | exact h_2 | exact Int32.not_lt.mp h_2
        have h_k : inN k 3 := ⟨h_6k, h_11⟩
        obtain ⟨cw, hcw, rfl⟩ := inN_o (by omega) h_k
        refine R_iload_n dX7_ledger_16 rfl ?_
        refine R_iconst (v := -1) dX7_ledger_17 rfl ?_
        refine R_icmp_ne (tgt := 29) dX7_ledger_18 (by decide) (fun h_25 => ?_) (fun h_25 => ?_)
        · obtain ⟨ci, hci, rfl⟩ := q_gem1 h_2k h_25
          refine R_iload_n dX7_ledger_29 rfl ?_
          refine R_aload_n dX7_ledger_30 rfl ?_
          refine R_getR dX7_ledger_31 lg_RX7_54 (by decide) rfl rfl ?_
          refine R_callV (mc := mX2_length) (As := []) (r := 96) dX7_ledger_34 lm_RX7_252 mv_X2_length rfl (by decide) rfl rfl rfl rfl (Nat.le_of_ble_eq_true rfl) (c_glen hG) ?_
          rintro _ _ ⟨rfl, rfl⟩
          have hgl := hG.2.1
          refine R_icmp_ltN (tgt := 43) dX7_ledger_37 (by decide) (by omega) (by omega) (fun h_44 => ?_) (fun h_44 => ?_)
          · obtain ⟨x, hx1, hx2⟩ : ∃ x, (sG s)[ci]? = some x ∧ (sG s).getD ci (0, 0, 0) = x := ⟨(sG s)[ci], List.getElem?_eq_getElem h_44, by rw [List.getD_eq_getElem?_getD, List.getElem?_eq_getElem h_44]; rfl⟩
            refine R_iload_n dX7_ledger_43 rfl ?_
            refine R_iconst (v := nI 2) dX7_ledger_44 rfl ?_
            refine R_icmp_neN (tgt := 63) dX7_ledger_45 (by decide) (by omega) (by omega) (fun h_52 => ?_) (fun h_52 => ?_)
            · refine R_aload_n dX7_ledger_63 rfl ?_
              refine R_getR dX7_ledger_64 lg_RX7_54 (by decide) rfl rfl ?_
              refine R_iload_n dX7_ledger_67 rfl ?_
              refine R_iload_n dX7_ledger_68 rfl ?_
              refine R_callV (mc := mX2_property) (As := [_, _]) (r := 96) dX7_ledger_69 lm_RX7_253 mv_X2_property rfl (by decide) rfl rfl rfl rfl (Nat.le_of_ble_eq_true rfl) (c_gprop hG hx1 (by omega)) ?_
              rintro _ _ ⟨rfl, rfl⟩
              refine R_ireturn dX7_ledger_72 rfl rfl ?_
              exact ⟨by unfold aLedger; rw [if_pos ⟨h_2k, h_k⟩, if_neg h_25, if_pos (nI_lt h_44 (by omega)), kn_n (by omega), kn_n (by omega), hx2]; have h9 : cw = 0 ∨ cw = 1 := (by omega); rcases h9 with rfl | rfl <;> rfl, hI⟩
            · refine R_aload_n dX7_ledger_48 rfl ?_
              refine R_getR dX7_ledger_49 lg_RX7_54 (by decide) rfl rfl ?_
              refine R_iload_n dX7_ledger_52 rfl ?_
              refine R_iload_n dX7_ledger_53 rfl ?_
              refine R_callV (mc := mX2_property) (As := [_, _]) (r := 96) dX7_ledger_54 lm_RX7_253 mv_X2_property rfl (by decide) rfl rfl rfl rfl (Nat.le_of_ble_eq_true rfl) (c_gprop hG hx1 (by omega)) ?_
              rintro _ _ ⟨rfl, rfl⟩
              refine R_ldc (v := nI 100000) dX7_ledger_57 lc_RX7_110 ?_
              refine R_iadd dX7_ledger_59 ?_
              refine R_goto (tgt := 72) dX7_ledger_60 (by decide) ?_
              refine R_ireturn dX7_ledger_72 rfl rfl ?_
              have h9 : cw = 2 := by omega
              subst h9
              exact ⟨by unfold aLedger; rw [if_pos ⟨h_2k, h_k⟩, if_neg h_25, if_pos (nI_lt h_44 (by omega)), kn_n (by omega), hx2]; try rfl, hI⟩
          · refine R_bipush (v := -4) dX7_ledger_40 rfl ?_
            refine R_ireturn dX7_ledger_42 rfl rfl ?_
            exact ⟨by unfold aLedger; rw [if_pos ⟨h_2k, h_k⟩, if_neg h_25, if_neg (nI_nlt h_44 (by omega))]; try rfl, hI⟩
        · refine R_aload_n dX7_ledger_21 rfl ?_
          refine R_getR dX7_ledger_22 lg_RX7_54 (by decide) rfl rfl ?_
          refine R_callV (mc := mX2_length) (As := []) (r := 96) dX7_ledger_25 lm_RX7_252 mv_X2_length rfl (by decide) rfl rfl rfl rfl (Nat.le_of_ble_eq_true rfl) (c_glen hG) ?_
          rintro _ _ ⟨rfl, rfl⟩
          have hgl := hG.2.1
          refine R_ireturn dX7_ledger_28 rfl rfl ?_
          exact ⟨by unfold aLedger; rw [if_pos ⟨h_2k, h_k⟩, if_pos h_25], hI⟩
      · refine R_iconst (v := -1) dX7_ledger_14 rfl ?_
        refine R_ireturn dX7_ledger_15 rfl rfl ?_
        exact ⟨by unfold aLedger; rw [if_neg (fun h => by first | exact absurd h.1 (Int32.not_le.mpr h_2) | exact absurd h.2.1 (Int32.not_le.mpr h_6) | exact absurd h.2.2 (Int32.not_lt.mpr h_11) | exact absurd h.2.2 h_11)], hI⟩
set_option maxRecDepth 100000 in
set_option maxHeartbeats 4000000 in
theorem o_count {vb : Nat} {M : qMem} {s : sT} (hI : XI vb M s) {k : Int32} : qSem 0 mX7_count [.ref 0, .int (k)] M (fun r N => r = some (.int (aCount s k)) ∧ XI vb N s) := by
  have hX := hI.1
  have hB := hI.2.1
  have hK6 := hB.2.1
  have hY16 := hB.1
  have hZ := hI.2.2.2.1
  refine qSem.of (by decide +kernel) (Nat.le_of_ble_eq_true rfl) (fun w => ?_)
  refine R_ls (L' := [(0, .ref 0), (1, .int (k))]) (qs1 rfl (qs1 rfl qs0)) ?_
  refine R_iload_n dX7_count_0 rfl ?_
  by_cases hsw0 : k = nI 0
  · subst hsw0
    refine R_tableIn (off := 59) (tgt := 60) dX7_count_1 (by decide) (by decide) rfl (by decide) ?_
    refine R_aload_n dX7_count_60 rfl ?_
    refine R_getR dX7_count_61 lg_RX7_19 (by decide) rfl rfl ?_
    refine R_callV (mc := mX3_stations) (As := []) (r := 14) dX7_count_64 lm_RX7_88 mv_X3_stations rfl (by decide) rfl rfl rfl rfl (Nat.le_of_ble_eq_true rfl) c_stations_14 ?_
    rintro _ _ ⟨rfl, rfl⟩
    refine R_top (y := nI (dK (sD s))) hX.2.1 ?_
    refine R_ireturn dX7_count_67 rfl rfl ?_
    exact ⟨by unfold aCount; rw [if_pos (by decide)], hI⟩
  by_cases hsw1 : k = nI 1
  · subst hsw1
    refine R_tableIn (off := 67) (tgt := 68) dX7_count_1 (by decide) (by decide) rfl (by decide) ?_
    refine R_aload_n dX7_count_68 rfl ?_
    refine R_getR dX7_count_69 lg_RX7_19 (by decide) rfl rfl ?_
    refine R_callV (mc := mX3_years) (As := []) (r := 14) dX7_count_72 lm_RX7_177 mv_X3_years rfl (by decide) rfl rfl rfl rfl (Nat.le_of_ble_eq_true rfl) c_years_14 ?_
    rintro _ _ ⟨rfl, rfl⟩
    refine R_top (y := nI (dY (sD s))) hX.1 ?_
    refine R_ireturn dX7_count_75 rfl rfl ?_
    exact ⟨by unfold aCount; rw [if_neg (by decide), if_pos (by decide)], hI⟩
  by_cases hsw2 : k = nI 2
  · subst hsw2
    refine R_tableIn (off := 75) (tgt := 76) dX7_count_1 (by decide) (by decide) rfl (by decide) ?_
    refine R_aload_n dX7_count_76 rfl ?_
    refine R_getR dX7_count_77 lg_RX7_19 (by decide) rfl rfl ?_
    refine R_callV (mc := mX3_breakPenalty) (As := []) (r := 14) dX7_count_80 lm_RX7_130 mv_X3_breakPenalty rfl (by decide) rfl rfl rfl rfl (Nat.le_of_ble_eq_true rfl) c_breakPenalty_14 ?_
    rintro _ _ ⟨rfl, rfl⟩
    refine R_top (y := nI (dR (sD s) 4)) hX.2.2.2.2.2.1 ?_
    refine R_ireturn dX7_count_83 rfl rfl ?_
    exact ⟨by unfold aCount; rw [if_neg (by decide), if_neg (by decide), if_pos (by decide)], hI⟩
  by_cases hsw3 : k = nI 3
  · subst hsw3
    refine R_tableIn (off := 83) (tgt := 84) dX7_count_1 (by decide) (by decide) rfl (by decide) ?_
    refine R_aload_n dX7_count_84 rfl ?_
    refine R_getR dX7_count_85 lg_RX7_19 (by decide) rfl rfl ?_
    refine R_iconst (v := nI 0) dX7_count_88 rfl ?_
    refine R_callV (mc := mX3_ruleOf) (As := [_]) (r := 14) dX7_count_89 lm_RX7_141 mv_X3_ruleOf rfl (by decide) rfl rfl rfl rfl (Nat.le_of_ble_eq_true rfl) (c_ruleOf_14 (by omega)) ?_
    rintro _ _ ⟨rfl, rfl⟩
    refine R_top (y := nI (dR (sD s) 0)) (hX.2.2.2.2.2.2 0 (by omega)) ?_
    refine R_ireturn dX7_count_92 rfl rfl ?_
    exact ⟨by unfold aCount; rw [if_neg (by decide), if_neg (by decide), if_neg (by decide), if_pos (by decide)], hI⟩
  by_cases hsw4 : k = nI 4
  · subst hsw4
    refine R_tableIn (off := 92) (tgt := 93) dX7_count_1 (by decide) (by decide) rfl (by decide) ?_
    refine R_aload_n dX7_count_93 rfl ?_
    refine R_getR dX7_count_94 lg_RX7_19 (by decide) rfl rfl ?_
    refine R_iconst (v := nI 1) dX7_count_97 rfl ?_
    refine R_callV (mc := mX3_ruleOf) (As := [_]) (r := 14) dX7_count_98 lm_RX7_141 mv_X3_ruleOf rfl (by decide) rfl rfl rfl rfl (Nat.le_of_ble_eq_true rfl) (c_ruleOf_14 (by omega)) ?_
    rintro _ _ ⟨rfl, rfl⟩
    refine R_top (y := nI (dR (sD s) 1)) (hX.2.2.2.2.2.2 1 (by omega)) ?_
    refine R_ireturn dX7_count_101 rfl rfl ?_
    exact ⟨by unfold aCount; rw [if_neg (by decide), if_neg (by decide), if_neg (by decide), if_neg (by decide), if_pos (by decide)], hI⟩
  by_cases hsw5 : k = nI 5
  · subst hsw5
    refine R_tableIn (off := 101) (tgt := 102) dX7_count_1 (by decide) (by decide) rfl (by decide) ?_
    refine R_aload_n dX7_count_102 rfl ?_
    refine R_getR dX7_count_103 lg_RX7_19 (by decide) rfl rfl ?_
    refine R_iconst (v := nI 2) dX7_count_106 rfl ?_
    refine R_callV (mc := mX3_ruleOf) (As := [_]) (r := 14) dX7_count_107 lm_RX7_141 mv_X3_ruleOf rfl (by decide) rfl rfl rfl rfl (Nat.le_of_ble_eq_true rfl) (c_ruleOf_14 (by omega)) ?_
    rintro _ _ ⟨rfl, rfl⟩
    refine R_top (y := nI (dR (sD s) 2)) (hX.2.2.2.2.2.2 2 (by omega)) ?_
    refine R_ireturn dX7_count_110 rfl rfl ?_
    exact ⟨by unfold aCount; rw [if_neg (by decide), if_neg (by decide), if_neg (by decide), if_neg (by decide), if_neg (by decide), if_pos (by decide)], hI⟩
  by_cases hsw6 : k = nI 6
  · subst hsw6
    refine R_tableIn (off := 110) (tgt := 111) dX7_count_1 (by decide) (by decide) rfl (by decide) ?_
    refine R_aload_n dX7_count_111 rfl ?_
    refine R_getR dX7_count_112 lg_RX7_19 (by decide) rfl rfl ?_
    refine R_iconst (v := nI 3) dX7_count_115 rfl ?_
    refine R_callV (mc := mX3_ruleOf) (As := [_]) (r := 14) dX7_count_116 lm_RX7_141 mv_X3_ruleOf rfl (by decide) rfl rfl rfl rfl (Nat.le_of_ble_eq_true rfl) (c_ruleOf_14 (by omega)) ?_
    rintro _ _ ⟨rfl, rfl⟩
    refine R_top (y := nI (dR (sD s) 3)) (hX.2.2.2.2.2.2 3 (by omega)) ?_
    refine R_ireturn dX7_count_119 rfl rfl ?_
    exact ⟨by unfold aCount; rw [if_neg (by decide), if_neg (by decide), if_neg (by decide), if_neg (by decide), if_neg (by decide), if_neg (by decide), if_pos (by decide)], hI⟩
  by_cases hsw7 : k = nI 7
  · subst hsw7
    refine R_tableIn (off := 119) (tgt := 120) dX7_count_1 (by decide) (by decide) rfl (by decide) ?_
    refine R_aload_n dX7_count_120 rfl ?_
    refine R_getR dX7_count_121 lg_RX7_19 (by decide) rfl rfl ?_
    refine R_callV (mc := mX3_countPairs) (As := []) (r := 14) dX7_count_124 lm_RX7_280 mv_X3_countPairs rfl (by decide) rfl rfl rfl rfl (Nat.le_of_ble_eq_true rfl) (c_countPairs hX hB) ?_
    rintro _ _ ⟨rfl, rfl⟩
    refine R_ireturn dX7_count_127 rfl rfl ?_
    exact ⟨by unfold aCount; rw [if_neg (by decide), if_neg (by decide), if_neg (by decide), if_neg (by decide), if_neg (by decide), if_neg (by decide), if_neg (by decide), if_pos (by decide)], hI⟩
  by_cases hsw8 : k = nI 8
  · subst hsw8
    refine R_tableIn (off := 127) (tgt := 128) dX7_count_1 (by decide) (by decide) rfl (by decide) ?_
    refine R_aload_n dX7_count_128 rfl ?_
    refine R_getR dX7_count_129 lg_RX7_19 (by decide) rfl rfl ?_
    refine R_callV (mc := mX3_countMissing) (As := []) (r := 14) dX7_count_132 lm_RX7_283 mv_X3_countMissing rfl (by decide) rfl rfl rfl rfl (Nat.le_of_ble_eq_true rfl) (c_countMissing hX hB) ?_
    rintro _ _ ⟨rfl, rfl⟩
    refine R_ireturn dX7_count_135 rfl rfl ?_
    exact ⟨by unfold aCount; rw [if_neg (by decide), if_neg (by decide), if_neg (by decide), if_neg (by decide), if_neg (by decide), if_neg (by decide), if_neg (by decide), if_neg (by decide), if_pos (by decide)], hI⟩
  by_cases hsw9 : k = nI 9
  · subst hsw9
    refine R_tableIn (off := 135) (tgt := 136) dX7_count_1 (by decide) (by decide) rfl (by decide) ?_
    refine R_aload_n dX7_count_136 rfl ?_
    refine R_getR dX7_count_137 lg_RX7_47 (by decide) rfl rfl ?_
    refine R_callV (mc := mX1_length) (As := []) (r := 90) dX7_count_140 lm_RX7_155 mv_X1_length rfl (by decide) rfl rfl rfl rfl (Nat.le_of_ble_eq_true rfl) (c_hlen hI.2.2.2.2.1) ?_
    rintro _ _ ⟨rfl, rfl⟩
    rw [List.length_map]
    refine R_ireturn dX7_count_143 rfl rfl ?_
    exact ⟨by unfold aCount; rw [if_neg (by decide), if_neg (by decide), if_neg (by decide), if_neg (by decide), if_neg (by decide), if_neg (by decide), if_neg (by decide), if_neg (by decide), if_neg (by decide), if_pos (by decide)], hI⟩
  by_cases hsw10 : k = nI 10
  · subst hsw10
    refine R_tableIn (off := 143) (tgt := 144) dX7_count_1 (by decide) (by decide) rfl (by decide) ?_
    refine R_aload_n dX7_count_144 rfl ?_
    refine R_getR dX7_count_145 lg_RX7_12 (by decide) rfl rfl ?_
    refine R_callV (mc := mX4_length) (As := []) (r := 1) dX7_count_148 lm_RX7_80 mv_X4_length rfl (by decide) rfl rfl rfl rfl (Nat.le_of_ble_eq_true rfl) (c_xlen hI.2.2.2.2.2.2.1) ?_
    rintro _ _ ⟨rfl, rfl⟩
    refine R_ireturn dX7_count_151 rfl rfl ?_
    exact ⟨by unfold aCount; rw [if_neg (by decide), if_neg (by decide), if_neg (by decide), if_neg (by decide), if_neg (by decide), if_neg (by decide), if_neg (by decide), if_neg (by decide), if_neg (by decide), if_neg (by decide), if_pos (by decide)], hI⟩
  refine R_tableOut (tgt := 152) dX7_count_1 (q_tout (n := 10) (by decide) (fun k hk => by have h9 : k = 0 ∨ k = 1 ∨ k = 2 ∨ k = 3 ∨ k = 4 ∨ k = 5 ∨ k = 6 ∨ k = 7 ∨ k = 8 ∨ k = 9 ∨ k = 10 := (by omega); rcases h9 with rfl | rfl | rfl | rfl | rfl | rfl | rfl | rfl | rfl | rfl | rfl <;> assumption)) (by decide) ?_
  refine R_iconst (v := -1) dX7_count_152 rfl ?_
  refine R_ireturn dX7_count_153 rfl rfl ?_
  exact ⟨by unfold aCount; rw [if_neg (show ¬ k = 0 from hsw0), if_neg (show ¬ k = 1 from hsw1), if_neg (show ¬ k = 2 from hsw2), if_neg (show ¬ k = 3 from hsw3), if_neg (show ¬ k = 4 from hsw4), if_neg (show ¬ k = 5 from hsw5), if_neg (show ¬ k = 6 from hsw6), if_neg (show ¬ k = 7 from hsw7), if_neg (show ¬ k = 8 from hsw8), if_neg (show ¬ k = 9 from hsw9), if_neg (show ¬ k = 10 from hsw10)]; try rfl, hI⟩
