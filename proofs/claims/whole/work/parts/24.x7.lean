
-- ===== the object under test, as a whole =====
def XV (vb : Nat) (M : qMem) (d : dT) : Prop := (∃ ver, M.1 14 7 = nI ver ∧ ver ≤ vb ∧ (M.1 36 1 = -1 ∨ ∃ cv, cv ≤ ver ∧ M.1 36 1 = nI cv)) ∧ (M.1 36 1 = M.1 14 7 → XCul M d)
/-- the sums of no entries, in all three series -/
def XW (M : qMem) : Prop := XZ M ∧ XZ_a M ∧ XZ_c M
theorem XW.off {M N : qMem} (h : XW M) (e : ∀ o, (o = 28 ∨ o = 29 ∨ o = 104 ∨ o = 105 ∨ o = 109 ∨ o = 110) → N.2 o = M.2 o) : XW N :=
  ⟨⟨by rw [e 28 (by omega)]; exact h.1.1, by rw [e 29 (by omega)]; exact h.1.2⟩, ⟨by rw [e 104 (by omega)]; exact h.2.1.1, by rw [e 105 (by omega)]; exact h.2.1.2⟩, ⟨by rw [e 109 (by omega)]; exact h.2.2.1, by rw [e 110 (by omega)]; exact h.2.2.2⟩⟩
def XI (vb : Nat) (M : qMem) (s : sT) : Prop := XR 14 M (sD s) ∧ dB (sD s) ∧ (4 ≤ dY (sD s) ∧ 2 ≤ dK (sD s)) ∧ XW M ∧ XH M ((sA s).map aEnc) ∧ XL M (sG s) ∧ XT M (sX s) ∧ txB (sX s) ∧ XV vb M (sD s) ∧ HV (sD s, sG s) (sA s).reverse
/-- nothing but the series' and the segmentation's cells -/
def oSc (o : Nat) : Prop := 25 ≤ o ∧ o < 36
theorem XCul.off {M N : qMem} {d : dT} (h : XCul M d) (hK : dK d ≤ 6) (e : ∀ o, 36 ≤ o → o < 90 → N.1 o = M.1 o) : XCul N d :=
  ⟨by rw [e 36 (by omega) (by omega)]; exact h.1, fun i x hi => by rw [e 86 (by omega) (by omega), e 87 (by omega) (by omega), e 88 (by omega) (by omega), e 89 (by omega) (by omega)]; exact h.2.1 i x hi, fun c t hc ht => by rw [e (74 + c) (by omega) (by omega)]; exact h.2.2 c t hc ht⟩
theorem XI.sc {vb : Nat} {M N : qMem} {s : sT} (h : XI vb M s) (hO : qOff oSc M N) (hZ : XZ N) : XI vb N s := by
  obtain ⟨h1, h2, h3, h4, h5, h6, h7, h8, h9, h10⟩ := h
  have e : ∀ o, ¬ (25 ≤ o ∧ o < 36) → N.1 o = M.1 o := fun o ho => (hO o ho).1
  have e2 : ∀ o, ¬ (25 ≤ o ∧ o < 36) → N.2 o = M.2 o := fun o ho => (hO o ho).2
  refine ⟨h1.off h2.2.1 (fun o a b => e o (by omega)), h2, h3, ⟨hZ, ⟨by rw [e2 104 (by omega)]; exact h4.2.1.1, by rw [e2 105 (by omega)]; exact h4.2.1.2⟩, ⟨by rw [e2 109 (by omega)]; exact h4.2.2.1, by rw [e2 110 (by omega)]; exact h4.2.2.2⟩⟩, h5.off (fun o a b => e o (by omega)), h6.off (fun o a b => e o (by omega)), h7.off (e 1 (by omega)) (e 2 (by omega)), h8, ⟨?_, fun hc => ?_⟩, h10⟩
  · rw [e 14 (by omega), e 36 (by omega)]; exact h9.1
  · rw [e 14 (by omega), e 36 (by omega)] at hc
    exact (h9.2 hc).off h2.2.1 (fun o a b => e o (by omega))
theorem XI.sa {vb : Nat} {M N : qMem} {s : sT} (h : XI vb M s) (hO : qOff oSe_a M N) (hZ : XZ_a N) : XI vb N s := by
  obtain ⟨h1, h2, h3, h4, h5, h6, h7, h8, h9, h10⟩ := h
  have e : ∀ o, ¬ (101 ≤ o ∧ o < 106) → N.1 o = M.1 o := fun o ho => (hO o ho).1
  have e2 : ∀ o, ¬ (101 ≤ o ∧ o < 106) → N.2 o = M.2 o := fun o ho => (hO o ho).2
  refine ⟨h1.off h2.2.1 (fun o a b => e o (by omega)), h2, h3, ⟨⟨by rw [e2 28 (by omega)]; exact h4.1.1, by rw [e2 29 (by omega)]; exact h4.1.2⟩, hZ, ⟨by rw [e2 109 (by omega)]; exact h4.2.2.1, by rw [e2 110 (by omega)]; exact h4.2.2.2⟩⟩, h5.off (fun o a b => e o (by omega)), h6.off (fun o a b => e o (by omega)), h7.off (e 1 (by omega)) (e 2 (by omega)), h8, ⟨?_, fun hc => ?_⟩, h10⟩
  · rw [e 14 (by omega), e 36 (by omega)]; exact h9.1
  · rw [e 14 (by omega), e 36 (by omega)] at hc
    exact (h9.2 hc).off h2.2.1 (fun o a b => e o (by omega))
theorem XI.cu {vb : Nat} {M N : qMem} {s : sT} (h : XI vb M s) (hO : qOff oCu M N) (hZ : XZ_c N) (hc : XCul N (sD s)) (h3 : N.1 36 1 = M.1 14 7) : XI vb N s := by
  obtain ⟨h1, h2, h3', h4, h5, h6, h7, h8, h9, h10⟩ := h
  have e : ∀ o, ¬ ((36 ≤ o ∧ o < 90) ∨ (106 ≤ o ∧ o < 117)) → N.1 o = M.1 o := fun o ho => (hO o ho).1
  have e2 : ∀ o, ¬ ((36 ≤ o ∧ o < 90) ∨ (106 ≤ o ∧ o < 117)) → N.2 o = M.2 o := fun o ho => (hO o ho).2
  refine ⟨h1.off h2.2.1 (fun o a b => e o (by omega)), h2, h3', ⟨⟨by rw [e2 28 (by omega)]; exact h4.1.1, by rw [e2 29 (by omega)]; exact h4.1.2⟩, ⟨by rw [e2 104 (by omega)]; exact h4.2.1.1, by rw [e2 105 (by omega)]; exact h4.2.1.2⟩, hZ⟩, h5.off (fun o a b => e o (by omega)), h6.off (fun o a b => e o (by omega)), h7.off (e 1 (by omega)) (e 2 (by omega)), h8, ⟨?_, fun _ => hc⟩, h10⟩
  obtain ⟨ver, v1, v2, v3⟩ := h9.1
  exact ⟨ver, by rw [e 14 (by omega)]; exact v1, v2, Or.inr ⟨ver, Nat.le_refl _, by rw [h3, v1]⟩⟩
theorem qOff.se {M N : qMem} (h : qOff oSe M N) : qOff oSc M N := h.mono (fun o ho => by have h9 : 25 ≤ o ∧ o < 30 := ho; exact (⟨by omega, by omega⟩ : 25 ≤ o ∧ o < 36))
theorem qOff.sg {M N : qMem} (h : qOff oSg M N) : qOff oSc M N := h.mono (fun o ho => by have h9 : 31 ≤ o ∧ o < 36 := ho; exact (⟨by omega, by omega⟩ : 25 ≤ o ∧ o < 36))
theorem kn_n {n : Nat} (h : n < 2147483648) : kn (nI n) = n := nI_clamp h
set_option maxRecDepth 100000 in
set_option maxHeartbeats 4000000 in
theorem c_two {M : qMem} {d : dT} (hX : XR 14 M d) {u v : Int32} : qSem 0 mX7_areTwoStations [.ref 0, .int (u), .int (v)] M (qb (tw d u v) M) := by
  have hK := hX.2.1
  refine qSem.of (by decide +kernel) (Nat.le_of_ble_eq_true rfl) (fun w => ?_)
  refine R_ls (L' := [(0, .ref 0), (1, .int (u)), (2, .int (v))]) (qs1 rfl (qs1 rfl (qs1 rfl qs0))) ?_
  refine R_aload_n dX7_areTwoStations_0 rfl ?_
  refine R_getR dX7_areTwoStations_1 lg_RX7_19 (by decide) rfl rfl ?_
  refine R_iload_n dX7_areTwoStations_4 rfl ?_
  refine R_callV (mc := mX3_hasStation) (As := [_]) (r := 14) dX7_areTwoStations_5 lm_RX7_180 mv_X3_hasStation rfl (by decide) rfl rfl rfl rfl (Nat.le_of_ble_eq_true rfl) c_hasStation ?_
  rintro _ _ ⟨rfl, ⟨rfl, hsu⟩ | ⟨rfl, hsu⟩⟩
  · refine R_if_eqN (tgt := 31) dX7_areTwoStations_8 (by decide) (by omega) (fun h_8 => by exact absurd h_8 (by decide)) (fun h_8 => ?_)
    refine R_aload_n dX7_areTwoStations_11 rfl ?_
    refine R_getR dX7_areTwoStations_12 lg_RX7_19 (by decide) rfl rfl ?_
    refine R_iload_n dX7_areTwoStations_15 rfl ?_
    refine R_callV (mc := mX3_hasStation) (As := [_]) (r := 14) dX7_areTwoStations_16 lm_RX7_180 mv_X3_hasStation rfl (by decide) rfl rfl rfl rfl (Nat.le_of_ble_eq_true rfl) c_hasStation ?_
    rintro _ _ ⟨rfl, ⟨rfl, hsv⟩ | ⟨rfl, hsv⟩⟩
    · refine R_if_eqN (tgt := 31) dX7_areTwoStations_19 (by decide) (by omega) (fun h_19 => by exact absurd h_19 (by decide)) (fun h_19 => ?_)
      refine R_iload_n dX7_areTwoStations_22 rfl ?_
      refine R_iload_n dX7_areTwoStations_23 rfl ?_
      refine R_icmp_eq (tgt := 31) dX7_areTwoStations_24 (by decide) (fun h_24 => ?_) (fun h_24 => ?_)
      · refine R_iconst (v := nI 0) dX7_areTwoStations_31 rfl ?_
        refine R_ireturn dX7_areTwoStations_32 rfl rfl ?_
        refine ⟨rfl, ?_⟩
        rw [hK] at *
        first | exact Or.inl ⟨rfl, hsu, hsv, h_24⟩ | exact Or.inr ⟨rfl, fun h => hsu h.1⟩ | exact Or.inr ⟨rfl, fun h => hsv h.2.1⟩ | exact Or.inr ⟨rfl, fun h => h.2.2 h_24⟩
      · refine R_iconst (v := nI 1) dX7_areTwoStations_27 rfl ?_
        refine R_goto (tgt := 32) dX7_areTwoStations_28 (by decide) ?_
        refine R_ireturn dX7_areTwoStations_32 rfl rfl ?_
        refine ⟨rfl, ?_⟩
        rw [hK] at *
        first | exact Or.inl ⟨rfl, hsu, hsv, h_24⟩ | exact Or.inr ⟨rfl, fun h => hsu h.1⟩ | exact Or.inr ⟨rfl, fun h => hsv h.2.1⟩ | exact Or.inr ⟨rfl, fun h => h.2.2 h_24⟩
    · refine R_if_eqN (tgt := 31) dX7_areTwoStations_19 (by decide) (by omega) (fun h_19 => ?_) (fun h_19 => by exact absurd h_19 (by decide))
      refine R_iconst (v := nI 0) dX7_areTwoStations_31 rfl ?_
      refine R_ireturn dX7_areTwoStations_32 rfl rfl ?_
      refine ⟨rfl, ?_⟩
      rw [hK] at *
      first | exact Or.inl ⟨rfl, hsu, hsv, h_24⟩ | exact Or.inr ⟨rfl, fun h => hsu h.1⟩ | exact Or.inr ⟨rfl, fun h => hsv h.2.1⟩ | exact Or.inr ⟨rfl, fun h => h.2.2 h_24⟩
  · refine R_if_eqN (tgt := 31) dX7_areTwoStations_8 (by decide) (by omega) (fun h_8 => ?_) (fun h_8 => by exact absurd h_8 (by decide))
    refine R_iconst (v := nI 0) dX7_areTwoStations_31 rfl ?_
    refine R_ireturn dX7_areTwoStations_32 rfl rfl ?_
    refine ⟨rfl, ?_⟩
    rw [hK] at *
    first | exact Or.inl ⟨rfl, hsu, hsv, h_24⟩ | exact Or.inr ⟨rfl, fun h => hsu h.1⟩ | exact Or.inr ⟨rfl, fun h => hsv h.2.1⟩ | exact Or.inr ⟨rfl, fun h => h.2.2 h_24⟩
set_option maxRecDepth 100000 in
set_option maxHeartbeats 4000000 in
theorem o_entry {vb : Nat} {M : qMem} {s : sT} (hI : XI vb M s) {u v i : Int32} : qSem 0 mX7_entry [.ref 0, .int (u), .int (v), .int (i)] M (fun r N => r = some (.int (aEntry (sD s) u v i)) ∧ XI vb N s) := by
  have hX := hI.1
  have hB := hI.2.1
  have hK6 := hB.2.1
  have hY16 := hB.1
  have hZ := hI.2.2.2.1
  refine qSem.of (by decide +kernel) (Nat.le_of_ble_eq_true rfl) (fun w => ?_)
  refine R_ls (L' := [(0, .ref 0), (1, .int (u)), (2, .int (v)), (3, .int (i))]) (qs1 rfl (qs1 rfl (qs1 rfl (qs1 rfl qs0)))) ?_
  refine R_aload_n dX7_entry_0 rfl ?_
  refine R_iload_n dX7_entry_1 rfl ?_
  refine R_iload_n dX7_entry_2 rfl ?_
  refine R_callV (mc := mX7_areTwoStations) (As := [_, _]) (r := 0) dX7_entry_3 lm_RX7_186 mv_X7_areTwoStations rfl (by decide) rfl rfl rfl rfl (Nat.le_of_ble_eq_true rfl) (c_two hX) ?_
  rintro _ _ ⟨rfl, ⟨rfl, htw⟩ | ⟨rfl, htw⟩⟩
  · have htw2 := htw
    obtain ⟨⟨cu, hu, rfl⟩, ⟨cv, hv, rfl⟩, hne⟩ : (∃ j, j < dK (sD s) ∧ u = nI j) ∧ (∃ j, j < dK (sD s) ∧ v = nI j) ∧ ¬ u = v := ⟨inN_o (by omega) htw.1, inN_o (by omega) htw.2.1, htw.2.2⟩
    refine R_if_eqN (tgt := 14) dX7_entry_6 (by decide) (by omega) (fun h_6 => by exact absurd h_6 (by decide)) (fun h_6 => ?_)
    refine R_iload_n dX7_entry_9 rfl ?_
    refine R_iconst (v := -1) dX7_entry_10 rfl ?_
    refine R_icmp_ge (tgt := 16) dX7_entry_11 (by decide) (fun h_11 => ?_) (fun h_11 => ?_)
    · refine R_aload_n dX7_entry_16 rfl ?_
      refine R_getR dX7_entry_17 lg_RX7_26 (by decide) rfl rfl ?_
      refine R_aload_n dX7_entry_20 rfl ?_
      refine R_getR dX7_entry_21 lg_RX7_19 (by decide) rfl rfl ?_
      refine R_iload_n dX7_entry_24 rfl ?_
      refine R_iload_n dX7_entry_25 rfl ?_
      refine R_callV (mc := mX6_compare) (As := [_, _, _]) (r := 101) dX7_entry_26 lm_RX7_192 mv_X6_compare rfl (by decide) rfl rfl rfl rfl (Nat.le_of_ble_eq_true rfl) (c_compare_a hX hB hZ.2.1 hu hv) ?_
      rintro _ _ ⟨rfl, hS, hO1⟩
      refine R_iload_n dX7_entry_29 rfl ?_
      refine R_iconst (v := -1) dX7_entry_30 rfl ?_
      refine R_icmp_ne (tgt := 42) dX7_entry_31 (by decide) (fun h_31 => ?_) (fun h_31 => ?_)
      · obtain ⟨ci, hci, rfl⟩ := q_gem1 h_11 h_31
        refine R_iload_n dX7_entry_42 rfl ?_
        refine R_aload_n dX7_entry_43 rfl ?_
        refine R_getR dX7_entry_44 lg_RX7_26 (by decide) rfl rfl ?_
        refine R_callV (mc := mX6_length) (As := []) (r := 101) dX7_entry_47 lm_RX7_196 mv_X6_length rfl (by decide) rfl rfl rfl rfl (Nat.le_of_ble_eq_true rfl) (c_slen_a hS) ?_
        rintro _ _ ⟨rfl, rfl⟩
        have hl16 := hS.2.1
        refine R_icmp_geN (tgt := 67) dX7_entry_50 (by decide) (by omega) (by omega) (fun h_50 => ?_) (fun h_50 => ?_)
        · refine R_bipush (v := -4) dX7_entry_67 rfl ?_
          refine R_ireturn dX7_entry_69 rfl rfl ?_
          exact ⟨by unfold aEntry; rw [if_pos ⟨htw2, h_11⟩, if_neg h_31, kn_n (by omega), kn_n (by omega), if_neg (nI_nlt h_50 (by omega))], (hI.sa hO1 hS.Z)⟩
        · refine R_aload_n dX7_entry_53 rfl ?_
          refine R_getR dX7_entry_54 lg_RX7_26 (by decide) rfl rfl ?_
          refine R_iload_n dX7_entry_57 rfl ?_
          refine R_callV (mc := mX6_entryAt) (As := [_]) (r := 101) dX7_entry_58 lm_RX7_197 mv_X6_entryAt rfl (by decide) rfl rfl rfl rfl (Nat.le_of_ble_eq_true rfl) (c_entryAt_a hS h_50) ?_
          rintro _ _ ⟨rfl, rfl⟩
          refine R_ldc (v := nI 100000) dX7_entry_61 lc_RX7_110 ?_
          refine R_iadd dX7_entry_63 ?_
          refine R_goto (tgt := 69) dX7_entry_64 (by decide) ?_
          refine R_ireturn dX7_entry_69 rfl rfl ?_
          exact ⟨by unfold aEntry; rw [if_pos ⟨htw2, h_11⟩, if_neg h_31, kn_n (by omega), kn_n (by omega), if_pos (nI_lt h_50 (by omega)), kn_n (by omega)], (hI.sa hO1 hS.Z)⟩
      · refine R_aload_n dX7_entry_34 rfl ?_
        refine R_getR dX7_entry_35 lg_RX7_26 (by decide) rfl rfl ?_
        refine R_callV (mc := mX6_length) (As := []) (r := 101) dX7_entry_38 lm_RX7_196 mv_X6_length rfl (by decide) rfl rfl rfl rfl (Nat.le_of_ble_eq_true rfl) (c_slen_a hS) ?_
        rintro _ _ ⟨rfl, rfl⟩
        have hl16 := hS.2.1
        refine R_ireturn dX7_entry_41 rfl rfl ?_
        exact ⟨by unfold aEntry; rw [if_pos ⟨htw2, h_11⟩, if_pos h_31, kn_n (by omega), kn_n (by omega)], (hI.sa hO1 hS.Z)⟩
    · refine R_iconst (v := -1) dX7_entry_14 rfl ?_
      refine R_ireturn dX7_entry_15 rfl rfl ?_
      exact ⟨by unfold aEntry; rw [if_neg (fun h => by first | exact htw h.1 | exact h_11 h.2)], hI⟩
  · refine R_if_eqN (tgt := 14) dX7_entry_6 (by decide) (by omega) (fun h_6 => ?_) (fun h_6 => by exact absurd h_6 (by decide))
    refine R_iconst (v := -1) dX7_entry_14 rfl ?_
    refine R_ireturn dX7_entry_15 rfl rfl ?_
    exact ⟨by unfold aEntry; rw [if_neg (fun h => by first | exact htw h.1 | exact h_11 h.2)], hI⟩
set_option maxRecDepth 100000 in
set_option maxHeartbeats 4000000 in
theorem o_year {vb : Nat} {M : qMem} {s : sT} (hI : XI vb M s) {u v i : Int32} : qSem 0 mX7_year [.ref 0, .int (u), .int (v), .int (i)] M (fun r N => r = some (.int (aYear (sD s) u v i)) ∧ XI vb N s) := by
  have hX := hI.1
  have hB := hI.2.1
  have hK6 := hB.2.1
  have hY16 := hB.1
  have hZ := hI.2.2.2.1
  refine qSem.of (by decide +kernel) (Nat.le_of_ble_eq_true rfl) (fun w => ?_)
  refine R_ls (L' := [(0, .ref 0), (1, .int (u)), (2, .int (v)), (3, .int (i))]) (qs1 rfl (qs1 rfl (qs1 rfl (qs1 rfl qs0)))) ?_
  refine R_aload_n dX7_year_0 rfl ?_
  refine R_iload_n dX7_year_1 rfl ?_
  refine R_iload_n dX7_year_2 rfl ?_
  refine R_callV (mc := mX7_areTwoStations) (As := [_, _]) (r := 0) dX7_year_3 lm_RX7_186 mv_X7_areTwoStations rfl (by decide) rfl rfl rfl rfl (Nat.le_of_ble_eq_true rfl) (c_two hX) ?_
  rintro _ _ ⟨rfl, ⟨rfl, htw⟩ | ⟨rfl, htw⟩⟩
  · have htw2 := htw
    obtain ⟨⟨cu, hu, rfl⟩, ⟨cv, hv, rfl⟩, hne⟩ : (∃ j, j < dK (sD s) ∧ u = nI j) ∧ (∃ j, j < dK (sD s) ∧ v = nI j) ∧ ¬ u = v := ⟨inN_o (by omega) htw.1, inN_o (by omega) htw.2.1, htw.2.2⟩
    refine R_if_eqN (tgt := 13) dX7_year_6 (by decide) (by omega) (fun h_6 => by exact absurd h_6 (by decide)) (fun h_6 => ?_)
    refine R_iload_n dX7_year_9 rfl ?_
    refine R_if_ge (tgt := 15) dX7_year_10 (by decide) (fun h_10 => ?_) (fun h_10 => ?_)
    · have h_10n : ¬ i < 0 := Int32.not_lt.mpr h_10
      have h_10k := h_10n
      obtain ⟨ci, hci, rfl⟩ := q_ge0 h_10n
      refine R_aload_n dX7_year_15 rfl ?_
      refine R_getR dX7_year_16 lg_RX7_26 (by decide) rfl rfl ?_
      refine R_aload_n dX7_year_19 rfl ?_
      refine R_getR dX7_year_20 lg_RX7_19 (by decide) rfl rfl ?_
      refine R_iload_n dX7_year_23 rfl ?_
      refine R_iload_n dX7_year_24 rfl ?_
      refine R_callV (mc := mX6_compare) (As := [_, _, _]) (r := 101) dX7_year_25 lm_RX7_192 mv_X6_compare rfl (by decide) rfl rfl rfl rfl (Nat.le_of_ble_eq_true rfl) (c_compare_a hX hB hZ.2.1 hu hv) ?_
      rintro _ _ ⟨rfl, hS, hO1⟩
      refine R_iload_n dX7_year_28 rfl ?_
      refine R_aload_n dX7_year_29 rfl ?_
      refine R_getR dX7_year_30 lg_RX7_26 (by decide) rfl rfl ?_
      refine R_callV (mc := mX6_length) (As := []) (r := 101) dX7_year_33 lm_RX7_196 mv_X6_length rfl (by decide) rfl rfl rfl rfl (Nat.le_of_ble_eq_true rfl) (c_slen_a hS) ?_
      rintro _ _ ⟨rfl, rfl⟩
      have hl16 := hS.2.1
      refine R_icmp_geN (tgt := 50) dX7_year_36 (by decide) (by omega) (by omega) (fun h_36 => ?_) (fun h_36 => ?_)
      · refine R_bipush (v := -4) dX7_year_50 rfl ?_
        refine R_ireturn dX7_year_52 rfl rfl ?_
        exact ⟨by unfold aYear; rw [if_pos ⟨htw2, h_10k⟩, kn_n (by omega), kn_n (by omega), if_neg (nI_nlt h_36 (by omega))], (hI.sa hO1 hS.Z)⟩
      · refine R_aload_n dX7_year_39 rfl ?_
        refine R_getR dX7_year_40 lg_RX7_26 (by decide) rfl rfl ?_
        refine R_iload_n dX7_year_43 rfl ?_
        refine R_callV (mc := mX6_yearAt) (As := [_]) (r := 101) dX7_year_44 lm_RX7_200 mv_X6_yearAt rfl (by decide) rfl rfl rfl rfl (Nat.le_of_ble_eq_true rfl) (c_yearAt_a hS h_36) ?_
        rintro _ _ ⟨rfl, rfl⟩
        refine R_goto (tgt := 52) dX7_year_47 (by decide) ?_
        refine R_ireturn dX7_year_52 rfl rfl ?_
        exact ⟨by unfold aYear; rw [if_pos ⟨htw2, h_10k⟩, kn_n (by omega), kn_n (by omega), if_pos (nI_lt h_36 (by omega)), kn_n (by omega)], (hI.sa hO1 hS.Z)⟩
    · refine R_iconst (v := -1) dX7_year_13 rfl ?_
      refine R_ireturn dX7_year_14 rfl rfl ?_
      exact ⟨by unfold aYear; rw [if_neg (fun h => by first | exact htw h.1 | exact h_10 (Int32.not_lt.mp h.2))], hI⟩
  · refine R_if_eqN (tgt := 13) dX7_year_6 (by decide) (by omega) (fun h_6 => ?_) (fun h_6 => by exact absurd h_6 (by decide))
    refine R_iconst (v := -1) dX7_year_13 rfl ?_
    refine R_ireturn dX7_year_14 rfl rfl ?_
    exact ⟨by unfold aYear; rw [if_neg (fun h => by first | exact htw h.1 | exact h_10 (Int32.not_lt.mp h.2))], hI⟩
set_option maxRecDepth 100000 in
set_option maxHeartbeats 4000000 in
theorem o_spread {vb : Nat} {M : qMem} {s : sT} (hI : XI vb M s) {u v i j : Int32} : qSem 0 mX7_spread [.ref 0, .int (u), .int (v), .int (i), .int (j)] M (fun r N => r = some (.long (aSpread (sD s) u v i j)) ∧ XI vb N s) := by
  have hX := hI.1
  have hB := hI.2.1
  have hK6 := hB.2.1
  have hY16 := hB.1
  have hZ := hI.2.2.2.1
  refine qSem.of (by decide +kernel) (Nat.le_of_ble_eq_true rfl) (fun w => ?_)
  refine R_ls (L' := [(0, .ref 0), (1, .int (u)), (2, .int (v)), (3, .int (i)), (4, .int (j))]) (qs1 rfl (qs1 rfl (qs1 rfl (qs1 rfl (qs1 rfl qs0))))) ?_
  refine R_aload_n dX7_spread_0 rfl ?_
  refine R_iload_n dX7_spread_1 rfl ?_
  refine R_iload_n dX7_spread_2 rfl ?_
  refine R_callV (mc := mX7_areTwoStations) (As := [_, _]) (r := 0) dX7_spread_3 lm_RX7_186 mv_X7_areTwoStations rfl (by decide) rfl rfl rfl rfl (Nat.le_of_ble_eq_true rfl) (c_two hX) ?_
  rintro _ _ ⟨rfl, ⟨rfl, htw⟩ | ⟨rfl, htw⟩⟩
  · have htw2 := htw
    obtain ⟨⟨cu, hu, rfl⟩, ⟨cv, hv, rfl⟩, hne⟩ : (∃ j, j < dK (sD s) ∧ u = nI j) ∧ (∃ j, j < dK (sD s) ∧ v = nI j) ∧ ¬ u = v := ⟨inN_o (by omega) htw.1, inN_o (by omega) htw.2.1, htw.2.2⟩
    refine R_if_neN (tgt := 13) dX7_spread_6 (by decide) (by omega) (fun h_6 => ?_) (fun h_6 => by exact absurd h_6 (by decide))
    refine R_aload_n dX7_spread_13 rfl ?_
    refine R_getR dX7_spread_14 lg_RX7_26 (by decide) rfl rfl ?_
    refine R_aload_n dX7_spread_17 rfl ?_
    refine R_getR dX7_spread_18 lg_RX7_19 (by decide) rfl rfl ?_
    refine R_iload_n dX7_spread_21 rfl ?_
    refine R_iload_n dX7_spread_22 rfl ?_
    refine R_callV (mc := mX6_compare) (As := [_, _, _]) (r := 101) dX7_spread_23 lm_RX7_192 mv_X6_compare rfl (by decide) rfl rfl rfl rfl (Nat.le_of_ble_eq_true rfl) (c_compare_a hX hB hZ.2.1 hu hv) ?_
    rintro _ _ ⟨rfl, hS, hO1⟩
    refine R_iload_n dX7_spread_26 rfl ?_
    refine R_if_lt (tgt := 48) dX7_spread_27 (by decide) (fun h_27 => ?_) (fun h_27 => ?_)
    · refine R_ldc2 dX7_spread_48 lc_RX7_203 ?_
      refine R_lreturn dX7_spread_51 rfl ?_
      exact ⟨by unfold aSpread; rw [if_pos htw2, kn_n (by omega), kn_n (by omega), if_neg (fun h => by first | exact h.1 h_27 | exact h.2.1 h_33 | exact h_45 h.2.2)], (hI.sa hO1 hS.Z)⟩
    · refine R_iload dX7_spread_30 rfl ?_
      refine R_iload_n dX7_spread_32 rfl ?_
      refine R_icmp_lt (tgt := 48) dX7_spread_33 (by decide) (fun h_33 => ?_) (fun h_33 => ?_)
      · refine R_ldc2 dX7_spread_48 lc_RX7_203 ?_
        refine R_lreturn dX7_spread_51 rfl ?_
        exact ⟨by unfold aSpread; rw [if_pos htw2, kn_n (by omega), kn_n (by omega), if_neg (fun h => by first | exact h.1 h_27 | exact h.2.1 h_33 | exact h_45 h.2.2)], (hI.sa hO1 hS.Z)⟩
      · refine R_iload dX7_spread_36 rfl ?_
        refine R_aload_n dX7_spread_38 rfl ?_
        refine R_getR dX7_spread_39 lg_RX7_26 (by decide) rfl rfl ?_
        refine R_callV (mc := mX6_length) (As := []) (r := 101) dX7_spread_42 lm_RX7_196 mv_X6_length rfl (by decide) rfl rfl rfl rfl (Nat.le_of_ble_eq_true rfl) (c_slen_a hS) ?_
        rintro _ _ ⟨rfl, rfl⟩
        have hl16 := hS.2.1
        refine R_icmp_lt (tgt := 52) dX7_spread_45 (by decide) (fun h_45 => ?_) (fun h_45 => ?_)
        · have k1 := h_27
          have k2 := h_33
          have k3 := h_45
          obtain ⟨ci, hci, rfl⟩ := q_ge0 h_27
          obtain ⟨cj, hcj, rfl⟩ : ∃ q, q < 2147483648 ∧ j = nI q := q_ge0 (fun h => h_33 (Int32.lt_of_lt_of_le h (Int32.not_lt.mp h_27)))
          have l1 := (nI_ltI (by omega) (by omega)).mp h_45
          have l2 := Nat.not_lt.mp (fun z => h_33 ((nI_ltI (by omega) (by omega)).mpr z))
          refine R_aload_n dX7_spread_52 rfl ?_
          refine R_getR dX7_spread_53 lg_RX7_26 (by decide) rfl rfl ?_
          refine R_iload_n dX7_spread_56 rfl ?_
          refine R_iload dX7_spread_57 rfl ?_
          refine R_iconst (v := nI 1) dX7_spread_59 rfl ?_
          refine R_iaddN dX7_spread_60 ?_
          refine R_callV (mc := mX6_scaledSpread) (As := [_, _]) (r := 101) dX7_spread_61 lm_RX7_205 mv_X6_scaledSpread rfl (by decide) rfl rfl rfl rfl (Nat.le_of_ble_eq_true rfl) (c_spread_a hS (by omega) (by omega)) ?_
          rintro _ _ ⟨rfl, rfl⟩
          refine R_lreturn dX7_spread_64 rfl ?_
          exact ⟨by unfold aSpread; rw [if_pos htw2, kn_n (by omega), kn_n (by omega), if_pos ⟨k1, k2, k3⟩, kn_n (by omega), kn_n (by omega)], (hI.sa hO1 hS.Z)⟩
        · refine R_ldc2 dX7_spread_48 lc_RX7_203 ?_
          refine R_lreturn dX7_spread_51 rfl ?_
          exact ⟨by unfold aSpread; rw [if_pos htw2, kn_n (by omega), kn_n (by omega), if_neg (fun h => by first | exact h.1 h_27 | exact h.2.1 h_33 | exact h_45 h.2.2)], (hI.sa hO1 hS.Z)⟩
  · refine R_if_neN (tgt := 13) dX7_spread_6 (by decide) (by omega) (fun h_6 => by exact absurd h_6 (by decide)) (fun h_6 => ?_)
    refine R_ldc2 dX7_spread_9 lc_RX7_203 ?_
    refine R_lreturn dX7_spread_12 rfl ?_
    exact ⟨by unfold aSpread; rw [if_neg htw], hI⟩
set_option maxRecDepth 100000 in
set_option maxHeartbeats 4000000 in
theorem c_segment {vb : Nat} {M : qMem} {s : sT} (hI : XI vb M s) {u v p : Nat} (hu : u < dK (sD s)) (hv : v < dK (sD s)) (hp : p ≤ 99999) : qSem 0 mX7_segment [.ref 0, .int (nI u), .int (nI v), .int (nI p)] M (fun r N => r = none ∧ XS N (ser (sD s) u v) ∧ XG N (ser (sD s) u v) (dR (sD s) 0) p ∧ XI vb N s) := by
  have hX := hI.1
  have hB := hI.2.1
  have hK6 := hB.2.1
  have hY16 := hB.1
  have hZ := hI.2.2.2.1
  refine qSem.of (by decide +kernel) (Nat.le_of_ble_eq_true rfl) (fun w => ?_)
  refine R_ls (L' := [(0, .ref 0), (1, .int (nI u)), (2, .int (nI v)), (3, .int (nI p))]) (qs1 rfl (qs1 rfl (qs1 rfl (qs1 rfl qs0)))) ?_
  refine R_aload_n dX7_segment_0 rfl ?_
  refine R_getR dX7_segment_1 lg_RX7_33 (by decide) rfl rfl ?_
  refine R_aload_n dX7_segment_4 rfl ?_
  refine R_getR dX7_segment_5 lg_RX7_19 (by decide) rfl rfl ?_
  refine R_iload_n dX7_segment_8 rfl ?_
  refine R_iload_n dX7_segment_9 rfl ?_
  refine R_callV (mc := mX5_compare) (As := [_, _, _]) (r := 30) dX7_segment_10 lm_RX7_218 mv_X5_compare rfl (by decide) rfl rfl rfl rfl (Nat.le_of_ble_eq_true rfl) (c_gcompare hX hB hZ.1 hu hv) ?_
  rintro _ _ ⟨rfl, hS, hO1⟩
  have hI1 := hI.sc hO1.se hS.Z
  refine R_aload_n dX7_segment_13 rfl ?_
  refine R_getR dX7_segment_14 lg_RX7_33 (by decide) rfl rfl ?_
  refine R_aload_n dX7_segment_17 rfl ?_
  refine R_getR dX7_segment_18 lg_RX7_19 (by decide) rfl rfl ?_
  refine R_iconst (v := nI 0) dX7_segment_21 rfl ?_
  refine R_callV (mc := mX3_ruleOf) (As := [_]) (r := 14) dX7_segment_22 lm_RX7_141 mv_X3_ruleOf rfl (by decide) rfl rfl rfl rfl (Nat.le_of_ble_eq_true rfl) (c_ruleOf_14 (by omega)) ?_
  rintro _ _ ⟨rfl, rfl⟩
  refine R_top (y := nI (dR (sD s) 0)) (hI1.1.2.2.2.2.2.2 0 (by omega)) ?_
  refine R_iload_n dX7_segment_25 rfl ?_
  refine R_callV (mc := mX5_fit) (As := [_, _]) (r := 30) dX7_segment_26 lm_RX7_219 mv_X5_fit rfl (by decide) rfl rfl rfl rfl (Nat.le_of_ble_eq_true rfl) (c_fit hS (ser_b hB u v) hB.2.2.2.1.1 hB.2.2.2.1.2 hp) ?_
  rintro _ _ ⟨rfl, hG, hO2⟩
  refine R_return dX7_segment_29 rfl ?_
  have hS2 := hS.off (fun o h1 h2 => hO2 o (by unfold oSg; omega))
  exact ⟨rfl, hS2, hG, hI1.sc hO2.sg hS2.Z⟩
set_option maxRecDepth 100000 in
set_option maxHeartbeats 4000000 in
theorem o_split {vb : Nat} {M : qMem} {s : sT} (hI : XI vb M s) {u v i : Int32} : qSem 0 mX7_split [.ref 0, .int (u), .int (v), .int (i)] M (fun r N => r = some (.int (aSplit (sD s) u v i)) ∧ XI vb N s) := by
  have hX := hI.1
  have hB := hI.2.1
  have hK6 := hB.2.1
  have hY16 := hB.1
  have hZ := hI.2.2.2.1
  refine qSem.of (by decide +kernel) (Nat.le_of_ble_eq_true rfl) (fun w => ?_)
  refine R_ls (L' := [(0, .ref 0), (1, .int (u)), (2, .int (v)), (3, .int (i))]) (qs1 rfl (qs1 rfl (qs1 rfl (qs1 rfl qs0)))) ?_
  refine R_aload_n dX7_split_0 rfl ?_
  refine R_iload_n dX7_split_1 rfl ?_
  refine R_iload_n dX7_split_2 rfl ?_
  refine R_callV (mc := mX7_areTwoStations) (As := [_, _]) (r := 0) dX7_split_3 lm_RX7_186 mv_X7_areTwoStations rfl (by decide) rfl rfl rfl rfl (Nat.le_of_ble_eq_true rfl) (c_two hX) ?_
  rintro _ _ ⟨rfl, ⟨rfl, htw⟩ | ⟨rfl, htw⟩⟩
  · have htw2 := htw
    obtain ⟨⟨cu, hu, rfl⟩, ⟨cv, hv, rfl⟩, hne⟩ : (∃ j, j < dK (sD s) ∧ u = nI j) ∧ (∃ j, j < dK (sD s) ∧ v = nI j) ∧ ¬ u = v := ⟨inN_o (by omega) htw.1, inN_o (by omega) htw.2.1, htw.2.2⟩
    refine R_if_eqN (tgt := 14) dX7_split_6 (by decide) (by omega) (fun h_6 => by exact absurd h_6 (by decide)) (fun h_6 => ?_)
    refine R_iload_n dX7_split_9 rfl ?_
    refine R_iconst (v := -1) dX7_split_10 rfl ?_
    refine R_icmp_ge (tgt := 16) dX7_split_11 (by decide) (fun h_11 => ?_) (fun h_11 => ?_)
    · refine R_aload_n dX7_split_16 rfl ?_
      refine R_iload_n dX7_split_17 rfl ?_
      refine R_iload_n dX7_split_18 rfl ?_
      refine R_aload_n dX7_split_19 rfl ?_
      refine R_getR dX7_split_20 lg_RX7_19 (by decide) rfl rfl ?_
      refine R_callV (mc := mX3_breakPenalty) (As := []) (r := 14) dX7_split_23 lm_RX7_130 mv_X3_breakPenalty rfl (by decide) rfl rfl rfl rfl (Nat.le_of_ble_eq_true rfl) c_breakPenalty_14 ?_
      rintro _ _ ⟨rfl, rfl⟩
      refine R_top (y := nI (dR (sD s) 4)) hX.2.2.2.2.2.1 ?_
      refine R_callV (mc := mX7_segment) (As := [_, _, _]) (r := 0) dX7_split_26 lm_RX7_209 mv_X7_segment rfl (by decide) rfl rfl rfl rfl (Nat.le_of_ble_eq_true rfl) (c_segment hI hu hv hB.2.2.2.2.2.2.2) ?_
      rintro _ _ ⟨rfl, hS, hG, hI2⟩
      have hl16 := hS.2.1
      refine R_iload_n dX7_split_29 rfl ?_
      refine R_iconst (v := -1) dX7_split_30 rfl ?_
      refine R_icmp_ne (tgt := 42) dX7_split_31 (by decide) (fun h_31 => ?_) (fun h_31 => ?_)
      · obtain ⟨ci, hci, rfl⟩ := q_gem1 h_11 h_31
        refine R_iload_n dX7_split_42 rfl ?_
        refine R_aload_n dX7_split_43 rfl ?_
        refine R_getR dX7_split_44 lg_RX7_33 (by decide) rfl rfl ?_
        refine R_callV (mc := mX5_breakCount) (As := []) (r := 30) dX7_split_47 lm_RX7_212 mv_X5_breakCount rfl (by decide) rfl rfl rfl rfl (Nat.le_of_ble_eq_true rfl) (c_bcount hG) ?_
        rintro _ _ ⟨rfl, rfl⟩
        refine R_top (y := nI (bN (sD s) cu cv)) rfl ?_
        have hb15 := bN_le (sD s) cu cv
        refine R_icmp_geN (tgt := 64) dX7_split_50 (by decide) (by omega) (by omega) (fun h_50 => ?_) (fun h_50 => ?_)
        · refine R_bipush (v := -4) dX7_split_64 rfl ?_
          refine R_ireturn dX7_split_66 rfl rfl ?_
          exact ⟨by unfold aSplit; rw [if_pos ⟨htw2, h_11⟩, if_neg h_31, kn_n (by omega), kn_n (by omega), if_neg (nI_nlt h_50 (by omega))], hI2⟩
        · refine R_aload_n dX7_split_53 rfl ?_
          refine R_getR dX7_split_54 lg_RX7_33 (by decide) rfl rfl ?_
          refine R_iload_n dX7_split_57 rfl ?_
          refine R_callV (mc := mX5_breakYear) (As := [_]) (r := 30) dX7_split_58 lm_RX7_215 mv_X5_breakYear rfl (by decide) rfl rfl rfl rfl (Nat.le_of_ble_eq_true rfl) (c_byear hG hS hB.2.2.2.1.1 h_50) ?_
          rintro _ _ ⟨rfl, rfl⟩
          refine R_goto (tgt := 66) dX7_split_61 (by decide) ?_
          refine R_ireturn dX7_split_66 rfl rfl ?_
          exact ⟨by unfold aSplit; rw [if_pos ⟨htw2, h_11⟩, if_neg h_31, kn_n (by omega), kn_n (by omega), if_pos (nI_lt h_50 (by omega)), kn_n (by omega)]; rfl, hI2⟩
      · refine R_aload_n dX7_split_34 rfl ?_
        refine R_getR dX7_split_35 lg_RX7_33 (by decide) rfl rfl ?_
        refine R_callV (mc := mX5_breakCount) (As := []) (r := 30) dX7_split_38 lm_RX7_212 mv_X5_breakCount rfl (by decide) rfl rfl rfl rfl (Nat.le_of_ble_eq_true rfl) (c_bcount hG) ?_
        rintro _ _ ⟨rfl, rfl⟩
        refine R_top (y := nI (bN (sD s) cu cv)) rfl ?_
        have hb15 := bN_le (sD s) cu cv
        refine R_ireturn dX7_split_41 rfl rfl ?_
        exact ⟨by unfold aSplit; rw [if_pos ⟨htw2, h_11⟩, if_pos h_31, kn_n (by omega), kn_n (by omega)], hI2⟩
    · refine R_iconst (v := -1) dX7_split_14 rfl ?_
      refine R_ireturn dX7_split_15 rfl rfl ?_
      exact ⟨by unfold aSplit; rw [if_neg (fun h => by first | exact htw h.1 | exact h_11 h.2)], hI⟩
  · refine R_if_eqN (tgt := 14) dX7_split_6 (by decide) (by omega) (fun h_6 => ?_) (fun h_6 => by exact absurd h_6 (by decide))
    refine R_iconst (v := -1) dX7_split_14 rfl ?_
    refine R_ireturn dX7_split_15 rfl rfl ?_
    exact ⟨by unfold aSplit; rw [if_neg (fun h => by first | exact htw h.1 | exact h_11 h.2)], hI⟩
set_option maxRecDepth 100000 in
set_option maxHeartbeats 4000000 in
theorem o_cost {vb : Nat} {M : qMem} {s : sT} (hI : XI vb M s) {u v : Int32} : qSem 0 mX7_cost [.ref 0, .int (u), .int (v)] M (fun r N => r = some (.long (aCost (sD s) u v)) ∧ XI vb N s) := by
  have hX := hI.1
  have hB := hI.2.1
  have hK6 := hB.2.1
  have hY16 := hB.1
  have hZ := hI.2.2.2.1
  refine qSem.of (by decide +kernel) (Nat.le_of_ble_eq_true rfl) (fun w => ?_)
  refine R_ls (L' := [(0, .ref 0), (1, .int (u)), (2, .int (v))]) (qs1 rfl (qs1 rfl (qs1 rfl qs0))) ?_
  refine R_aload_n dX7_cost_0 rfl ?_
  refine R_iload_n dX7_cost_1 rfl ?_
  refine R_iload_n dX7_cost_2 rfl ?_
  refine R_callV (mc := mX7_areTwoStations) (As := [_, _]) (r := 0) dX7_cost_3 lm_RX7_186 mv_X7_areTwoStations rfl (by decide) rfl rfl rfl rfl (Nat.le_of_ble_eq_true rfl) (c_two hX) ?_
  rintro _ _ ⟨rfl, ⟨rfl, htw⟩ | ⟨rfl, htw⟩⟩
  · have htw2 := htw
    obtain ⟨⟨cu, hu, rfl⟩, ⟨cv, hv, rfl⟩, hne⟩ : (∃ j, j < dK (sD s) ∧ u = nI j) ∧ (∃ j, j < dK (sD s) ∧ v = nI j) ∧ ¬ u = v := ⟨inN_o (by omega) htw.1, inN_o (by omega) htw.2.1, htw.2.2⟩
    refine R_if_neN (tgt := 13) dX7_cost_6 (by decide) (by omega) (fun h_6 => ?_) (fun h_6 => by exact absurd h_6 (by decide))
    refine R_aload_n dX7_cost_13 rfl ?_
    refine R_iload_n dX7_cost_14 rfl ?_
    refine R_iload_n dX7_cost_15 rfl ?_
    refine R_aload_n dX7_cost_16 rfl ?_
    refine R_getR dX7_cost_17 lg_RX7_19 (by decide) rfl rfl ?_
    refine R_callV (mc := mX3_breakPenalty) (As := []) (r := 14) dX7_cost_20 lm_RX7_130 mv_X3_breakPenalty rfl (by decide) rfl rfl rfl rfl (Nat.le_of_ble_eq_true rfl) c_breakPenalty_14 ?_
    rintro _ _ ⟨rfl, rfl⟩
    refine R_top (y := nI (dR (sD s) 4)) hX.2.2.2.2.2.1 ?_
    refine R_callV (mc := mX7_segment) (As := [_, _, _]) (r := 0) dX7_cost_23 lm_RX7_209 mv_X7_segment rfl (by decide) rfl rfl rfl rfl (Nat.le_of_ble_eq_true rfl) (c_segment hI hu hv hB.2.2.2.2.2.2.2) ?_
    rintro _ _ ⟨rfl, hS, hG, hI2⟩
    have hl16 := hS.2.1
    refine R_aload_n dX7_cost_26 rfl ?_
    refine R_getR dX7_cost_27 lg_RX7_33 (by decide) rfl rfl ?_
    refine R_callV (mc := mX5_scaledCost) (As := []) (r := 30) dX7_cost_30 lm_RX7_222 mv_X5_scaledCost rfl (by decide) rfl rfl rfl rfl (Nat.le_of_ble_eq_true rfl) (c_cost hG) ?_
    rintro _ _ ⟨x, rfl, rfl, hx⟩
    refine R_lreturn dX7_cost_33 rfl ?_
    exact ⟨by unfold aCost; rw [if_pos htw2, kn_n (by omega), kn_n (by omega)]; congr 2; rw [j_eq x, hx]; rfl, hI2⟩
  · refine R_if_neN (tgt := 13) dX7_cost_6 (by decide) (by omega) (fun h_6 => by exact absurd h_6 (by decide)) (fun h_6 => ?_)
    refine R_ldc2 dX7_cost_9 lc_RX7_203 ?_
    refine R_lreturn dX7_cost_12 rfl ?_
    exact ⟨by unfold aCost; rw [if_neg htw], hI⟩
set_option maxRecDepth 100000 in
set_option maxHeartbeats 4000000 in
theorem c_isPen {M : qMem} {p : Int32} : qSem 0 mX7_isPenalty [.int (p)] M (qb (isPn p = true) M) := by
  refine qSem.of (by decide +kernel) (Nat.le_of_ble_eq_true rfl) (fun w => ?_)
  refine R_ls (L' := [(0, .int (p))]) (qs1 rfl qs0) ?_
  refine R_iload_n dX7_isPenalty_0 rfl ?_
  refine R_if_lt (tgt := 14) dX7_isPenalty_1 (by decide) (fun h_1 => ?_) (fun h_1 => ?_)
  · refine R_iconst (v := nI 0) dX7_isPenalty_14 rfl ?_
    refine R_ireturn dX7_isPenalty_15 rfl rfl ?_
    refine ⟨rfl, ?_⟩
    unfold isPn
    rw [Bool.and_eq_true, decide_eq_true_eq, decide_eq_true_eq]
    first | exact Or.inl ⟨rfl, Int32.not_lt.mp (by assumption), Int32.not_lt.mp (by assumption)⟩ | exact Or.inr ⟨rfl, fun h => absurd h.1 (Int32.not_le.mpr (by assumption))⟩ | exact Or.inr ⟨rfl, fun h => absurd h.2 (Int32.not_le.mpr (by assumption))⟩
  · refine R_iload_n dX7_isPenalty_4 rfl ?_
    refine R_ldc (v := nI 99999) dX7_isPenalty_5 lc_RX7_137 ?_
    refine R_top (y := 99999) rfl ?_
    refine R_icmp_gt (tgt := 14) dX7_isPenalty_7 (by decide) (fun h_7 => ?_) (fun h_7 => ?_)
    · refine R_iconst (v := nI 0) dX7_isPenalty_14 rfl ?_
      refine R_ireturn dX7_isPenalty_15 rfl rfl ?_
      refine ⟨rfl, ?_⟩
      unfold isPn
      rw [Bool.and_eq_true, decide_eq_true_eq, decide_eq_true_eq]
      first | exact Or.inl ⟨rfl, Int32.not_lt.mp (by assumption), Int32.not_lt.mp (by assumption)⟩ | exact Or.inr ⟨rfl, fun h => absurd h.1 (Int32.not_le.mpr (by assumption))⟩ | exact Or.inr ⟨rfl, fun h => absurd h.2 (Int32.not_le.mpr (by assumption))⟩
    · refine R_iconst (v := nI 1) dX7_isPenalty_10 rfl ?_
      refine R_goto (tgt := 15) dX7_isPenalty_11 (by decide) ?_
      refine R_ireturn dX7_isPenalty_15 rfl rfl ?_
      refine ⟨rfl, ?_⟩
      unfold isPn
      rw [Bool.and_eq_true, decide_eq_true_eq, decide_eq_true_eq]
      first | exact Or.inl ⟨rfl, Int32.not_lt.mp (by assumption), Int32.not_lt.mp (by assumption)⟩ | exact Or.inr ⟨rfl, fun h => absurd h.1 (Int32.not_le.mpr (by assumption))⟩ | exact Or.inr ⟨rfl, fun h => absurd h.2 (Int32.not_le.mpr (by assumption))⟩

theorem isPn_o {p : Int32} (h : isPn p = true) : ∃ q, q ≤ 99999 ∧ p = nI q := by
  unfold isPn at h
  rw [Bool.and_eq_true, decide_eq_true_eq, decide_eq_true_eq] at h
  exact nI_of2 (M := 99999) (n := 99999) (by decide) (Int32.not_lt.mpr h.1) h.2
set_option maxRecDepth 100000 in
set_option maxHeartbeats 4000000 in
theorem o_breaks {vb : Nat} {M : qMem} {s : sT} (hI : XI vb M s) {u v p : Int32} : qSem 0 mX7_breaks [.ref 0, .int (u), .int (v), .int (p)] M (fun r N => r = some (.int (aBreaks (sD s) u v p)) ∧ XI vb N s) := by
  have hX := hI.1
  have hB := hI.2.1
  have hK6 := hB.2.1
  have hY16 := hB.1
  have hZ := hI.2.2.2.1
  refine qSem.of (by decide +kernel) (Nat.le_of_ble_eq_true rfl) (fun w => ?_)
  refine R_ls (L' := [(0, .ref 0), (1, .int (u)), (2, .int (v)), (3, .int (p))]) (qs1 rfl (qs1 rfl (qs1 rfl (qs1 rfl qs0)))) ?_
  refine R_aload_n dX7_breaks_0 rfl ?_
  refine R_iload_n dX7_breaks_1 rfl ?_
  refine R_iload_n dX7_breaks_2 rfl ?_
  refine R_callV (mc := mX7_areTwoStations) (As := [_, _]) (r := 0) dX7_breaks_3 lm_RX7_186 mv_X7_areTwoStations rfl (by decide) rfl rfl rfl rfl (Nat.le_of_ble_eq_true rfl) (c_two hX) ?_
  rintro _ _ ⟨rfl, ⟨rfl, htw⟩ | ⟨rfl, htw⟩⟩
  · have htw2 := htw
    obtain ⟨⟨cu, hu, rfl⟩, ⟨cv, hv, rfl⟩, hne⟩ : (∃ j, j < dK (sD s) ∧ u = nI j) ∧ (∃ j, j < dK (sD s) ∧ v = nI j) ∧ ¬ u = v := ⟨inN_o (by omega) htw.1, inN_o (by omega) htw.2.1, htw.2.2⟩
    refine R_if_eqN (tgt := 16) dX7_breaks_6 (by decide) (by omega) (fun h_6 => by exact absurd h_6 (by decide)) (fun h_6 => ?_)
    refine R_iload_n dX7_breaks_9 rfl ?_
    refine R_callS (mc := mX7_isPenalty) (As := [_]) dX7_breaks_10 lm_RX7_127 mv_X7_isPenalty rfl rfl rfl (Nat.le_of_ble_eq_true rfl) c_isPen ?_
    rintro _ _ ⟨rfl, ⟨rfl, hp⟩ | ⟨rfl, hp⟩⟩
    · have hp2 := hp
      obtain ⟨q, hq, rfl⟩ := isPn_o hp
      refine R_if_neN (tgt := 18) dX7_breaks_13 (by decide) (by omega) (fun h_13 => ?_) (fun h_13 => by exact absurd h_13 (by decide))
      refine R_aload_n dX7_breaks_18 rfl ?_
      refine R_iload_n dX7_breaks_19 rfl ?_
      refine R_iload_n dX7_breaks_20 rfl ?_
      refine R_iload_n dX7_breaks_21 rfl ?_
      refine R_callV (mc := mX7_segment) (As := [_, _, _]) (r := 0) dX7_breaks_22 lm_RX7_209 mv_X7_segment rfl (by decide) rfl rfl rfl rfl (Nat.le_of_ble_eq_true rfl) (c_segment hI hu hv hq) ?_
      rintro _ _ ⟨rfl, hS, hG, hI2⟩
      have hl16 := hS.2.1
      refine R_aload_n dX7_breaks_25 rfl ?_
      refine R_getR dX7_breaks_26 lg_RX7_33 (by decide) rfl rfl ?_
      refine R_callV (mc := mX5_breakCount) (As := []) (r := 30) dX7_breaks_29 lm_RX7_212 mv_X5_breakCount rfl (by decide) rfl rfl rfl rfl (Nat.le_of_ble_eq_true rfl) (c_bcount hG) ?_
      rintro _ _ ⟨rfl, rfl⟩
      refine R_ireturn dX7_breaks_32 rfl rfl ?_
      exact ⟨by unfold aBreaks; rw [if_pos ⟨htw2, hp2⟩, kn_n (by omega), kn_n (by omega), kn_n (by omega)], hI2⟩
    · refine R_if_neN (tgt := 18) dX7_breaks_13 (by decide) (by omega) (fun h_13 => by exact absurd h_13 (by decide)) (fun h_13 => ?_)
      refine R_iconst (v := -1) dX7_breaks_16 rfl ?_
      refine R_ireturn dX7_breaks_17 rfl rfl ?_
      exact ⟨by unfold aBreaks; rw [if_neg (fun h => by first | exact htw h.1 | exact hp h.2)], hI⟩
  · refine R_if_eqN (tgt := 16) dX7_breaks_6 (by decide) (by omega) (fun h_6 => ?_) (fun h_6 => by exact absurd h_6 (by decide))
    refine R_iconst (v := -1) dX7_breaks_16 rfl ?_
    refine R_ireturn dX7_breaks_17 rfl rfl ?_
    exact ⟨by unfold aBreaks; rw [if_neg (fun h => by first | exact htw h.1 | exact hp h.2)], hI⟩

theorem spL_of {l : List (Nat × Int32)} {R k : Nat} {x : Int64} (h : spA l R k x) : x = spL l R k := by
  unfold spA at h; unfold spL
  cases e : rst l.length R (fz l) k 0 with
  | none => rw [e] at h; exact h
  | some s => rw [e] at h; have h : x.toInt = s := h; rw [j_eq x, h]
set_option maxRecDepth 100000 in
set_option maxHeartbeats 4000000 in
theorem o_spreads {vb : Nat} {M : qMem} {s : sT} (hI : XI vb M s) {u v k : Int32} : qSem 0 mX7_spreads [.ref 0, .int (u), .int (v), .int (k)] M (fun r N => r = some (.long (aSpreads (sD s) u v k)) ∧ XI vb N s) := by
  have hX := hI.1
  have hB := hI.2.1
  have hK6 := hB.2.1
  have hY16 := hB.1
  have hZ := hI.2.2.2.1
  refine qSem.of (by decide +kernel) (Nat.le_of_ble_eq_true rfl) (fun w => ?_)
  refine R_ls (L' := [(0, .ref 0), (1, .int (u)), (2, .int (v)), (3, .int (k))]) (qs1 rfl (qs1 rfl (qs1 rfl (qs1 rfl qs0)))) ?_
  refine R_aload_n dX7_spreads_0 rfl ?_
  refine R_iload_n dX7_spreads_1 rfl ?_
  refine R_iload_n dX7_spreads_2 rfl ?_
  refine R_callV (mc := mX7_areTwoStations) (As := [_, _]) (r := 0) dX7_spreads_3 lm_RX7_186 mv_X7_areTwoStations rfl (by decide) rfl rfl rfl rfl (Nat.le_of_ble_eq_true rfl) (c_two hX) ?_
  rintro _ _ ⟨rfl, ⟨rfl, htw⟩ | ⟨rfl, htw⟩⟩
  · have htw2 := htw
    obtain ⟨⟨cu, hu, rfl⟩, ⟨cv, hv, rfl⟩, hne⟩ : (∃ j, j < dK (sD s) ∧ u = nI j) ∧ (∃ j, j < dK (sD s) ∧ v = nI j) ∧ ¬ u = v := ⟨inN_o (by omega) htw.1, inN_o (by omega) htw.2.1, htw.2.2⟩
    refine R_if_eqN (tgt := 13) dX7_spreads_6 (by decide) (by omega) (fun h_6 => by exact absurd h_6 (by decide)) (fun h_6 => ?_)
    refine R_iload_n dX7_spreads_9 rfl ?_
    refine R_if_ge (tgt := 17) dX7_spreads_10 (by decide) (fun h_10 => ?_) (fun h_10 => ?_)
    · have h_10k : ¬ k < 0 := Int32.not_lt.mpr h_10
      have h_10n := h_10k
      obtain ⟨c3, hck, rfl⟩ := q_ge0 h_10n
      refine R_aload_n dX7_spreads_17 rfl ?_
      refine R_getR dX7_spreads_18 lg_RX7_33 (by decide) rfl rfl ?_
      refine R_aload_n dX7_spreads_21 rfl ?_
      refine R_getR dX7_spreads_22 lg_RX7_19 (by decide) rfl rfl ?_
      refine R_iload_n dX7_spreads_25 rfl ?_
      refine R_iload_n dX7_spreads_26 rfl ?_
      refine R_callV (mc := mX5_compare) (As := [_, _, _]) (r := 30) dX7_spreads_27 lm_RX7_218 mv_X5_compare rfl (by decide) rfl rfl rfl rfl (Nat.le_of_ble_eq_true rfl) (c_gcompare hX hB hZ.1 hu hv) ?_
      rintro _ _ ⟨rfl, hS, hO1⟩
      have hI1 := hI.sc hO1.se hS.Z
      refine R_aload_n dX7_spreads_30 rfl ?_
      refine R_getR dX7_spreads_31 lg_RX7_33 (by decide) rfl rfl ?_
      refine R_aload_n dX7_spreads_34 rfl ?_
      refine R_getR dX7_spreads_35 lg_RX7_19 (by decide) rfl rfl ?_
      refine R_iconst (v := nI 0) dX7_spreads_38 rfl ?_
      refine R_callV (mc := mX3_ruleOf) (As := [_]) (r := 14) dX7_spreads_39 lm_RX7_141 mv_X3_ruleOf rfl (by decide) rfl rfl rfl rfl (Nat.le_of_ble_eq_true rfl) (c_ruleOf_14 (by omega)) ?_
      rintro _ _ ⟨rfl, rfl⟩
      refine R_top (y := nI (dR (sD s) 0)) (hI1.1.2.2.2.2.2.2 0 (by omega)) ?_
      refine R_iload_n dX7_spreads_42 rfl ?_
      refine R_callV (mc := mX5_scaledSpreads) (As := [_, _]) (r := 30) dX7_spreads_43 lm_RX7_226 mv_X5_scaledSpreads rfl (by decide) rfl rfl rfl rfl (Nat.le_of_ble_eq_true rfl) (c_sp hS (ser_b hB cu cv) hB.2.2.2.1.1 hB.2.2.2.1.2 hck) ?_
      rintro _ _ ⟨⟨x, rfl, hx⟩, hO2⟩
      refine R_lreturn dX7_spreads_46 rfl ?_
      exact ⟨by unfold aSpreads; rw [if_pos ⟨htw2, h_10k⟩, kn_n (by omega), kn_n (by omega), kn_n (by omega), ← spL_of hx], hI1.sc hO2.sg (hS.off (fun o h1 h2 => hO2 o (by unfold oSg; omega))).Z⟩
    · refine R_ldc2 dX7_spreads_13 lc_RX7_203 ?_
      refine R_lreturn dX7_spreads_16 rfl ?_
      exact ⟨by unfold aSpreads; rw [if_neg (fun h => by first | exact htw h.1 | exact h_10 (Int32.not_lt.mp h.2))], hI⟩
  · refine R_if_eqN (tgt := 13) dX7_spreads_6 (by decide) (by omega) (fun h_6 => ?_) (fun h_6 => by exact absurd h_6 (by decide))
    refine R_ldc2 dX7_spreads_13 lc_RX7_203 ?_
    refine R_lreturn dX7_spreads_16 rfl ?_
    exact ⟨by unfold aSpreads; rw [if_neg (fun h => by first | exact htw h.1 | exact h_10 (Int32.not_lt.mp h.2))], hI⟩

theorem bkN_mono {l : List (Nat × Int32)} {R p q : Nat} (h : p ≤ q) : bkN l R q ≤ bkN l R p := bk_mono l.length R (fz l) (by unfold sP; omega) (Or.inl rfl)
theorem lst_of {l : List (Nat × Int32)} {R k t : Nat} (h1 : ∀ p, p < t → k < bkN l R p) (h2 : ∀ p, t ≤ p → p ≤ 99999 → bkN l R p ≤ k) (ht : t ≤ 100000) : lstF l R k = t := by
  unfold lstF
  rcases Nat.lt_or_ge t 100000 with q | q
  · exact srch_first (Nat.zero_le _) (by omega) (by simp; exact h2 t (Nat.le_refl _) (by omega)) (fun a _ ha => by simp; exact h1 a ha)
  · have e : t = 100000 := by omega
    subst e
    have key : ∀ c lo, lo + c = 100000 → srch (fun p => decide (bkN l R p ≤ k)) lo c = 100000 := by
      intro c
      induction c with
      | zero => intro lo h; unfold srch; omega
      | succ c ih =>
        intro lo h
        unfold srch
        rw [if_neg (by have := h1 lo (by omega); simp; omega)]
        exact ih (lo + 1) (by omega)
    exact key 100000 0 rfl

theorem q_tz {t z : Nat} (h : 1 ≤ z) : nI t - nI 1 + nI z = nI (t + z - 1) := by
  have e : t + z = t + z - 1 + 1 := by omega
  rw [Int32.sub_eq_add_neg, Int32.add_assoc, Int32.add_comm (-nI 1), ← Int32.add_assoc, ← Int32.sub_eq_add_neg, nI_add, e, ← nI_add (t + z - 1) 1, Int32.add_sub_cancel, Nat.add_sub_cancel]
theorem q_tz2 {t z : Nat} (h : 1 ≤ z) : nI (t + z - 1) = nI (t + z) - nI 1 := by
  have e : nI (t + z) = nI (t + z - 1) + nI 1 := by rw [nI_add]; congr 1; omega
  rw [e, Int32.add_sub_cancel]
theorem q_t99 {t : Nat} (h : t ≤ 100000) : nI t - nI 1 < nI 99999 ↔ t < 100000 := by
  cases t with
  | zero => exact ⟨fun _ => by omega, fun _ => by decide⟩
  | succ n => rw [← nI_add, Int32.add_sub_cancel, nI_ltI (by omega) (by omega)]; omega
set_option maxRecDepth 100000 in
set_option maxHeartbeats 4000000 in
theorem l_least {w : qWT} {vb : Nat} {M : qMem} {s : sT} (hI : XI vb M s) {cu cv c3 : Nat} (hu : cu < dK (sD s)) (hv : cv < dK (sD s)) (h3 : c3 < 2147483648) : ∀ (n : Nat) (t : Nat) (K : qMem), (n ≤ 17) → (t ≤ 100000) → (XI vb K s) → (XS K (ser (sD s) cu cv)) → (∀ p, p < t → c3 < bkN (ser (sD s) cu cv) (dR (sD s) 0) p) → (∀ p, t + 2 ^ n ≤ p + 1 → p ≤ 99999 → bkN (ser (sD s) cu cv) (dR (sD s) 0) p ≤ c3) → qRW 0 w mX7_least 35 [(0, .ref 0), (3, .int (nI c3)), (4, .int (nI t - nI 1)), (5, .int (nI (2 ^ n / 2)))] [] K (fun r N => r = some (.int (if lstF (ser (sD s) cu cv) (dR (sD s) 0) c3 < 100000 then nI (lstF (ser (sD s) cu cv) (dR (sD s) 0) c3) else -4)) ∧ XI vb N s) := by
  intro n
  induction n with
  | zero =>
    intro t K hn ht hIK hS hlow hhigh
    have hst := lst_of hlow (fun p h1 h2 => hhigh p (by omega) h2) ht
    refine R_iload dX7_least_35 rfl ?_
    refine R_if_leN (tgt := 100) dX7_least_37 (by decide) (by omega) (fun h_37 => ?_) (fun h_37 => by exact absurd h_37 (by decide))
    refine R_iload dX7_least_100 rfl ?_
    refine R_ldc (v := nI 99999) dX7_least_102 lc_RX7_137 ?_
    refine R_icmp_ge (tgt := 114) dX7_least_104 (by decide) (fun h_104 => ?_) (fun h_104 => ?_)
    · refine R_bipush (v := -4) dX7_least_114 rfl ?_
      refine R_ireturn dX7_least_116 rfl rfl ?_
      exact ⟨by rw [hst, if_neg (fun h => absurd ((q_t99 ht).mpr h) (Int32.not_lt.mpr h_104))], hIK⟩
    · refine R_iload dX7_least_107 rfl ?_
      refine R_iconst (v := nI 1) dX7_least_109 rfl ?_
      refine R_iadd dX7_least_110 ?_
      refine R_goto (tgt := 116) dX7_least_111 (by decide) ?_
      refine R_ireturn dX7_least_116 rfl rfl ?_
      exact ⟨by rw [hst, if_pos ((q_t99 ht).mp (Int32.not_le.mp h_104)), Int32.sub_add_cancel], hIK⟩
  | succ n ih =>
    intro t K hn ht hIK hS hlow hhigh
    have hB := hIK.2.1
    have hp2 : 2 ^ n ≤ 65536 := Nat.pow_le_pow_right (n := 2) (by decide) (show n ≤ 16 by omega)
    have hp1 : 1 ≤ 2 ^ n := Nat.one_le_two_pow
    have hpz : 2 ^ (n + 1) = 2 ^ n * 2 := Nat.pow_succ ..
    rw [hpz, Nat.mul_div_cancel _ (by decide)]
    rw [hpz] at hhigh
    generalize hz : 2 ^ n = z at *
    refine R_iload dX7_least_35 rfl ?_
    refine R_if_leN (tgt := 100) dX7_least_37 (by decide) (by omega) (fun h_37 => by exact absurd h_37 (by omega)) (fun h_37 => ?_)
    refine R_iload dX7_least_40 rfl ?_
    refine R_iload dX7_least_42 rfl ?_
    refine R_iadd dX7_least_44 ?_
    refine R_top (y := nI (t + z - 1)) (q_tz hp1) ?_
    refine R_istore (L' := [(0, .ref 0), (3, .int (nI c3)), (4, .int (nI t - nI 1)), (5, .int (nI z)), (6, .int (nI (t + z - 1)))]) dX7_least_45 (by decide) (qs1 rfl (qs1 rfl (qs1 rfl (qs1 rfl (qs1 rfl qs0))))) ?_
    refine R_iload dX7_least_47 rfl ?_
    refine R_ldc (v := nI 99999) dX7_least_49 lc_RX7_137 ?_
    refine R_icmp_gtN (tgt := 91) dX7_least_51 (by decide) (by omega) (by omega) (fun h_51 => ?_) (fun h_51 => ?_)
    · refine R_iload dX7_least_91 rfl ?_
      refine R_iconst (v := nI 2) dX7_least_93 rfl ?_
      refine R_idivN dX7_least_94 (by omega) (by omega) (by omega) ?_
      refine R_istore (L' := [(0, .ref 0), (3, .int (nI c3)), (4, .int (nI t - nI 1)), (5, .int (nI (z / 2))), (6, .int (nI (t + z - 1)))]) dX7_least_95 (by decide) (qs1 rfl (qs1 rfl (qs1 rfl (qs1 rfl (qs1 rfl qs0))))) ?_
      refine R_goto (tgt := 35) dX7_least_97 (by decide) ?_
      refine R_ls (L' := [(0, .ref 0), (3, .int (nI c3)), (4, .int (nI t - nI 1)), (5, .int (nI (z / 2)))]) (qs1 rfl (qs1 rfl (qs1 rfl (qs1 rfl qs0)))) ?_
      exact (ih t _ (by omega) ht hIK hS hlow (fun p h1 h2 => hhigh p (by omega) h2))
    · refine R_aload_n dX7_least_54 rfl ?_
      refine R_getR dX7_least_55 lg_RX7_33 (by decide) rfl rfl ?_
      refine R_aload_n dX7_least_58 rfl ?_
      refine R_getR dX7_least_59 lg_RX7_19 (by decide) rfl rfl ?_
      refine R_iconst (v := nI 0) dX7_least_62 rfl ?_
      refine R_callV (mc := mX3_ruleOf) (As := [_]) (r := 14) dX7_least_63 lm_RX7_141 mv_X3_ruleOf rfl (by decide) rfl rfl rfl rfl (Nat.le_of_ble_eq_true rfl) (c_ruleOf_14 (by omega)) ?_
      rintro _ _ ⟨rfl, rfl⟩
      refine R_top (y := nI (dR (sD s) 0)) (hIK.1.2.2.2.2.2.2 0 (by omega)) ?_
      refine R_iload dX7_least_66 rfl ?_
      refine R_callV (mc := mX5_fit) (As := [_, _]) (r := 30) dX7_least_68 lm_RX7_219 mv_X5_fit rfl (by decide) rfl rfl rfl rfl (Nat.le_of_ble_eq_true rfl) (c_fit hS (ser_b hB cu cv) hB.2.2.2.1.1 hB.2.2.2.1.2 (p := t + z - 1) (by omega)) ?_
      rintro _ _ ⟨rfl, hG, hO2⟩
      have hS2 := hS.off (fun o h1 h2 => hO2 o (by unfold oSg; omega))
      have hI2 := hIK.sc hO2.sg hS2.Z
      refine R_aload_n dX7_least_71 rfl ?_
      refine R_getR dX7_least_72 lg_RX7_33 (by decide) rfl rfl ?_
      refine R_callV (mc := mX5_breakCount) (As := []) (r := 30) dX7_least_75 lm_RX7_212 mv_X5_breakCount rfl (by decide) rfl rfl rfl rfl (Nat.le_of_ble_eq_true rfl) (c_bcount hG) ?_
      rintro _ _ ⟨rfl, rfl⟩
      have hb15 := bkN_le (ser (sD s) cu cv) (dR (sD s) 0) (t + z - 1)
      refine R_iload_n dX7_least_78 rfl ?_
      refine R_icmp_leN (tgt := 87) dX7_least_79 (by decide) (by omega) (by omega) (fun h_79 => ?_) (fun h_79 => ?_)
      · refine R_iload dX7_least_87 rfl ?_
        refine R_istore (L' := [(0, .ref 0), (3, .int (nI c3)), (4, .int (nI t - nI 1)), (5, .int (nI z)), (6, .int (nI (t + z - 1)))]) dX7_least_89 (by decide) (qs1 rfl (qs1 rfl (qs1 rfl (qs1 rfl (qs1 rfl qs0))))) ?_
        refine R_iload dX7_least_91 rfl ?_
        refine R_iconst (v := nI 2) dX7_least_93 rfl ?_
        refine R_idivN dX7_least_94 (by omega) (by omega) (by omega) ?_
        refine R_istore (L' := [(0, .ref 0), (3, .int (nI c3)), (4, .int (nI t - nI 1)), (5, .int (nI (z / 2))), (6, .int (nI (t + z - 1)))]) dX7_least_95 (by decide) (qs1 rfl (qs1 rfl (qs1 rfl (qs1 rfl (qs1 rfl qs0))))) ?_
        refine R_goto (tgt := 35) dX7_least_97 (by decide) ?_
        refine R_ls (L' := [(0, .ref 0), (3, .int (nI c3)), (4, .int (nI t - nI 1)), (5, .int (nI (z / 2)))]) (qs1 rfl (qs1 rfl (qs1 rfl (qs1 rfl qs0)))) ?_
        exact (ih t _ (by omega) ht hI2 hS2 hlow (fun p h1 h2 => Nat.le_trans (bkN_mono (by omega)) h_79))
      · refine R_iload dX7_least_82 rfl ?_
        refine R_goto (tgt := 89) dX7_least_84 (by decide) ?_
        refine R_top (y := nI (t + z) - nI 1) (q_tz2 hp1) ?_
        refine R_istore (L' := [(0, .ref 0), (3, .int (nI c3)), (4, .int (nI (t + z) - nI 1)), (5, .int (nI z)), (6, .int (nI (t + z - 1)))]) dX7_least_89 (by decide) (qs1 rfl (qs1 rfl (qs1 rfl (qs1 rfl (qs1 rfl qs0))))) ?_
        refine R_iload dX7_least_91 rfl ?_
        refine R_iconst (v := nI 2) dX7_least_93 rfl ?_
        refine R_idivN dX7_least_94 (by omega) (by omega) (by omega) ?_
        refine R_istore (L' := [(0, .ref 0), (3, .int (nI c3)), (4, .int (nI (t + z) - nI 1)), (5, .int (nI (z / 2))), (6, .int (nI (t + z - 1)))]) dX7_least_95 (by decide) (qs1 rfl (qs1 rfl (qs1 rfl (qs1 rfl (qs1 rfl qs0))))) ?_
        refine R_goto (tgt := 35) dX7_least_97 (by decide) ?_
        refine R_ls (L' := [(0, .ref 0), (3, .int (nI c3)), (4, .int (nI (t + z) - nI 1)), (5, .int (nI (z / 2)))]) (qs1 rfl (qs1 rfl (qs1 rfl (qs1 rfl qs0)))) ?_
        exact (ih (t + z) _ (by omega) (by omega) hI2 hS2 (fun p h1 => Nat.lt_of_lt_of_le h_79 (bkN_mono (show p ≤ t + z - 1 by omega))) (fun p h1 h2 => hhigh p (by omega) h2))
set_option maxRecDepth 100000 in
set_option maxHeartbeats 4000000 in
theorem o_least {vb : Nat} {M : qMem} {s : sT} (hI : XI vb M s) {u v k : Int32} : qSem 0 mX7_least [.ref 0, .int (u), .int (v), .int (k)] M (fun r N => r = some (.int (aLeast (sD s) u v k)) ∧ XI vb N s) := by
  have hX := hI.1
  have hB := hI.2.1
  have hK6 := hB.2.1
  have hY16 := hB.1
  have hZ := hI.2.2.2.1
  refine qSem.of (by decide +kernel) (Nat.le_of_ble_eq_true rfl) (fun w => ?_)
  refine R_ls (L' := [(0, .ref 0), (1, .int (u)), (2, .int (v)), (3, .int (k))]) (qs1 rfl (qs1 rfl (qs1 rfl (qs1 rfl qs0)))) ?_
  refine R_aload_n dX7_least_0 rfl ?_
  refine R_iload_n dX7_least_1 rfl ?_
  refine R_iload_n dX7_least_2 rfl ?_
  refine R_callV (mc := mX7_areTwoStations) (As := [_, _]) (r := 0) dX7_least_3 lm_RX7_186 mv_X7_areTwoStations rfl (by decide) rfl rfl rfl rfl (Nat.le_of_ble_eq_true rfl) (c_two hX) ?_
  rintro _ _ ⟨rfl, ⟨rfl, htw⟩ | ⟨rfl, htw⟩⟩
  · have htw2 := htw
    obtain ⟨⟨cu, hu, rfl⟩, ⟨cv, hv, rfl⟩, hne⟩ : (∃ j, j < dK (sD s) ∧ u = nI j) ∧ (∃ j, j < dK (sD s) ∧ v = nI j) ∧ ¬ u = v := ⟨inN_o (by omega) htw.1, inN_o (by omega) htw.2.1, htw.2.2⟩
    refine R_if_eqN (tgt := 13) dX7_least_6 (by decide) (by omega) (fun h_6 => by exact absurd h_6 (by decide)) (fun h_6 => ?_)
    refine R_iload_n dX7_least_9 rfl ?_
    refine R_if_ge (tgt := 15) dX7_least_10 (by decide) (fun h_10 => ?_) (fun h_10 => ?_)
    · have h_10k : ¬ k < 0 := Int32.not_lt.mpr h_10
      have h_10n := h_10k
      obtain ⟨c3, hck, rfl⟩ := q_ge0 h_10n
      refine R_aload_n dX7_least_15 rfl ?_
      refine R_getR dX7_least_16 lg_RX7_33 (by decide) rfl rfl ?_
      refine R_aload_n dX7_least_19 rfl ?_
      refine R_getR dX7_least_20 lg_RX7_19 (by decide) rfl rfl ?_
      refine R_iload_n dX7_least_23 rfl ?_
      refine R_iload_n dX7_least_24 rfl ?_
      refine R_callV (mc := mX5_compare) (As := [_, _, _]) (r := 30) dX7_least_25 lm_RX7_218 mv_X5_compare rfl (by decide) rfl rfl rfl rfl (Nat.le_of_ble_eq_true rfl) (c_gcompare hX hB hZ.1 hu hv) ?_
      rintro _ _ ⟨rfl, hS, hO1⟩
      have hI1 := hI.sc hO1.se hS.Z
      refine R_iconst (v := -1) dX7_least_28 rfl ?_
      refine R_top (y := nI 0 - nI 1) rfl ?_
      refine R_istore (L' := [(0, .ref 0), (1, .int (nI cu)), (2, .int (nI cv)), (3, .int (nI c3)), (4, .int (nI 0 - nI 1))]) dX7_least_29 (by decide) (qs1 rfl (qs1 rfl (qs1 rfl (qs1 rfl (qs1 rfl qs0))))) ?_
      refine R_ldc (v := nI 65536) dX7_least_31 lc_RX7_229 ?_
      refine R_istore (L' := [(0, .ref 0), (1, .int (nI cu)), (2, .int (nI cv)), (3, .int (nI c3)), (4, .int (nI 0 - nI 1)), (5, .int (nI 65536))]) dX7_least_33 (by decide) (qs1 rfl (qs1 rfl (qs1 rfl (qs1 rfl (qs1 rfl (qs1 rfl qs0)))))) ?_
      rw [show aLeast (sD s) (nI cu) (nI cv) (nI c3) = (if lstF (ser (sD s) cu cv) (dR (sD s) 0) c3 < 100000 then nI (lstF (ser (sD s) cu cv) (dR (sD s) 0) c3) else -4) from by unfold aLeast; rw [if_pos ⟨htw2, h_10k⟩, kn_n (by omega), kn_n (by omega), kn_n (by omega)]]
      refine R_ls (L' := [(0, .ref 0), (3, .int (nI c3)), (4, .int (nI 0 - nI 1)), (5, .int (nI 65536))]) (qs1 rfl (qs1 rfl (qs1 rfl (qs1 rfl qs0)))) ?_
      exact (l_least hI1 hu hv hck 17 0 _ (Nat.le_refl _) (Nat.zero_le _) hI1 hS (fun p h => absurd h (Nat.not_lt_zero p)) (fun p h1 h2 => absurd h1 (by omega)))
    · refine R_iconst (v := -1) dX7_least_13 rfl ?_
      refine R_ireturn dX7_least_14 rfl rfl ?_
      exact ⟨by unfold aLeast; rw [if_neg (fun h => by first | exact htw h.1 | exact h_10 (Int32.not_lt.mp h.2))], hI⟩
  · refine R_if_eqN (tgt := 13) dX7_least_6 (by decide) (by omega) (fun h_6 => ?_) (fun h_6 => by exact absurd h_6 (by decide))
    refine R_iconst (v := -1) dX7_least_13 rfl ?_
    refine R_ireturn dX7_least_14 rfl rfl ?_
    exact ⟨by unfold aLeast; rw [if_neg (fun h => by first | exact htw h.1 | exact h_10 (Int32.not_lt.mp h.2))], hI⟩
