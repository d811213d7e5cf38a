
-- ===== the model: making a value up =====
theorem mea_b {l : List (Nat × Int32)} (h : serB l) {i j : Nat} (hj : j ≤ i + 16) : -14412958560 ≤ (mea l i j).toInt ∧ (mea l i j).toInt ≤ 14412958560 := by
  unfold mea
  by_cases hc : j ≤ i
  · rw [if_pos hc]; decide
  · rw [if_neg hc]
    obtain ⟨m, rfl⟩ : ∃ m, j = i + m := ⟨j - i, by omega⟩
    have hm : 1 ≤ m ∧ m ≤ 16 := by omega
    have a := Z1_b h i m
    generalize hA : Z1 l (i + m) - Z1 l i = A at a
    have eA : S1 l (i + m) - S1 l i = Int64.ofInt A := by rw [S1_Z, S1_Z, ← Int64.ofInt_sub, hA]
    have ec : sc i (i + m) = Int64.ofInt ((720720 / m : Nat) : Int) := by
      have hs : 720720 / m ≤ 720720 := Nat.div_le_self _ _
      unfold sc; rw [Nat.add_sub_cancel_left]; exact j_n (by omega)
    rw [eA, ec, ← Int64.ofInt_mul]
    have key : -14412958560 ≤ A * ((720720 / m : Nat) : Int) ∧ A * ((720720 / m : Nat) : Int) ≤ 14412958560 := by
      obtain ⟨h1, h2⟩ := hm
      have hcases : m = 1 ∨ m = 2 ∨ m = 3 ∨ m = 4 ∨ m = 5 ∨ m = 6 ∨ m = 7 ∨ m = 8 ∨ m = 9 ∨ m = 10 ∨ m = 11 ∨ m = 12 ∨ m = 13 ∨ m = 14 ∨ m = 15 ∨ m = 16 := by omega
      rcases hcases with rfl | rfl | rfl | rfl | rfl | rfl | rfl | rfl | rfl | rfl | rfl | rfl | rfl | rfl | rfl | rfl <;> (simp only [Nat.reduceDiv]; omega)
    rw [j_ofI (by omega) (by omega)]
    exact key
theorem eV_b {d : dT} (hB : dB d) (c t o : Nat) : -21619437840 ≤ (eVal d c t o).toInt ∧ (eVal d c t o).toInt ≤ 21619437840 := by
  have hm := mea_b (ser_b hB c o) (i := 0) (j := (ser d c o).length) (by have := ser_16 hB c o; omega)
  have hv : -9999 ≤ ((dV d o t).getD 0).toInt ∧ ((dV d o t).getD 0).toInt ≤ 9999 := by
    cases e : dV d o t with
    | none => decide
    | some v => exact hB.2.2.1 _ _ v e
  have e1 : ((720720 : Int64) * ((dV d o t).getD 0).toInt64).toInt = 720720 * ((dV d o t).getD 0).toInt := by
    have t2 : (720720 : Int64).toInt = 720720 := rfl
    rw [j_mul (by rw [t2, Int32.toInt_toInt64]; omega) (by rw [t2, Int32.toInt_toInt64]; omega), t2, Int32.toInt_toInt64]
  unfold eVal
  rw [j_add (by rw [e1]; omega) (by rw [e1]; omega), e1]
  omega
theorem eS_b {d : dT} (hB : dB d) (c t : Nat) : ∀ n, n ≤ 6 → -(21619437840 * (eNum d c t n : Int)) ≤ (eSum d c t n).toInt ∧ (eSum d c t n).toInt ≤ 21619437840 * (eNum d c t n : Int)
  | 0, _ => by
    show -(21619437840 * ((0 : Nat) : Int)) ≤ (0 : Int64).toInt ∧ (0 : Int64).toInt ≤ 21619437840 * ((0 : Nat) : Int)
    decide
  | n + 1, h => by
    have ih := eS_b hB c t n (by omega)
    have hv := eV_b hB c t n
    have hn := eNum_le d c t n
    show -(21619437840 * ((if eOk d c t n then eNum d c t n + 1 else eNum d c t n : Nat) : Int)) ≤ (if eOk d c t n then eSum d c t n + eVal d c t n else eSum d c t n).toInt ∧ (if eOk d c t n then eSum d c t n + eVal d c t n else eSum d c t n).toInt ≤ 21619437840 * ((if eOk d c t n then eNum d c t n + 1 else eNum d c t n : Nat) : Int)
    by_cases e : eOk d c t n = true
    · rw [if_pos e, if_pos e, j_add (by omega) (by omega)]
      omega
    · rw [if_neg e, if_neg e]; exact ih
theorem rm_b {s : Int64} {n : Nat} (h1 : 1 ≤ n) (h6 : n ≤ 6) (hs1 : -(21619437840 * (n : Int)) ≤ s.toInt) (hs2 : s.toInt ≤ 21619437840 * (n : Int)) : -30000 ≤ (rmean s n).toInt ∧ (rmean s n).toInt ≤ 30000 := by
  have t2 : (2 : Int64).toInt = 2 := rfl
  have e1 : (720720 * (nI n).toInt64 : Int64).toInt = 720720 * (n : Int) := by
    rw [j_n (by omega), show (720720 : Int64) = Int64.ofInt 720720 from rfl, ← Int64.ofInt_mul, j_ofI (by omega) (by omega)]
  have e2 : (2 * s : Int64).toInt = 2 * s.toInt := by rw [j_mul (by rw [t2]; omega) (by rw [t2]; omega), t2]
  have e3 : (2 * s + 720720 * (nI n).toInt64 : Int64).toInt = 2 * s.toInt + 720720 * (n : Int) := by rw [j_add (by rw [e2, e1]; omega) (by rw [e2, e1]; omega), e2, e1]
  have e4 : (2 * (720720 * (nI n).toInt64) : Int64).toInt = 1441440 * (n : Int) := by rw [j_mul (by rw [t2, e1]; omega) (by rw [t2, e1]; omega), t2, e1]; omega
  have hb := h_pos h1 (show n < 1000 by omega)
  unfold rmean
  rw [if_neg (by omega)]
  generalize 2 * s + 720720 * (nI n).toInt64 = a at e3 ⊢
  generalize (2 * (720720 * (nI n).toInt64) : Int64) = y at e4 hb ⊢
  rw [← near_fdv hb]
  have hne : y ≠ -1 := fun e => by rw [e] at hb; revert hb; decide
  have hq : (a / y).toInt = a.toInt.tdiv y.toInt := Int64.toInt_div_of_ne_right _ _ hne
  have hm := Int.mul_tdiv_add_tmod a.toInt y.toInt
  have m1 := Int.tmod_lt_of_pos a.toInt hb
  have m2 := Int.tmod_lt_of_pos (-a.toInt) hb
  rw [Int.neg_tmod] at m2
  rw [e3, e4] at hm m1 m2 hq
  generalize (2 * s.toInt + 720720 * (n : Int)).tdiv (1441440 * (n : Int)) = q at hm hq
  generalize (2 * s.toInt + 720720 * (n : Int)).tmod (1441440 * (n : Int)) = r at hm m1 m2
  have hQ : -29999 ≤ q ∧ q ≤ 29999 := by
    have hc : n = 1 ∨ n = 2 ∨ n = 3 ∨ n = 4 ∨ n = 5 ∨ n = 6 := by omega
    rcases hc with rfl | rfl | rfl | rfl | rfl | rfl <;> omega
  split
  · rw [Int64.toInt_toInt32, hq, Int.bmod_eq_of_le (by omega) (by omega)]; omega
  · have e5 : (a / y - 1).toInt = q - 1 := by
      rw [Int64.toInt_sub, hq, show (1 : Int64).toInt = 1 from rfl, Int.bmod_eq_of_le (by omega) (by omega)]
    rw [Int64.toInt_toInt32, e5, Int.bmod_eq_of_le (by omega) (by omega)]; omega
theorem e_ge {d : dT} (hB : dB d) (c t : Nat) (hn : ¬ eNum d c t (dK d) = 0) : ¬ eRes d c t + nI 100000 < 0 := by
  have hK6 := hB.2.1
  have h := eS_b hB c t (dK d) hK6
  have hl := eNum_le d c t (dK d)
  have hr := rm_b (s := eSum d c t (dK d)) (n := eNum d c t (dK d)) (by omega) (by omega) h.1 h.2
  have hr2 : -30000 ≤ (eRes d c t).toInt ∧ (eRes d c t).toInt ≤ 30000 := hr
  rw [Int32.lt_iff_toInt_lt, Int32.toInt_add, nI_toInt (by omega), show (0 : Int32).toInt = 0 from rfl, Int.bmod_eq_of_le (by omega) (by omega)]
  omega
theorem rMk_1 {s : sT} {cc ct : Nat} (hB : dB (sD s)) (hcc : cc < dK (sD s)) (hct : ct < dY (sD s)) (hnn : dV (sD s) cc ct = none) (hn0 : ¬ eNum (sD s) cc ct (dK (sD s)) = 0) : aEst (sD s) (nI cc) (nI ct) = eRes (sD s) cc ct + nI 100000 ∧ rMake s (nI cc) (nI ct) = if okI (eRes (sD s) cc ct) then (eRes (sD s) cc ct + nI 100000, chV s cc ct (some (eRes (sD s) cc ct))) else (-3, s) := by
  have hK6 := hB.2.1
  have hY16 := hB.1
  have hk : ck (sD s) (nI cc) (nI ct) := ⟨(inN_n (by omega) (by omega)).mpr hcc, (inN_n (by omega) (by omega)).mpr hct⟩
  have hae : aEst (sD s) (nI cc) (nI ct) = eRes (sD s) cc ct + nI 100000 := by unfold aEst; rw [if_pos hk, kn_n (by omega), kn_n (by omega), if_neg (by rw [hnn]; decide), if_neg hn0]
  refine ⟨hae, ?_⟩
  unfold rMake
  rw [hae, if_neg (e_ge hB cc ct hn0), Int32.add_sub_cancel, kn_n (by omega), kn_n (by omega)]
set_option maxRecDepth 100000 in
set_option maxHeartbeats 4000000 in
theorem p_make {M : qMem} {s : sT} (hI : MI M s) (hs : sOk s) {c t : Int32} : qSem 1 mX8_make [.ref 0, .int (c), .int (t)] M (fun r N => r = some (.int (rMake s c t).1) ∧ MI N (rMake s c t).2) := by
  have hX := hI.1
  have hB := hs.1
  have hK6 := hB.2.1
  have hY16 := hB.1
  have hY4 := hs.2.1.1
  have hK2 := hs.2.1.2
  refine qSem.of (by decide +kernel) (Nat.le_of_ble_eq_true rfl) (fun w => ?_)
  refine R_ls (L' := [(0, .ref 0), (1, .int (c)), (2, .int (t))]) (qs1 rfl (qs1 rfl (qs1 rfl qs0))) ?_
  refine R_aload_n dX8_make_0 rfl ?_
  refine R_iload_n dX8_make_1 rfl ?_
  refine R_callV (mc := mX8_isStation) (As := [_]) (r := 0) dX8_make_2 lm_RX8_161 mv_X8_isStation rfl (by decide) rfl rfl rfl rfl (Nat.le_of_ble_eq_true rfl) (m_isSta hX (by omega) (by omega)) ?_
  rintro _ _ ⟨rfl, ⟨rfl, hkc⟩ | ⟨rfl, hkc⟩⟩
  · have hkc2 : inN c (dK (sD s)) := hkc
    obtain ⟨cc, hcc, rfl⟩ := inN_o (by omega) hkc2
    refine R_if_eqN (tgt := 16) dX8_make_5 (by decide) (by omega) (fun h_5 => by exact absurd h_5 (by decide)) (fun h_5 => ?_)
    refine R_aload_n dX8_make_8 rfl ?_
    refine R_iload_n dX8_make_9 rfl ?_
    refine R_callV (mc := mX8_isYear) (As := [_]) (r := 0) dX8_make_10 lm_RX8_171 mv_X8_isYear rfl (by decide) rfl rfl rfl rfl (Nat.le_of_ble_eq_true rfl) (m_isYea hX (by omega) (by omega)) ?_
    rintro _ _ ⟨rfl, ⟨rfl, hkt⟩ | ⟨rfl, hkt⟩⟩
    · have hkt2 : inN t (dY (sD s)) := hkt
      obtain ⟨ct, hct, rfl⟩ := inN_o (by omega) hkt2
      refine R_if_neN (tgt := 18) dX8_make_13 (by decide) (by omega) (fun h_13 => ?_) (fun h_13 => by exact absurd h_13 (by decide))
      refine R_aload_n dX8_make_18 rfl ?_
      refine R_iload_n dX8_make_19 rfl ?_
      refine R_iload_n dX8_make_20 rfl ?_
      refine R_callV (mc := mX8_isThere) (As := [_, _]) (r := 0) dX8_make_21 lm_RX8_184 mv_X8_isThere rfl (by decide) rfl rfl rfl rfl (Nat.le_of_ble_eq_true rfl) (m_isT hX hB hcc hct) ?_
      rintro _ _ ⟨rfl, ⟨rfl, hp⟩ | ⟨rfl, hp⟩⟩
      · have hnn : ¬ dV (sD s) cc ct = none := fun z => by rw [z] at hp; cases hp
        refine R_if_eqN (tgt := 30) dX8_make_24 (by decide) (by omega) (fun h_24 => by exact absurd h_24 (by decide)) (fun h_24 => ?_)
        refine R_bipush (v := -2) dX8_make_27 rfl ?_
        refine R_ireturn dX8_make_29 rfl rfl ?_
        have hl : aEst (sD s) (nI cc) (nI ct) = -2 := by unfold aEst; rw [if_pos ⟨hkc2, hkt2⟩, kn_n (by omega), kn_n (by omega), if_pos (Option.isSome_iff_ne_none.mpr hnn)]
        have hr : rMake s (nI cc) (nI ct) = (-2, s) := by unfold rMake; rw [hl]; rfl
        rw [hr]
        exact ⟨rfl, hI⟩
      · have hnn : dV (sD s) cc ct = none := Option.not_isSome_iff_eq_none.mp hp
        refine R_if_eqN (tgt := 30) dX8_make_24 (by decide) (by omega) (fun h_24 => ?_) (fun h_24 => by exact absurd h_24 (by decide))
        refine R_aload_n dX8_make_30 rfl ?_
        refine R_iload_n dX8_make_31 rfl ?_
        refine R_iload_n dX8_make_32 rfl ?_
        refine R_callV (mc := mX8_canMake) (As := [_, _]) (r := 0) dX8_make_33 lm_RX8_291 mv_X8_canMake rfl (by decide) rfl rfl rfl rfl (Nat.le_of_ble_eq_true rfl) (m_cm hX hB hK2 hY4 hcc hct) ?_
        rintro _ _ ⟨hO, (⟨hn0, rfl⟩ | ⟨hn0, rfl, h30⟩)⟩
        · refine R_if_neN (tgt := 42) dX8_make_36 (by decide) (by omega) (fun h_36 => by exact absurd h_36 (by decide)) (fun h_36 => ?_)
          refine R_bipush (v := -4) dX8_make_39 rfl ?_
          refine R_ireturn dX8_make_41 rfl rfl ?_
          have hl : aEst (sD s) (nI cc) (nI ct) = -4 := by unfold aEst; rw [if_pos ⟨hkc2, hkt2⟩, kn_n (by omega), kn_n (by omega), if_neg (by rw [hnn]; decide), if_pos hn0]
          have hr : rMake s (nI cc) (nI ct) = (-4, s) := by unfold rMake; rw [hl]; rfl
          rw [hr]
          exact ⟨rfl, hI.mk hO⟩
        · refine R_if_neN (tgt := 42) dX8_make_36 (by decide) (by omega) (fun h_36 => ?_) (fun h_36 => by exact absurd h_36 (by decide))
          refine R_aload_n dX8_make_42 rfl ?_
          refine R_getI dX8_make_43 (lf_RX8_288).get (by decide) rfl rfl ?_
          refine R_top (y := eRes (sD s) cc ct) h30 ?_
          refine R_i2l dX8_make_46 ?_
          refine R_ldc2 dX8_make_47 lc_RX8_177 ?_
          refine R_ldc2 dX8_make_50 lc_RX8_179 ?_
          refine R_callS (mc := mX8_in) (As := [_, _, _]) dX8_make_53 lm_RX8_98 mv_X8_in rfl rfl rfl (Nat.le_of_ble_eq_true rfl) m_in ?_
          rintro _ _ ⟨rfl, ⟨rfl, hv⟩ | ⟨rfl, hv⟩⟩
          · rw [in_val] at hv
            refine R_if_neN (tgt := 62) dX8_make_56 (by decide) (by omega) (fun h_56 => ?_) (fun h_56 => by exact absurd h_56 (by decide))
            refine R_aload_n dX8_make_62 rfl ?_
            refine R_bipush (v := nI 16) dX8_make_63 rfl ?_
            refine R_iload_n dX8_make_65 rfl ?_
            refine R_imulN dX8_make_66 ?_
            refine R_iload_n dX8_make_67 rfl ?_
            refine R_iaddN dX8_make_68 ?_
            refine R_aload_n dX8_make_69 rfl ?_
            refine R_getI dX8_make_70 (lf_RX8_288).get (by decide) rfl rfl ?_
            refine R_top (y := eRes (sD s) cc ct) h30 ?_
            refine R_callV (mc := mX8_change) (As := [_, _]) (r := 0) dX8_make_73 lm_RX8_181 mv_X8_change rfl (by decide) rfl rfl rfl rfl (Nat.le_of_ble_eq_true rfl) (m_change (hI.mk hO) hs (by omega)) ?_
            rintro _ _ ⟨rfl, K2, hN, rfl⟩
            refine R_pop dX8_make_76 rfl ?_
            refine R_aload_n dX8_make_77 rfl ?_
            refine R_getI dX8_make_78 (lf_RX8_288).get (by decide) rfl rfl ?_
            refine R_top (y := eRes (sD s) cc ct) (by rw [qIs_no (by decide), hN.2.2.1 30 (by decide) (by decide)]; exact h30) ?_
            refine R_ldc (v := nI 100000) dX8_make_81 lc_RX8_167 ?_
            refine R_iadd dX8_make_83 ?_
            refine R_ireturn dX8_make_84 rfl rfl ?_
            rw [(rMk_1 hB hcc hct hnn hn0).2, if_pos hv]
            exact ⟨rfl, MI_chV (hI.mk hO) hs hcc hct rfl hN⟩
          · rw [in_val] at hv
            refine R_if_neN (tgt := 62) dX8_make_56 (by decide) (by omega) (fun h_56 => by exact absurd h_56 (by decide)) (fun h_56 => ?_)
            refine R_bipush (v := -3) dX8_make_59 rfl ?_
            refine R_ireturn dX8_make_61 rfl rfl ?_
            rw [(rMk_1 hB hcc hct hnn hn0).2, if_neg hv]
            exact ⟨rfl, hI.mk hO⟩
    · refine R_if_neN (tgt := 18) dX8_make_13 (by decide) (by omega) (fun h_13 => by exact absurd h_13 (by decide)) (fun h_13 => ?_)
      refine R_iconst (v := -1) dX8_make_16 rfl ?_
      refine R_ireturn dX8_make_17 rfl rfl ?_
      have hl : aEst (sD s) (nI cc) t = -1 := by unfold aEst; rw [if_neg (fun h => hkt h.2)]
      have hr : rMake s (nI cc) t = (-1, s) := by unfold rMake; rw [hl]; rfl
      rw [hr]
      exact ⟨rfl, hI⟩
  · refine R_if_eqN (tgt := 16) dX8_make_5 (by decide) (by omega) (fun h_5 => ?_) (fun h_5 => by exact absurd h_5 (by decide))
    refine R_iconst (v := -1) dX8_make_16 rfl ?_
    refine R_ireturn dX8_make_17 rfl rfl ?_
    have hl : aEst (sD s) c t = -1 := by unfold aEst; rw [if_neg (fun h => hkc h.1)]
    have hr : rMake s c t = (-1, s) := by unfold rMake; rw [hl]; rfl
    rw [hr]
    exact ⟨rfl, hI⟩
