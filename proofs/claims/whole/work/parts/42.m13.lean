
-- ===== the model: sizes =====
theorem j_neg (x : Int64) : x.toBitVec.msb = decide (x.toInt < 0) := BitVec.msb_eq_toInt
theorem xor_pos {a b : Int64} (hb : 0 < b.toInt) : 0 ≤ a ^^^ b ↔ 0 ≤ a.toInt := by
  rw [Int64.le_iff_toInt_le, show (0 : Int64).toInt = 0 from rfl]
  have h1 := j_neg (a ^^^ b)
  have h2 := j_neg a
  have h3 := j_neg b
  rw [Int64.toBitVec_xor, BitVec.msb_xor, h2, h3, decide_eq_false (show ¬ b.toInt < 0 by omega), Bool.xor_false] at h1
  have h4 : a.toInt < 0 ↔ (a ^^^ b).toInt < 0 := by
    rw [← decide_eq_decide]; exact h1
  omega
theorem near_fdv {a b : Int64} (hb : 0 < b.toInt) : (if a / b * b ≤ a then a / b else a / b - 1) = fdv a b := by
  have hne : b ≠ -1 := fun e => by rw [e] at hb; revert hb; decide
  have hq : (a / b).toInt = a.toInt.tdiv b.toInt := Int64.toInt_div_of_ne_right _ _ hne
  have hm := Int.mul_tdiv_add_tmod a.toInt b.toInt
  have ha1 := Int64.le_toInt a
  have ha2 := Int64.toInt_lt a
  unfold fdv
  rcases Int.lt_or_le a.toInt 0 with q | q
  · have hr : (-a.toInt).tmod b.toInt = - (a.toInt.tmod b.toInt) := Int.neg_tmod ..
    have hr2 : 0 ≤ (-a.toInt).tmod b.toInt := Int.tmod_nonneg _ (by omega)
    have hn : (-a.toInt).tdiv b.toInt = - (a.toInt.tdiv b.toInt) := Int.neg_tdiv ..
    have hn2 : 0 ≤ (-a.toInt).tdiv b.toInt := Int.tdiv_nonneg (by omega) (by omega)
    have hp : 0 ≤ b.toInt * (-a.toInt).tdiv b.toInt := Int.mul_nonneg (by omega) hn2
    rw [hn, Int.mul_neg] at hp
    have hmul : (a / b * b).toInt = b.toInt * a.toInt.tdiv b.toInt := by
      rw [j_mul (by rw [hq, Int.mul_comm]; omega) (by rw [hq, Int.mul_comm]; omega), hq, Int.mul_comm]
    have hx : ¬ 0 ≤ a ^^^ b := fun z => by have := (xor_pos hb).mp z; omega
    rw [if_neg hx]
    by_cases e : a / b * b = a
    · rw [if_pos e, if_pos (show a / b * b ≤ a by rw [e]; exact Int64.le_refl _)]
    · rw [if_neg e]
      refine if_neg (fun z => ?_)
      rw [Int64.le_iff_toInt_le] at z
      exact e (j_inj (by omega))
  · have hr : 0 ≤ a.toInt.tmod b.toInt := Int.tmod_nonneg _ q
    have hn2 : 0 ≤ a.toInt.tdiv b.toInt := Int.tdiv_nonneg q (by omega)
    have hp : 0 ≤ b.toInt * a.toInt.tdiv b.toInt := Int.mul_nonneg (by omega) hn2
    have hmul : (a / b * b).toInt = b.toInt * a.toInt.tdiv b.toInt := by
      rw [j_mul (by rw [hq, Int.mul_comm]; omega) (by rw [hq, Int.mul_comm]; omega), hq, Int.mul_comm]
    rw [if_pos ((xor_pos hb).mpr q)]
    refine if_pos ?_
    rw [Int64.le_iff_toInt_le]; omega
set_option maxRecDepth 100000 in
set_option maxHeartbeats 4000000 in
theorem m_near2 {M : qMem} {x y : Int64} (hb : 0 < (2 * y).toInt) : qSem 1 mX8_nearestOf [.long (x), .long (y)] M (ql (fdv (2 * x + y) (2 * y)) M) := by
  refine qSem.of (by decide +kernel) (Nat.le_of_ble_eq_true rfl) (fun w => ?_)
  refine R_ls (L' := [(0, .long (x)), (2, .long (y))]) (qs1 rfl (qs1 rfl qs0)) ?_
  refine R_ldc2 dX8_nearestOf_0 lc_RX8_192 ?_
  refine R_lload_n dX8_nearestOf_3 rfl ?_
  refine R_lmul dX8_nearestOf_4 ?_
  refine R_lload_n dX8_nearestOf_5 rfl ?_
  refine R_ladd dX8_nearestOf_6 ?_
  refine R_lstore (L' := [(0, .long (x)), (2, .long (y)), (4, .long _)]) dX8_nearestOf_7 (by decide) (qs1 rfl (qs1 rfl (qs1 rfl qs0))) ?_
  refine R_ldc2 dX8_nearestOf_9 lc_RX8_192 ?_
  refine R_lload_n dX8_nearestOf_12 rfl ?_
  refine R_lmul dX8_nearestOf_13 ?_
  refine R_lstore (L' := [(0, .long (x)), (2, .long (y)), (4, .long _), (6, .long _)]) dX8_nearestOf_14 (by decide) (qs1 rfl (qs1 rfl (qs1 rfl (qs1 rfl qs0)))) ?_
  refine R_lload dX8_nearestOf_16 rfl ?_
  refine R_lload dX8_nearestOf_18 rfl ?_
  refine R_ldiv dX8_nearestOf_20 (fun e => by rw [e] at hb; revert hb; decide) ?_
  refine R_lstore (L' := [(0, .long (x)), (2, .long (y)), (4, .long _), (6, .long _), (8, .long _)]) dX8_nearestOf_21 (by decide) (qs1 rfl (qs1 rfl (qs1 rfl (qs1 rfl (qs1 rfl qs0))))) ?_
  refine R_lload dX8_nearestOf_23 rfl ?_
  refine R_lload dX8_nearestOf_25 rfl ?_
  refine R_lmul dX8_nearestOf_27 ?_
  refine R_lload dX8_nearestOf_28 rfl ?_
  refine R_lc_le (tgt := 41) dX8_nearestOf_30 dX8_nearestOf_31 (by decide) (fun h_30 => ?_) (fun h_30 => ?_)
  · refine R_lload dX8_nearestOf_41 rfl ?_
    refine R_lreturn dX8_nearestOf_43 rfl ?_
    exact ⟨by rw [← near_fdv hb]; first | rw [if_pos h_30] | rw [if_neg h_30], rfl⟩
  · refine R_lload dX8_nearestOf_34 rfl ?_
    refine R_lconst (v := 1) dX8_nearestOf_36 rfl ?_
    refine R_lsub dX8_nearestOf_37 ?_
    refine R_goto (tgt := 43) dX8_nearestOf_38 (by decide) ?_
    refine R_lreturn dX8_nearestOf_43 rfl ?_
    exact ⟨by rw [← near_fdv hb]; first | rw [if_pos h_30] | rw [if_neg h_30], rfl⟩
