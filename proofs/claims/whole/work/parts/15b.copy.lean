-- ===== the same rows for the other series and segmentation =====
/-- the series' memory holds l -/
def XS_a (M : qMem) (l : List (Nat × Int32)) : Prop := M.1 101 0 = nI l.length ∧ l.length ≤ 16 ∧ (∀ i, i < l.length → M.1 102 i = en l i ∧ M.1 103 i = nI (yr l i)) ∧ (∀ i, i ≤ l.length → M.2 104 i = S1 l i ∧ M.2 105 i = S2 l i)

def oSe_a (o : Nat) : Prop := 101 ≤ o ∧ o < 106
theorem XS_a.off {M N : qMem} {l : List (Nat × Int32)} (h : XS_a M l) (e : ∀ o, 101 ≤ o → o ≤ 105 → N.1 o = M.1 o ∧ N.2 o = M.2 o) : XS_a N l :=
  ⟨by rw [(e 101 (by omega) (by omega)).1]; exact h.1, h.2.1, fun i hi => by rw [(e 102 (by omega) (by omega)).1, (e 103 (by omega) (by omega)).1]; exact h.2.2.1 i hi, fun i hi => by rw [(e 104 (by omega) (by omega)).2, (e 105 (by omega) (by omega)).2]; exact h.2.2.2 i hi⟩
theorem XS_add_a {M N : qMem} {l : List (Nat × Int32)} {t : Nat} {x : Int32} (h : XS_a M l) (hl : l.length < 16) (e0 : N.1 101 0 = nI (l.length + 1)) (e1 : N.1 102 = upd (M.1 102) l.length x) (e2 : N.1 103 = upd (M.1 103) l.length (nI t))
    (e3 : N.2 104 = vp_updL (M.2 104) (l.length + 1) (M.2 104 l.length + x.toInt64)) (e4 : N.2 105 = vp_updL (M.2 105) (l.length + 1) (M.2 105 l.length + x.toInt64 * x.toInt64)) : XS_a N (l ++ [(t, x)]) := by
  have hL : (l ++ [(t, x)]).length = l.length + 1 := by simp
  refine ⟨by rw [hL]; exact e0, by omega, fun i hi => ?_, fun i hi => ?_⟩
  · rw [e1, e2]
    by_cases h2 : i < l.length
    · rw [pk_un (by omega), pk_un (by omega), en_app h2, yr_app h2]
      exact h.2.2.1 i h2
    · have e : i = l.length := by omega
      subst e
      rw [pk_us, pk_us, en_last, yr_last]
      exact ⟨rfl, rfl⟩
  · rw [e3, e4]
    by_cases h2 : i ≤ l.length
    · rw [pk_uLn (by omega), pk_uLn (by omega), S1_app h2, S2_app h2]
      exact h.2.2.2 i h2
    · have e : i = l.length + 1 := by omega
      subst e
      rw [pk_uLs, pk_uLs, S1, S2, S1_app (Nat.le_refl _), S2_app (Nat.le_refl _), en_last, (h.2.2.2 l.length (Nat.le_refl _)).1, (h.2.2.2 l.length (Nat.le_refl _)).2]
      exact ⟨rfl, rfl⟩
set_option maxRecDepth 100000 in
set_option maxHeartbeats 4000000 in
theorem c_sadd_a {M : qMem} {l : List (Nat × Int32)} {t : Nat} {x : Int32} (hS : XS_a M l) (hl : l.length < 16) : qSem 0 mX6_add [.ref 101, .int (nI t), .int (x)] M (fun v N => v = none ∧ XS_a N (l ++ [(t, x)]) ∧ qOff oSe_a M N) := by
  refine qSem.of (by decide +kernel) (Nat.le_of_ble_eq_true rfl) (fun w => ?_)
  refine R_ls (L' := [(0, .ref 101), (1, .int (nI t)), (2, .int (x))]) (qs1 rfl (qs1 rfl (qs1 rfl qs0))) ?_
  refine R_aload_n dX6_add_0 rfl ?_
  refine R_getI dX6_add_1 (lf_RX6_25).get (by decide) rfl rfl ?_
  refine R_top (y := nI l.length) (by exact hS.1) ?_
  refine R_bipush (v := nI 16) dX6_add_4 rfl ?_
  refine R_icmp_ltN (tgt := 10) dX6_add_6 (by decide) (by omega) (by omega) (fun h_6 => ?_) (fun h_6 => by omega)
  refine R_aload_n dX6_add_10 rfl ?_
  refine R_getR dX6_add_11 lg_RX6_9 (by decide) rfl rfl ?_
  refine R_aload_n dX6_add_14 rfl ?_
  refine R_getI dX6_add_15 (lf_RX6_25).get (by decide) rfl rfl ?_
  refine R_top (y := nI l.length) (by exact hS.1) ?_
  refine R_iload_n dX6_add_18 rfl ?_
  refine R_iastN dX6_add_19 (by decide) rfl (by omega) (by decide) ?_
  refine R_aload_n dX6_add_20 rfl ?_
  refine R_getR dX6_add_21 lg_RX6_15 (by decide) rfl rfl ?_
  refine R_aload_n dX6_add_24 rfl ?_
  refine R_getI dX6_add_25 (lf_RX6_25).get (by decide) rfl rfl ?_
  refine R_top (y := nI l.length) (by rw [qIs_no (by decide)]; exact hS.1) ?_
  refine R_iload_n dX6_add_28 rfl ?_
  refine R_iastN dX6_add_29 (by decide) rfl (by omega) (by decide) ?_
  refine R_aload_n dX6_add_30 rfl ?_
  refine R_getR dX6_add_31 lg_RX6_18 (by decide) rfl rfl ?_
  refine R_aload_n dX6_add_34 rfl ?_
  refine R_getI dX6_add_35 (lf_RX6_25).get (by decide) rfl rfl ?_
  refine R_top (y := nI l.length) (by rw [qIs_no (by decide)]; rw [qIs_no (by decide)]; exact hS.1) ?_
  refine R_iconst (v := nI 1) dX6_add_38 rfl ?_
  refine R_iaddN dX6_add_39 ?_
  refine R_aload_n dX6_add_40 rfl ?_
  refine R_getR dX6_add_41 lg_RX6_18 (by decide) rfl rfl ?_
  refine R_aload_n dX6_add_44 rfl ?_
  refine R_getI dX6_add_45 (lf_RX6_25).get (by decide) rfl rfl ?_
  refine R_top (y := nI l.length) (by rw [qIs_no (by decide)]; rw [qIs_no (by decide)]; exact hS.1) ?_
  refine R_laldN dX6_add_48 (by decide) rfl (by omega) (by decide) ?_
  refine R_iload_n dX6_add_49 rfl ?_
  refine R_i2l dX6_add_50 ?_
  refine R_ladd dX6_add_51 ?_
  refine R_lastN dX6_add_52 (by decide) rfl (by omega) (by decide) ?_
  refine R_aload_n dX6_add_53 rfl ?_
  refine R_getR dX6_add_54 lg_RX6_22 (by decide) rfl rfl ?_
  refine R_aload_n dX6_add_57 rfl ?_
  refine R_getI dX6_add_58 (lf_RX6_25).get (by decide) rfl rfl ?_
  refine R_top (y := nI l.length) (by rw [qLs_1]; rw [qIs_no (by decide)]; rw [qIs_no (by decide)]; exact hS.1) ?_
  refine R_iconst (v := nI 1) dX6_add_61 rfl ?_
  refine R_iaddN dX6_add_62 ?_
  refine R_aload_n dX6_add_63 rfl ?_
  refine R_getR dX6_add_64 lg_RX6_22 (by decide) rfl rfl ?_
  refine R_aload_n dX6_add_67 rfl ?_
  refine R_getI dX6_add_68 (lf_RX6_25).get (by decide) rfl rfl ?_
  refine R_top (y := nI l.length) (by rw [qLs_1]; rw [qIs_no (by decide)]; rw [qIs_no (by decide)]; exact hS.1) ?_
  refine R_laldN dX6_add_71 (by decide) rfl (by omega) (by decide) ?_
  refine R_iload_n dX6_add_72 rfl ?_
  refine R_i2l dX6_add_73 ?_
  refine R_iload_n dX6_add_74 rfl ?_
  refine R_i2l dX6_add_75 ?_
  refine R_lmul dX6_add_76 ?_
  refine R_ladd dX6_add_77 ?_
  refine R_lastN dX6_add_78 (by decide) rfl (by omega) (by decide) ?_
  refine R_aload_n dX6_add_79 rfl ?_
  refine R_dup dX6_add_80 rfl ?_
  refine R_getI dX6_add_81 (lf_RX6_25).get (by decide) rfl rfl ?_
  refine R_top (y := nI l.length) (by rw [qLs_1]; rw [qLs_1]; rw [qIs_no (by decide)]; rw [qIs_no (by decide)]; exact hS.1) ?_
  refine R_iconst (v := nI 1) dX6_add_84 rfl ?_
  refine R_iaddN dX6_add_85 ?_
  refine R_putI dX6_add_86 lf_RX6_25 (by decide) rfl rfl rfl rfl ?_
  refine R_return dX6_add_89 rfl ?_
  refine ⟨rfl, XS_add_a hS hl (qIs_eq _ _ _ _) ?_ ?_ ?_ ?_, ?_⟩
  · funext j; simp only [qIs_1, qIs_2, qLs_1, qLs_2, upd, vp_updL, true_and, Nat.reduceAdd, Nat.reduceEqDiff, false_and, if_false]; try rfl
  · funext j; simp only [qIs_1, qIs_2, qLs_1, qLs_2, upd, vp_updL, true_and, Nat.reduceAdd, Nat.reduceEqDiff, false_and, if_false]; try rfl
  · funext j; simp only [qIs_1, qIs_2, qLs_1, qLs_2, upd, vp_updL, true_and, Nat.reduceAdd, Nat.reduceEqDiff, false_and, if_false]; try rfl
  · funext j; simp only [qIs_1, qIs_2, qLs_1, qLs_2, upd, vp_updL, true_and, Nat.reduceAdd, Nat.reduceEqDiff, false_and, if_false]; try rfl
  · repeat (first | exact qOff.rf | refine qOff.is ?_ (by unfold oSe_a; omega) | refine qOff.ls ?_ (by unfold oSe_a; omega))
set_option maxRecDepth 100000 in
set_option maxHeartbeats 4000000 in
theorem c_slen_a {M : qMem} {l : List (Nat × Int32)} (hS : XS_a M l) : qSem 0 mX6_length [.ref 101] M (qr (nI l.length) M) := by
  refine qSem.of (by decide +kernel) (Nat.le_of_ble_eq_true rfl) (fun w => ?_)
  refine R_ls (L' := [(0, .ref 101)]) (qs1 rfl qs0) ?_
  refine R_aload_n dX6_length_0 rfl ?_
  refine R_getI dX6_length_1 (lf_RX6_25).get (by decide) rfl rfl ?_
  refine R_top (y := nI l.length) hS.1 ?_
  refine R_ireturn dX6_length_4 rfl rfl ?_
  exact ⟨rfl, rfl⟩
set_option maxRecDepth 100000 in
set_option maxHeartbeats 4000000 in
theorem c_entryAt_a {M : qMem} {l : List (Nat × Int32)} {i : Nat} (hS : XS_a M l) (hi : i < l.length) : qSem 0 mX6_entryAt [.ref 101, .int (nI i)] M (qr (en l i) M) := by
  have h2 := hS.2.1
  refine qSem.of (by decide +kernel) (Nat.le_of_ble_eq_true rfl) (fun w => ?_)
  refine R_ls (L' := [(0, .ref 101), (1, .int (nI i))]) (qs1 rfl (qs1 rfl qs0)) ?_
  refine R_aload_n dX6_entryAt_0 rfl ?_
  refine R_getR dX6_entryAt_1 lg_RX6_9 (by decide) rfl rfl ?_
  refine R_iload_n dX6_entryAt_4 rfl ?_
  refine R_ialdN dX6_entryAt_5 (by decide) rfl (by omega) (by decide) ?_
  refine R_top (y := en l i) (hS.2.2.1 i hi).1 ?_
  refine R_ireturn dX6_entryAt_6 rfl rfl ?_
  exact ⟨rfl, rfl⟩
set_option maxRecDepth 100000 in
set_option maxHeartbeats 4000000 in
theorem c_yearAt_a {M : qMem} {l : List (Nat × Int32)} {i : Nat} (hS : XS_a M l) (hi : i < l.length) : qSem 0 mX6_yearAt [.ref 101, .int (nI i)] M (qr (nI (yr l i)) M) := by
  have h2 := hS.2.1
  refine qSem.of (by decide +kernel) (Nat.le_of_ble_eq_true rfl) (fun w => ?_)
  refine R_ls (L' := [(0, .ref 101), (1, .int (nI i))]) (qs1 rfl (qs1 rfl qs0)) ?_
  refine R_aload_n dX6_yearAt_0 rfl ?_
  refine R_getR dX6_yearAt_1 lg_RX6_15 (by decide) rfl rfl ?_
  refine R_iload_n dX6_yearAt_4 rfl ?_
  refine R_ialdN dX6_yearAt_5 (by decide) rfl (by omega) (by decide) ?_
  refine R_top (y := nI (yr l i)) (hS.2.2.1 i hi).2 ?_
  refine R_ireturn dX6_yearAt_6 rfl rfl ?_
  exact ⟨rfl, rfl⟩
set_option maxRecDepth 100000 in
set_option maxHeartbeats 4000000 in
theorem c_mean_a {M : qMem} {l : List (Nat × Int32)} {i j : Nat} (hS : XS_a M l) (hi : i ≤ l.length) (hj : j ≤ l.length) : qSem 0 mX6_scaledMean [.ref 101, .int (nI i), .int (nI j)] M (ql (mea l i j) M) := by
  have h2 := hS.2.1
  refine qSem.of (by decide +kernel) (Nat.le_of_ble_eq_true rfl) (fun w => ?_)
  refine R_ls (L' := [(0, .ref 101), (1, .int (nI i)), (2, .int (nI j))]) (qs1 rfl (qs1 rfl (qs1 rfl qs0))) ?_
  refine R_iload_n dX6_scaledMean_0 rfl ?_
  refine R_iload_n dX6_scaledMean_1 rfl ?_
  refine R_icmp_gtN (tgt := 9) dX6_scaledMean_2 (by decide) (by omega) (by omega) (fun h_2 => ?_) (fun h_2 => ?_)
  · refine R_aload_n dX6_scaledMean_9 rfl ?_
    refine R_getR dX6_scaledMean_10 lg_RX6_18 (by decide) rfl rfl ?_
    refine R_iload_n dX6_scaledMean_13 rfl ?_
    refine R_laldN dX6_scaledMean_14 (by decide) rfl (by omega) (by decide) ?_
    refine R_topL (y := S1 l j) (hS.2.2.2 j hj).1 ?_
    refine R_aload_n dX6_scaledMean_15 rfl ?_
    refine R_getR dX6_scaledMean_16 lg_RX6_18 (by decide) rfl rfl ?_
    refine R_iload_n dX6_scaledMean_19 rfl ?_
    refine R_laldN dX6_scaledMean_20 (by decide) rfl (by omega) (by decide) ?_
    refine R_topL (y := S1 l i) (hS.2.2.2 i hi).1 ?_
    refine R_lsub dX6_scaledMean_21 ?_
    refine R_ldc (v := nI 720720) dX6_scaledMean_22 lc_RX6_46 ?_
    refine R_iload_n dX6_scaledMean_24 rfl ?_
    refine R_iload_n dX6_scaledMean_25 rfl ?_
    refine R_isubN dX6_scaledMean_26 (by omega) ?_
    refine R_idivN dX6_scaledMean_27 (by omega) (by omega) (by omega) ?_
    refine R_i2l dX6_scaledMean_28 ?_
    refine R_lmul dX6_scaledMean_29 ?_
    refine R_lreturn dX6_scaledMean_30 rfl ?_
    exact ⟨by unfold mea; first | rw [if_neg (by omega)]; rfl | rw [if_pos (by omega)], rfl⟩
  · refine R_lconst (v := 0) dX6_scaledMean_5 rfl ?_
    refine R_goto (tgt := 30) dX6_scaledMean_6 (by decide) ?_
    refine R_lreturn dX6_scaledMean_30 rfl ?_
    exact ⟨by unfold mea; first | rw [if_neg (by omega)]; rfl | rw [if_pos (by omega)], rfl⟩
set_option maxRecDepth 100000 in
set_option maxHeartbeats 4000000 in
theorem c_spread_a {M : qMem} {l : List (Nat × Int32)} {i j : Nat} (hS : XS_a M l) (hi : i ≤ l.length) (hj : j ≤ l.length) : qSem 0 mX6_scaledSpread [.ref 101, .int (nI i), .int (nI j)] M (ql (spd l i j) M) := by
  have h2 := hS.2.1
  refine qSem.of (by decide +kernel) (Nat.le_of_ble_eq_true rfl) (fun w => ?_)
  refine R_ls (L' := [(0, .ref 101), (1, .int (nI i)), (2, .int (nI j))]) (qs1 rfl (qs1 rfl (qs1 rfl qs0))) ?_
  refine R_iload_n dX6_scaledSpread_0 rfl ?_
  refine R_iload_n dX6_scaledSpread_1 rfl ?_
  refine R_icmp_gtN (tgt := 7) dX6_scaledSpread_2 (by decide) (by omega) (by omega) (fun h_2 => ?_) (fun h_2 => ?_)
  · refine R_iload_n dX6_scaledSpread_7 rfl ?_
    refine R_iload_n dX6_scaledSpread_8 rfl ?_
    refine R_isubN dX6_scaledSpread_9 (by omega) ?_
    refine R_istore_n (L' := [(0, .ref 101), (1, .int (nI i)), (2, .int (nI j)), (3, .int (nI (j - i)))]) dX6_scaledSpread_10 (by decide) (qs1 rfl (qs1 rfl (qs1 rfl (qs1 rfl qs0)))) ?_
    refine R_aload_n dX6_scaledSpread_11 rfl ?_
    refine R_getR dX6_scaledSpread_12 lg_RX6_18 (by decide) rfl rfl ?_
    refine R_iload_n dX6_scaledSpread_15 rfl ?_
    refine R_laldN dX6_scaledSpread_16 (by decide) rfl (by omega) (by decide) ?_
    refine R_topL (y := S1 l j) (hS.2.2.2 j hj).1 ?_
    refine R_aload_n dX6_scaledSpread_17 rfl ?_
    refine R_getR dX6_scaledSpread_18 lg_RX6_18 (by decide) rfl rfl ?_
    refine R_iload_n dX6_scaledSpread_21 rfl ?_
    refine R_laldN dX6_scaledSpread_22 (by decide) rfl (by omega) (by decide) ?_
    refine R_topL (y := S1 l i) (hS.2.2.2 i hi).1 ?_
    refine R_lsub dX6_scaledSpread_23 ?_
    refine R_lstore (L' := [(0, .ref 101), (1, .int (nI i)), (2, .int (nI j)), (3, .int (nI (j - i))), (4, .long _)]) dX6_scaledSpread_24 (by decide) (qs1 rfl (qs1 rfl (qs1 rfl (qs1 rfl (qs1 rfl qs0))))) ?_
    refine R_iload_n dX6_scaledSpread_26 rfl ?_
    refine R_i2l dX6_scaledSpread_27 ?_
    refine R_aload_n dX6_scaledSpread_28 rfl ?_
    refine R_getR dX6_scaledSpread_29 lg_RX6_22 (by decide) rfl rfl ?_
    refine R_iload_n dX6_scaledSpread_32 rfl ?_
    refine R_laldN dX6_scaledSpread_33 (by decide) rfl (by omega) (by decide) ?_
    refine R_topL (y := S2 l j) (hS.2.2.2 j hj).2 ?_
    refine R_aload_n dX6_scaledSpread_34 rfl ?_
    refine R_getR dX6_scaledSpread_35 lg_RX6_22 (by decide) rfl rfl ?_
    refine R_iload_n dX6_scaledSpread_38 rfl ?_
    refine R_laldN dX6_scaledSpread_39 (by decide) rfl (by omega) (by decide) ?_
    refine R_topL (y := S2 l i) (hS.2.2.2 i hi).2 ?_
    refine R_lsub dX6_scaledSpread_40 ?_
    refine R_lmul dX6_scaledSpread_41 ?_
    refine R_lload dX6_scaledSpread_42 rfl ?_
    refine R_lload dX6_scaledSpread_44 rfl ?_
    refine R_lmul dX6_scaledSpread_46 ?_
    refine R_lsub dX6_scaledSpread_47 ?_
    refine R_ldc (v := nI 720720) dX6_scaledSpread_48 lc_RX6_46 ?_
    refine R_iload_n dX6_scaledSpread_50 rfl ?_
    refine R_idivN dX6_scaledSpread_51 (by omega) (by omega) (by omega) ?_
    refine R_i2l dX6_scaledSpread_52 ?_
    refine R_lmul dX6_scaledSpread_53 ?_
    refine R_lreturn dX6_scaledSpread_54 rfl ?_
    exact ⟨by unfold spd; rw [if_neg (by omega)]; rfl, rfl⟩
  · refine R_lconst (v := 0) dX6_scaledSpread_5 rfl ?_
    refine R_lreturn dX6_scaledSpread_6 rfl ?_
    exact ⟨by unfold spd; rw [if_pos (by omega)], rfl⟩

set_option maxRecDepth 100000 in
set_option maxHeartbeats 4000000 in
theorem l_compare_a {w : qWT} {M : qMem} {d : dT} (hX : XR 14 M d) (hB : dB d) {u v_ : Nat} (hu : u < dK d) (hv : v_ < dK d) : ∀ (fu : Nat) (t : Nat) (K : qMem), (dY d + 1 - t) < fu → (t ≤ dY d) → (XS_a K (serTo d u v_ t)) → (qOff oSe_a M K) → qRW 0 w mX6_compare 8 [(0, .ref 101), (1, .ref 14), (2, .int (nI u)), (3, .int (nI v_)), (4, .int (nI t))] [] K (fun v N => v = none ∧ XS_a N (ser d u v_) ∧ qOff oSe_a M N) := by
  intro fu
  induction fu with
  | zero => intro t K hn; exact absurd hn (Nat.not_lt_zero _)
  | succ fu ih =>
    intro t K hn ht hSK hO
    have hXK : XR 14 K d := hX.off hB.2.1 (fun o h1 h2 => (hO o (by unfold oSe_a; omega)).1)
    have hK6 := hB.2.1
    have hY := hB.1
    have hsl := serTo_len d u v_ t
    refine R_iload dX6_compare_8 rfl ?_
    refine R_aload_n dX6_compare_10 rfl ?_
    refine R_callV (mc := mX3_years) (As := []) (r := 14) dX6_compare_11 lm_RX6_29 mv_X3_years rfl (by decide) rfl rfl rfl rfl (Nat.le_of_ble_eq_true rfl) c_years_14 ?_
    rintro _ _ ⟨rfl, rfl⟩
    refine R_top (y := nI (dY d)) hXK.1 ?_
    refine R_icmp_geN (tgt := 64) dX6_compare_14 (by decide) (by omega) (by omega) (fun h_14 => ?_) (fun h_14 => ?_)
    · refine R_return dX6_compare_64 rfl ?_
      have e : t = dY d := by omega
      subst e
      exact ⟨rfl, hSK, hO⟩
    · refine R_aload_n dX6_compare_17 rfl ?_
      refine R_iload_n dX6_compare_18 rfl ?_
      refine R_iload dX6_compare_19 rfl ?_
      refine R_callV (mc := mX3_has) (As := [_, _]) (r := 14) dX6_compare_21 lm_RX6_34 mv_X3_has rfl (by decide) rfl rfl rfl rfl (Nat.le_of_ble_eq_true rfl) (c_has_14 (by omega) (by omega)) ?_
      rintro _ _ ⟨rfl, ⟨rfl, hp⟩ | ⟨rfl, hp⟩⟩
      · refine R_if_eqN (tgt := 58) dX6_compare_24 (by decide) (by omega) (fun h_24 => by exact absurd h_24 (by decide)) (fun h_24 => ?_)
        refine R_aload_n dX6_compare_27 rfl ?_
        refine R_iload_n dX6_compare_28 rfl ?_
        refine R_iload dX6_compare_29 rfl ?_
        refine R_callV (mc := mX3_has) (As := [_, _]) (r := 14) dX6_compare_31 lm_RX6_34 mv_X3_has rfl (by decide) rfl rfl rfl rfl (Nat.le_of_ble_eq_true rfl) (c_has_14 (by omega) (by omega)) ?_
        rintro _ _ ⟨rfl, ⟨rfl, hq⟩ | ⟨rfl, hq⟩⟩
        · refine R_if_eqN (tgt := 58) dX6_compare_34 (by decide) (by omega) (fun h_34 => by exact absurd h_34 (by decide)) (fun h_34 => ?_)
          refine R_aload_n dX6_compare_37 rfl ?_
          refine R_iload dX6_compare_38 rfl ?_
          refine R_aload_n dX6_compare_40 rfl ?_
          refine R_iload_n dX6_compare_41 rfl ?_
          refine R_iload dX6_compare_42 rfl ?_
          refine R_callV (mc := mX3_at) (As := [_, _]) (r := 14) dX6_compare_44 lm_RX6_38 mv_X3_at rfl (by decide) rfl rfl rfl rfl (Nat.le_of_ble_eq_true rfl) (c_at_14 (by omega) (by omega)) ?_
          rintro _ _ ⟨rfl, rfl⟩
          refine R_aload_n dX6_compare_47 rfl ?_
          refine R_iload_n dX6_compare_48 rfl ?_
          refine R_iload dX6_compare_49 rfl ?_
          refine R_callV (mc := mX3_at) (As := [_, _]) (r := 14) dX6_compare_51 lm_RX6_38 mv_X3_at rfl (by decide) rfl rfl rfl rfl (Nat.le_of_ble_eq_true rfl) (c_at_14 (by omega) (by omega)) ?_
          rintro _ _ ⟨rfl, rfl⟩
          refine R_isub dX6_compare_54 ?_
          refine R_callV (mc := mX6_add) (As := [_, _]) (r := 101) dX6_compare_55 lm_RX6_42 mv_X6_add rfl (by decide) rfl rfl rfl rfl (Nat.le_of_ble_eq_true rfl) (c_sadd_a hSK (by omega)) ?_
          rintro _ _ ⟨rfl, hS2, hO2⟩
          refine R_iincN (n := 1) (L' := [(0, .ref 101), (1, .ref 14), (2, .int (nI u)), (3, .int (nI v_)), (4, .int (nI (t + 1)))]) dX6_compare_58 rfl (by decide) (qs1 rfl (qs1 rfl (qs1 rfl (qs1 rfl (qs1 rfl qs0))))) ?_
          refine R_goto (tgt := 8) dX6_compare_61 (by decide) ?_
          refine R_ls (L' := [(0, .ref 101), (1, .ref 14), (2, .int (nI u)), (3, .int (nI v_)), (4, .int (nI (t + 1)))]) (qs1 rfl (qs1 rfl (qs1 rfl (qs1 rfl (qs1 rfl qs0))))) ?_
          exact (by first | (refine ih (t + 1) _ (by omega) (by omega) ?_ (hO.tr hO2); rw [ser_s (dV_some hXK hB hu (by omega) hp) (dV_some hXK hB hv (by omega) hq)]; exact hS2) | (refine ih (t + 1) _ (by omega) (by omega) ?_ hO; rw [ser_n (by unfold serAt; first | rw [dV_none hXK hB hu (by omega) hp] | (rw [dV_none hXK hB hv (by omega) hq]; cases dV d u t <;> rfl))]; exact hSK))
        · refine R_if_eqN (tgt := 58) dX6_compare_34 (by decide) (by omega) (fun h_34 => ?_) (fun h_34 => by exact absurd h_34 (by decide))
          refine R_iincN (n := 1) (L' := [(0, .ref 101), (1, .ref 14), (2, .int (nI u)), (3, .int (nI v_)), (4, .int (nI (t + 1)))]) dX6_compare_58 rfl (by decide) (qs1 rfl (qs1 rfl (qs1 rfl (qs1 rfl (qs1 rfl qs0))))) ?_
          refine R_goto (tgt := 8) dX6_compare_61 (by decide) ?_
          refine R_ls (L' := [(0, .ref 101), (1, .ref 14), (2, .int (nI u)), (3, .int (nI v_)), (4, .int (nI (t + 1)))]) (qs1 rfl (qs1 rfl (qs1 rfl (qs1 rfl (qs1 rfl qs0))))) ?_
          exact (by first | (refine ih (t + 1) _ (by omega) (by omega) ?_ (hO.tr hO2); rw [ser_s (dV_some hXK hB hu (by omega) hp) (dV_some hXK hB hv (by omega) hq)]; exact hS2) | (refine ih (t + 1) _ (by omega) (by omega) ?_ hO; rw [ser_n (by unfold serAt; first | rw [dV_none hXK hB hu (by omega) hp] | (rw [dV_none hXK hB hv (by omega) hq]; cases dV d u t <;> rfl))]; exact hSK))
      · refine R_if_eqN (tgt := 58) dX6_compare_24 (by decide) (by omega) (fun h_24 => ?_) (fun h_24 => by exact absurd h_24 (by decide))
        refine R_iincN (n := 1) (L' := [(0, .ref 101), (1, .ref 14), (2, .int (nI u)), (3, .int (nI v_)), (4, .int (nI (t + 1)))]) dX6_compare_58 rfl (by decide) (qs1 rfl (qs1 rfl (qs1 rfl (qs1 rfl (qs1 rfl qs0))))) ?_
        refine R_goto (tgt := 8) dX6_compare_61 (by decide) ?_
        refine R_ls (L' := [(0, .ref 101), (1, .ref 14), (2, .int (nI u)), (3, .int (nI v_)), (4, .int (nI (t + 1)))]) (qs1 rfl (qs1 rfl (qs1 rfl (qs1 rfl (qs1 rfl qs0))))) ?_
        exact (by first | (refine ih (t + 1) _ (by omega) (by omega) ?_ (hO.tr hO2); rw [ser_s (dV_some hXK hB hu (by omega) hp) (dV_some hXK hB hv (by omega) hq)]; exact hS2) | (refine ih (t + 1) _ (by omega) (by omega) ?_ hO; rw [ser_n (by unfold serAt; first | rw [dV_none hXK hB hu (by omega) hp] | (rw [dV_none hXK hB hv (by omega) hq]; cases dV d u t <;> rfl))]; exact hSK))
set_option maxRecDepth 100000 in
set_option maxHeartbeats 4000000 in
theorem c_compare_a {M : qMem} {d : dT} (hX : XR 14 M d) (hB : dB d) (h0 : M.2 104 0 = 0 ∧ M.2 105 0 = 0) {u v_ : Nat} (hu : u < dK d) (hv : v_ < dK d) : qSem 0 mX6_compare [.ref 101, .ref 14, .int (nI u), .int (nI v_)] M (fun v N => v = none ∧ XS_a N (ser d u v_) ∧ qOff oSe_a M N) := by
  refine qSem.of (by decide +kernel) (Nat.le_of_ble_eq_true rfl) (fun w => ?_)
  refine R_ls (L' := [(0, .ref 101), (1, .ref 14), (2, .int (nI u)), (3, .int (nI v_))]) (qs1 rfl (qs1 rfl (qs1 rfl (qs1 rfl qs0)))) ?_
  refine R_aload_n dX6_compare_0 rfl ?_
  refine R_iconst (v := nI 0) dX6_compare_1 rfl ?_
  refine R_putI dX6_compare_2 lf_RX6_25 (by decide) rfl rfl rfl rfl ?_
  refine R_iconst (v := nI 0) dX6_compare_5 rfl ?_
  refine R_istore (L' := [(0, .ref 101), (1, .ref 14), (2, .int (nI u)), (3, .int (nI v_)), (4, .int (nI 0))]) dX6_compare_6 (by decide) (qs1 rfl (qs1 rfl (qs1 rfl (qs1 rfl (qs1 rfl qs0))))) ?_
  refine R_ls (L' := [(0, .ref 101), (1, .ref 14), (2, .int (nI u)), (3, .int (nI v_)), (4, .int (nI 0))]) (qs1 rfl (qs1 rfl (qs1 rfl (qs1 rfl (qs1 rfl qs0))))) ?_
  exact (l_compare_a hX hB hu hv (dY d + 2) 0 _ (by omega) (by omega) ⟨qIs_eq _ _ _ _, Nat.zero_le _, fun i hi => absurd hi (Nat.not_lt_zero i), fun i hi => by have e : i = 0 := Nat.le_zero.mp hi; subst e; exact h0⟩ (qOff.is qOff.rf (by unfold oSe_a; omega)))

/-- the series' memory holds l -/
def XS_c (M : qMem) (l : List (Nat × Int32)) : Prop := M.1 106 0 = nI l.length ∧ l.length ≤ 16 ∧ (∀ i, i < l.length → M.1 107 i = en l i ∧ M.1 108 i = nI (yr l i)) ∧ (∀ i, i ≤ l.length → M.2 109 i = S1 l i ∧ M.2 110 i = S2 l i)

def oSe_c (o : Nat) : Prop := 106 ≤ o ∧ o < 111
theorem XS_c.off {M N : qMem} {l : List (Nat × Int32)} (h : XS_c M l) (e : ∀ o, 106 ≤ o → o ≤ 110 → N.1 o = M.1 o ∧ N.2 o = M.2 o) : XS_c N l :=
  ⟨by rw [(e 106 (by omega) (by omega)).1]; exact h.1, h.2.1, fun i hi => by rw [(e 107 (by omega) (by omega)).1, (e 108 (by omega) (by omega)).1]; exact h.2.2.1 i hi, fun i hi => by rw [(e 109 (by omega) (by omega)).2, (e 110 (by omega) (by omega)).2]; exact h.2.2.2 i hi⟩
theorem XS_add_c {M N : qMem} {l : List (Nat × Int32)} {t : Nat} {x : Int32} (h : XS_c M l) (hl : l.length < 16) (e0 : N.1 106 0 = nI (l.length + 1)) (e1 : N.1 107 = upd (M.1 107) l.length x) (e2 : N.1 108 = upd (M.1 108) l.length (nI t))
    (e3 : N.2 109 = vp_updL (M.2 109) (l.length + 1) (M.2 109 l.length + x.toInt64)) (e4 : N.2 110 = vp_updL (M.2 110) (l.length + 1) (M.2 110 l.length + x.toInt64 * x.toInt64)) : XS_c N (l ++ [(t, x)]) := by
  have hL : (l ++ [(t, x)]).length = l.length + 1 := by simp
  refine ⟨by rw [hL]; exact e0, by omega, fun i hi => ?_, fun i hi => ?_⟩
  · rw [e1, e2]
    by_cases h2 : i < l.length
    · rw [pk_un (by omega), pk_un (by omega), en_app h2, yr_app h2]
      exact h.2.2.1 i h2
    · have e : i = l.length := by omega
      subst e
      rw [pk_us, pk_us, en_last, yr_last]
      exact ⟨rfl, rfl⟩
  · rw [e3, e4]
    by_cases h2 : i ≤ l.length
    · rw [pk_uLn (by omega), pk_uLn (by omega), S1_app h2, S2_app h2]
      exact h.2.2.2 i h2
    · have e : i = l.length + 1 := by omega
      subst e
      rw [pk_uLs, pk_uLs, S1, S2, S1_app (Nat.le_refl _), S2_app (Nat.le_refl _), en_last, (h.2.2.2 l.length (Nat.le_refl _)).1, (h.2.2.2 l.length (Nat.le_refl _)).2]
      exact ⟨rfl, rfl⟩
set_option maxRecDepth 100000 in
set_option maxHeartbeats 4000000 in
theorem c_sadd_c {M : qMem} {l : List (Nat × Int32)} {t : Nat} {x : Int32} (hS : XS_c M l) (hl : l.length < 16) : qSem 0 mX6_add [.ref 106, .int (nI t), .int (x)] M (fun v N => v = none ∧ XS_c N (l ++ [(t, x)]) ∧ qOff oSe_c M N) := by
  refine qSem.of (by decide +kernel) (Nat.le_of_ble_eq_true rfl) (fun w => ?_)
  refine R_ls (L' := [(0, .ref 106), (1, .int (nI t)), (2, .int (x))]) (qs1 rfl (qs1 rfl (qs1 rfl qs0))) ?_
  refine R_aload_n dX6_add_0 rfl ?_
  refine R_getI dX6_add_1 (lf_RX6_25).get (by decide) rfl rfl ?_
  refine R_top (y := nI l.length) (by exact hS.1) ?_
  refine R_bipush (v := nI 16) dX6_add_4 rfl ?_
  refine R_icmp_ltN (tgt := 10) dX6_add_6 (by decide) (by omega) (by omega) (fun h_6 => ?_) (fun h_6 => by omega)
  refine R_aload_n dX6_add_10 rfl ?_
  refine R_getR dX6_add_11 lg_RX6_9 (by decide) rfl rfl ?_
  refine R_aload_n dX6_add_14 rfl ?_
  refine R_getI dX6_add_15 (lf_RX6_25).get (by decide) rfl rfl ?_
  refine R_top (y := nI l.length) (by exact hS.1) ?_
  refine R_iload_n dX6_add_18 rfl ?_
  refine R_iastN dX6_add_19 (by decide) rfl (by omega) (by decide) ?_
  refine R_aload_n dX6_add_20 rfl ?_
  refine R_getR dX6_add_21 lg_RX6_15 (by decide) rfl rfl ?_
  refine R_aload_n dX6_add_24 rfl ?_
  refine R_getI dX6_add_25 (lf_RX6_25).get (by decide) rfl rfl ?_
  refine R_top (y := nI l.length) (by rw [qIs_no (by decide)]; exact hS.1) ?_
  refine R_iload_n dX6_add_28 rfl ?_
  refine R_iastN dX6_add_29 (by decide) rfl (by omega) (by decide) ?_
  refine R_aload_n dX6_add_30 rfl ?_
  refine R_getR dX6_add_31 lg_RX6_18 (by decide) rfl rfl ?_
  refine R_aload_n dX6_add_34 rfl ?_
  refine R_getI dX6_add_35 (lf_RX6_25).get (by decide) rfl rfl ?_
  refine R_top (y := nI l.length) (by rw [qIs_no (by decide)]; rw [qIs_no (by decide)]; exact hS.1) ?_
  refine R_iconst (v := nI 1) dX6_add_38 rfl ?_
  refine R_iaddN dX6_add_39 ?_
  refine R_aload_n dX6_add_40 rfl ?_
  refine R_getR dX6_add_41 lg_RX6_18 (by decide) rfl rfl ?_
  refine R_aload_n dX6_add_44 rfl ?_
  refine R_getI dX6_add_45 (lf_RX6_25).get (by decide) rfl rfl ?_
  refine R_top (y := nI l.length) (by rw [qIs_no (by decide)]; rw [qIs_no (by decide)]; exact hS.1) ?_
  refine R_laldN dX6_add_48 (by decide) rfl (by omega) (by decide) ?_
  refine R_iload_n dX6_add_49 rfl ?_
  refine R_i2l dX6_add_50 ?_
  refine R_ladd dX6_add_51 ?_
  refine R_lastN dX6_add_52 (by decide) rfl (by omega) (by decide) ?_
  refine R_aload_n dX6_add_53 rfl ?_
  refine R_getR dX6_add_54 lg_RX6_22 (by decide) rfl rfl ?_
  refine R_aload_n dX6_add_57 rfl ?_
  refine R_getI dX6_add_58 (lf_RX6_25).get (by decide) rfl rfl ?_
  refine R_top (y := nI l.length) (by rw [qLs_1]; rw [qIs_no (by decide)]; rw [qIs_no (by decide)]; exact hS.1) ?_
  refine R_iconst (v := nI 1) dX6_add_61 rfl ?_
  refine R_iaddN dX6_add_62 ?_
  refine R_aload_n dX6_add_63 rfl ?_
  refine R_getR dX6_add_64 lg_RX6_22 (by decide) rfl rfl ?_
  refine R_aload_n dX6_add_67 rfl ?_
  refine R_getI dX6_add_68 (lf_RX6_25).get (by decide) rfl rfl ?_
  refine R_top (y := nI l.length) (by rw [qLs_1]; rw [qIs_no (by decide)]; rw [qIs_no (by decide)]; exact hS.1) ?_
  refine R_laldN dX6_add_71 (by decide) rfl (by omega) (by decide) ?_
  refine R_iload_n dX6_add_72 rfl ?_
  refine R_i2l dX6_add_73 ?_
  refine R_iload_n dX6_add_74 rfl ?_
  refine R_i2l dX6_add_75 ?_
  refine R_lmul dX6_add_76 ?_
  refine R_ladd dX6_add_77 ?_
  refine R_lastN dX6_add_78 (by decide) rfl (by omega) (by decide) ?_
  refine R_aload_n dX6_add_79 rfl ?_
  refine R_dup dX6_add_80 rfl ?_
  refine R_getI dX6_add_81 (lf_RX6_25).get (by decide) rfl rfl ?_
  refine R_top (y := nI l.length) (by rw [qLs_1]; rw [qLs_1]; rw [qIs_no (by decide)]; rw [qIs_no (by decide)]; exact hS.1) ?_
  refine R_iconst (v := nI 1) dX6_add_84 rfl ?_
  refine R_iaddN dX6_add_85 ?_
  refine R_putI dX6_add_86 lf_RX6_25 (by decide) rfl rfl rfl rfl ?_
  refine R_return dX6_add_89 rfl ?_
  refine ⟨rfl, XS_add_c hS hl (qIs_eq _ _ _ _) ?_ ?_ ?_ ?_, ?_⟩
  · funext j; simp only [qIs_1, qIs_2, qLs_1, qLs_2, upd, vp_updL, true_and, Nat.reduceAdd, Nat.reduceEqDiff, false_and, if_false]; try rfl
  · funext j; simp only [qIs_1, qIs_2, qLs_1, qLs_2, upd, vp_updL, true_and, Nat.reduceAdd, Nat.reduceEqDiff, false_and, if_false]; try rfl
  · funext j; simp only [qIs_1, qIs_2, qLs_1, qLs_2, upd, vp_updL, true_and, Nat.reduceAdd, Nat.reduceEqDiff, false_and, if_false]; try rfl
  · funext j; simp only [qIs_1, qIs_2, qLs_1, qLs_2, upd, vp_updL, true_and, Nat.reduceAdd, Nat.reduceEqDiff, false_and, if_false]; try rfl
  · repeat (first | exact qOff.rf | refine qOff.is ?_ (by unfold oSe_c; omega) | refine qOff.ls ?_ (by unfold oSe_c; omega))
set_option maxRecDepth 100000 in
set_option maxHeartbeats 4000000 in
theorem c_slen_c {M : qMem} {l : List (Nat × Int32)} (hS : XS_c M l) : qSem 0 mX6_length [.ref 106] M (qr (nI l.length) M) := by
  refine qSem.of (by decide +kernel) (Nat.le_of_ble_eq_true rfl) (fun w => ?_)
  refine R_ls (L' := [(0, .ref 106)]) (qs1 rfl qs0) ?_
  refine R_aload_n dX6_length_0 rfl ?_
  refine R_getI dX6_length_1 (lf_RX6_25).get (by decide) rfl rfl ?_
  refine R_top (y := nI l.length) hS.1 ?_
  refine R_ireturn dX6_length_4 rfl rfl ?_
  exact ⟨rfl, rfl⟩
set_option maxRecDepth 100000 in
set_option maxHeartbeats 4000000 in
theorem c_yearAt_c {M : qMem} {l : List (Nat × Int32)} {i : Nat} (hS : XS_c M l) (hi : i < l.length) : qSem 0 mX6_yearAt [.ref 106, .int (nI i)] M (qr (nI (yr l i)) M) := by
  have h2 := hS.2.1
  refine qSem.of (by decide +kernel) (Nat.le_of_ble_eq_true rfl) (fun w => ?_)
  refine R_ls (L' := [(0, .ref 106), (1, .int (nI i))]) (qs1 rfl (qs1 rfl qs0)) ?_
  refine R_aload_n dX6_yearAt_0 rfl ?_
  refine R_getR dX6_yearAt_1 lg_RX6_15 (by decide) rfl rfl ?_
  refine R_iload_n dX6_yearAt_4 rfl ?_
  refine R_ialdN dX6_yearAt_5 (by decide) rfl (by omega) (by decide) ?_
  refine R_top (y := nI (yr l i)) (hS.2.2.1 i hi).2 ?_
  refine R_ireturn dX6_yearAt_6 rfl rfl ?_
  exact ⟨rfl, rfl⟩
set_option maxRecDepth 100000 in
set_option maxHeartbeats 4000000 in
theorem c_mean_c {M : qMem} {l : List (Nat × Int32)} {i j : Nat} (hS : XS_c M l) (hi : i ≤ l.length) (hj : j ≤ l.length) : qSem 0 mX6_scaledMean [.ref 106, .int (nI i), .int (nI j)] M (ql (mea l i j) M) := by
  have h2 := hS.2.1
  refine qSem.of (by decide +kernel) (Nat.le_of_ble_eq_true rfl) (fun w => ?_)
  refine R_ls (L' := [(0, .ref 106), (1, .int (nI i)), (2, .int (nI j))]) (qs1 rfl (qs1 rfl (qs1 rfl qs0))) ?_
  refine R_iload_n dX6_scaledMean_0 rfl ?_
  refine R_iload_n dX6_scaledMean_1 rfl ?_
  refine R_icmp_gtN (tgt := 9) dX6_scaledMean_2 (by decide) (by omega) (by omega) (fun h_2 => ?_) (fun h_2 => ?_)
  · refine R_aload_n dX6_scaledMean_9 rfl ?_
    refine R_getR dX6_scaledMean_10 lg_RX6_18 (by decide) rfl rfl ?_
    refine R_iload_n dX6_scaledMean_13 rfl ?_
    refine R_laldN dX6_scaledMean_14 (by decide) rfl (by omega) (by decide) ?_
    refine R_topL (y := S1 l j) (hS.2.2.2 j hj).1 ?_
    refine R_aload_n dX6_scaledMean_15 rfl ?_
    refine R_getR dX6_scaledMean_16 lg_RX6_18 (by decide) rfl rfl ?_
    refine R_iload_n dX6_scaledMean_19 rfl ?_
    refine R_laldN dX6_scaledMean_20 (by decide) rfl (by omega) (by decide) ?_
    refine R_topL (y := S1 l i) (hS.2.2.2 i hi).1 ?_
    refine R_lsub dX6_scaledMean_21 ?_
    refine R_ldc (v := nI 720720) dX6_scaledMean_22 lc_RX6_46 ?_
    refine R_iload_n dX6_scaledMean_24 rfl ?_
    refine R_iload_n dX6_scaledMean_25 rfl ?_
    refine R_isubN dX6_scaledMean_26 (by omega) ?_
    refine R_idivN dX6_scaledMean_27 (by omega) (by omega) (by omega) ?_
    refine R_i2l dX6_scaledMean_28 ?_
    refine R_lmul dX6_scaledMean_29 ?_
    refine R_lreturn dX6_scaledMean_30 rfl ?_
    exact ⟨by unfold mea; first | rw [if_neg (by omega)]; rfl | rw [if_pos (by omega)], rfl⟩
  · refine R_lconst (v := 0) dX6_scaledMean_5 rfl ?_
    refine R_goto (tgt := 30) dX6_scaledMean_6 (by decide) ?_
    refine R_lreturn dX6_scaledMean_30 rfl ?_
    exact ⟨by unfold mea; first | rw [if_neg (by omega)]; rfl | rw [if_pos (by omega)], rfl⟩
set_option maxRecDepth 100000 in
set_option maxHeartbeats 4000000 in
theorem c_spread_c {M : qMem} {l : List (Nat × Int32)} {i j : Nat} (hS : XS_c M l) (hi : i ≤ l.length) (hj : j ≤ l.length) : qSem 0 mX6_scaledSpread [.ref 106, .int (nI i), .int (nI j)] M (ql (spd l i j) M) := by
  have h2 := hS.2.1
  refine qSem.of (by decide +kernel) (Nat.le_of_ble_eq_true rfl) (fun w => ?_)
  refine R_ls (L' := [(0, .ref 106), (1, .int (nI i)), (2, .int (nI j))]) (qs1 rfl (qs1 rfl (qs1 rfl qs0))) ?_
  refine R_iload_n dX6_scaledSpread_0 rfl ?_
  refine R_iload_n dX6_scaledSpread_1 rfl ?_
  refine R_icmp_gtN (tgt := 7) dX6_scaledSpread_2 (by decide) (by omega) (by omega) (fun h_2 => ?_) (fun h_2 => ?_)
  · refine R_iload_n dX6_scaledSpread_7 rfl ?_
    refine R_iload_n dX6_scaledSpread_8 rfl ?_
    refine R_isubN dX6_scaledSpread_9 (by omega) ?_
    refine R_istore_n (L' := [(0, .ref 106), (1, .int (nI i)), (2, .int (nI j)), (3, .int (nI (j - i)))]) dX6_scaledSpread_10 (by decide) (qs1 rfl (qs1 rfl (qs1 rfl (qs1 rfl qs0)))) ?_
    refine R_aload_n dX6_scaledSpread_11 rfl ?_
    refine R_getR dX6_scaledSpread_12 lg_RX6_18 (by decide) rfl rfl ?_
    refine R_iload_n dX6_scaledSpread_15 rfl ?_
    refine R_laldN dX6_scaledSpread_16 (by decide) rfl (by omega) (by decide) ?_
    refine R_topL (y := S1 l j) (hS.2.2.2 j hj).1 ?_
    refine R_aload_n dX6_scaledSpread_17 rfl ?_
    refine R_getR dX6_scaledSpread_18 lg_RX6_18 (by decide) rfl rfl ?_
    refine R_iload_n dX6_scaledSpread_21 rfl ?_
    refine R_laldN dX6_scaledSpread_22 (by decide) rfl (by omega) (by decide) ?_
    refine R_topL (y := S1 l i) (hS.2.2.2 i hi).1 ?_
    refine R_lsub dX6_scaledSpread_23 ?_
    refine R_lstore (L' := [(0, .ref 106), (1, .int (nI i)), (2, .int (nI j)), (3, .int (nI (j - i))), (4, .long _)]) dX6_scaledSpread_24 (by decide) (qs1 rfl (qs1 rfl (qs1 rfl (qs1 rfl (qs1 rfl qs0))))) ?_
    refine R_iload_n dX6_scaledSpread_26 rfl ?_
    refine R_i2l dX6_scaledSpread_27 ?_
    refine R_aload_n dX6_scaledSpread_28 rfl ?_
    refine R_getR dX6_scaledSpread_29 lg_RX6_22 (by decide) rfl rfl ?_
    refine R_iload_n dX6_scaledSpread_32 rfl ?_
    refine R_laldN dX6_scaledSpread_33 (by decide) rfl (by omega) (by decide) ?_
    refine R_topL (y := S2 l j) (hS.2.2.2 j hj).2 ?_
    refine R_aload_n dX6_scaledSpread_34 rfl ?_
    refine R_getR dX6_scaledSpread_35 lg_RX6_22 (by decide) rfl rfl ?_
    refine R_iload_n dX6_scaledSpread_38 rfl ?_
    refine R_laldN dX6_scaledSpread_39 (by decide) rfl (by omega) (by decide) ?_
    refine R_topL (y := S2 l i) (hS.2.2.2 i hi).2 ?_
    refine R_lsub dX6_scaledSpread_40 ?_
    refine R_lmul dX6_scaledSpread_41 ?_
    refine R_lload dX6_scaledSpread_42 rfl ?_
    refine R_lload dX6_scaledSpread_44 rfl ?_
    refine R_lmul dX6_scaledSpread_46 ?_
    refine R_lsub dX6_scaledSpread_47 ?_
    refine R_ldc (v := nI 720720) dX6_scaledSpread_48 lc_RX6_46 ?_
    refine R_iload_n dX6_scaledSpread_50 rfl ?_
    refine R_idivN dX6_scaledSpread_51 (by omega) (by omega) (by omega) ?_
    refine R_i2l dX6_scaledSpread_52 ?_
    refine R_lmul dX6_scaledSpread_53 ?_
    refine R_lreturn dX6_scaledSpread_54 rfl ?_
    exact ⟨by unfold spd; rw [if_neg (by omega)]; rfl, rfl⟩
  · refine R_lconst (v := 0) dX6_scaledSpread_5 rfl ?_
    refine R_lreturn dX6_scaledSpread_6 rfl ?_
    exact ⟨by unfold spd; rw [if_pos (by omega)], rfl⟩

set_option maxRecDepth 100000 in
set_option maxHeartbeats 4000000 in
theorem l_compare_c {w : qWT} {M : qMem} {d : dT} (hX : XR 14 M d) (hB : dB d) {u v_ : Nat} (hu : u < dK d) (hv : v_ < dK d) : ∀ (fu : Nat) (t : Nat) (K : qMem), (dY d + 1 - t) < fu → (t ≤ dY d) → (XS_c K (serTo d u v_ t)) → (qOff oSe_c M K) → qRW 0 w mX6_compare 8 [(0, .ref 106), (1, .ref 14), (2, .int (nI u)), (3, .int (nI v_)), (4, .int (nI t))] [] K (fun v N => v = none ∧ XS_c N (ser d u v_) ∧ qOff oSe_c M N) := by
  intro fu
  induction fu with
  | zero => intro t K hn; exact absurd hn (Nat.not_lt_zero _)
  | succ fu ih =>
    intro t K hn ht hSK hO
    have hXK : XR 14 K d := hX.off hB.2.1 (fun o h1 h2 => (hO o (by unfold oSe_c; omega)).1)
    have hK6 := hB.2.1
    have hY := hB.1
    have hsl := serTo_len d u v_ t
    refine R_iload dX6_compare_8 rfl ?_
    refine R_aload_n dX6_compare_10 rfl ?_
    refine R_callV (mc := mX3_years) (As := []) (r := 14) dX6_compare_11 lm_RX6_29 mv_X3_years rfl (by decide) rfl rfl rfl rfl (Nat.le_of_ble_eq_true rfl) c_years_14 ?_
    rintro _ _ ⟨rfl, rfl⟩
    refine R_top (y := nI (dY d)) hXK.1 ?_
    refine R_icmp_geN (tgt := 64) dX6_compare_14 (by decide) (by omega) (by omega) (fun h_14 => ?_) (fun h_14 => ?_)
    · refine R_return dX6_compare_64 rfl ?_
      have e : t = dY d := by omega
      subst e
      exact ⟨rfl, hSK, hO⟩
    · refine R_aload_n dX6_compare_17 rfl ?_
      refine R_iload_n dX6_compare_18 rfl ?_
      refine R_iload dX6_compare_19 rfl ?_
      refine R_callV (mc := mX3_has) (As := [_, _]) (r := 14) dX6_compare_21 lm_RX6_34 mv_X3_has rfl (by decide) rfl rfl rfl rfl (Nat.le_of_ble_eq_true rfl) (c_has_14 (by omega) (by omega)) ?_
      rintro _ _ ⟨rfl, ⟨rfl, hp⟩ | ⟨rfl, hp⟩⟩
      · refine R_if_eqN (tgt := 58) dX6_compare_24 (by decide) (by omega) (fun h_24 => by exact absurd h_24 (by decide)) (fun h_24 => ?_)
        refine R_aload_n dX6_compare_27 rfl ?_
        refine R_iload_n dX6_compare_28 rfl ?_
        refine R_iload dX6_compare_29 rfl ?_
        refine R_callV (mc := mX3_has) (As := [_, _]) (r := 14) dX6_compare_31 lm_RX6_34 mv_X3_has rfl (by decide) rfl rfl rfl rfl (Nat.le_of_ble_eq_true rfl) (c_has_14 (by omega) (by omega)) ?_
        rintro _ _ ⟨rfl, ⟨rfl, hq⟩ | ⟨rfl, hq⟩⟩
        · refine R_if_eqN (tgt := 58) dX6_compare_34 (by decide) (by omega) (fun h_34 => by exact absurd h_34 (by decide)) (fun h_34 => ?_)
          refine R_aload_n dX6_compare_37 rfl ?_
          refine R_iload dX6_compare_38 rfl ?_
          refine R_aload_n dX6_compare_40 rfl ?_
          refine R_iload_n dX6_compare_41 rfl ?_
          refine R_iload dX6_compare_42 rfl ?_
          refine R_callV (mc := mX3_at) (As := [_, _]) (r := 14) dX6_compare_44 lm_RX6_38 mv_X3_at rfl (by decide) rfl rfl rfl rfl (Nat.le_of_ble_eq_true rfl) (c_at_14 (by omega) (by omega)) ?_
          rintro _ _ ⟨rfl, rfl⟩
          refine R_aload_n dX6_compare_47 rfl ?_
          refine R_iload_n dX6_compare_48 rfl ?_
          refine R_iload dX6_compare_49 rfl ?_
          refine R_callV (mc := mX3_at) (As := [_, _]) (r := 14) dX6_compare_51 lm_RX6_38 mv_X3_at rfl (by decide) rfl rfl rfl rfl (Nat.le_of_ble_eq_true rfl) (c_at_14 (by omega) (by omega)) ?_
          rintro _ _ ⟨rfl, rfl⟩
          refine R_isub dX6_compare_54 ?_
          refine R_callV (mc := mX6_add) (As := [_, _]) (r := 106) dX6_compare_55 lm_RX6_42 mv_X6_add rfl (by decide) rfl rfl rfl rfl (Nat.le_of_ble_eq_true rfl) (c_sadd_c hSK (by omega)) ?_
          rintro _ _ ⟨rfl, hS2, hO2⟩
          refine R_iincN (n := 1) (L' := [(0, .ref 106), (1, .ref 14), (2, .int (nI u)), (3, .int (nI v_)), (4, .int (nI (t + 1)))]) dX6_compare_58 rfl (by decide) (qs1 rfl (qs1 rfl (qs1 rfl (qs1 rfl (qs1 rfl qs0))))) ?_
          refine R_goto (tgt := 8) dX6_compare_61 (by decide) ?_
          refine R_ls (L' := [(0, .ref 106), (1, .ref 14), (2, .int (nI u)), (3, .int (nI v_)), (4, .int (nI (t + 1)))]) (qs1 rfl (qs1 rfl (qs1 rfl (qs1 rfl (qs1 rfl qs0))))) ?_
          exact (by first | (refine ih (t + 1) _ (by omega) (by omega) ?_ (hO.tr hO2); rw [ser_s (dV_some hXK hB hu (by omega) hp) (dV_some hXK hB hv (by omega) hq)]; exact hS2) | (refine ih (t + 1) _ (by omega) (by omega) ?_ hO; rw [ser_n (by unfold serAt; first | rw [dV_none hXK hB hu (by omega) hp] | (rw [dV_none hXK hB hv (by omega) hq]; cases dV d u t <;> rfl))]; exact hSK))
        · refine R_if_eqN (tgt := 58) dX6_compare_34 (by decide) (by omega) (fun h_34 => ?_) (fun h_34 => by exact absurd h_34 (by decide))
          refine R_iincN (n := 1) (L' := [(0, .ref 106), (1, .ref 14), (2, .int (nI u)), (3, .int (nI v_)), (4, .int (nI (t + 1)))]) dX6_compare_58 rfl (by decide) (qs1 rfl (qs1 rfl (qs1 rfl (qs1 rfl (qs1 rfl qs0))))) ?_
          refine R_goto (tgt := 8) dX6_compare_61 (by decide) ?_
          refine R_ls (L' := [(0, .ref 106), (1, .ref 14), (2, .int (nI u)), (3, .int (nI v_)), (4, .int (nI (t + 1)))]) (qs1 rfl (qs1 rfl (qs1 rfl (qs1 rfl (qs1 rfl qs0))))) ?_
          exact (by first | (refine ih (t + 1) _ (by omega) (by omega) ?_ (hO.tr hO2); rw [ser_s (dV_some hXK hB hu (by omega) hp) (dV_some hXK hB hv (by omega) hq)]; exact hS2) | (refine ih (t + 1) _ (by omega) (by omega) ?_ hO; rw [ser_n (by unfold serAt; first | rw [dV_none hXK hB hu (by omega) hp] | (rw [dV_none hXK hB hv (by omega) hq]; cases dV d u t <;> rfl))]; exact hSK))
      · refine R_if_eqN (tgt := 58) dX6_compare_24 (by decide) (by omega) (fun h_24 => ?_) (fun h_24 => by exact absurd h_24 (by decide))
        refine R_iincN (n := 1) (L' := [(0, .ref 106), (1, .ref 14), (2, .int (nI u)), (3, .int (nI v_)), (4, .int (nI (t + 1)))]) dX6_compare_58 rfl (by decide) (qs1 rfl (qs1 rfl (qs1 rfl (qs1 rfl (qs1 rfl qs0))))) ?_
        refine R_goto (tgt := 8) dX6_compare_61 (by decide) ?_
        refine R_ls (L' := [(0, .ref 106), (1, .ref 14), (2, .int (nI u)), (3, .int (nI v_)), (4, .int (nI (t + 1)))]) (qs1 rfl (qs1 rfl (qs1 rfl (qs1 rfl (qs1 rfl qs0))))) ?_
        exact (by first | (refine ih (t + 1) _ (by omega) (by omega) ?_ (hO.tr hO2); rw [ser_s (dV_some hXK hB hu (by omega) hp) (dV_some hXK hB hv (by omega) hq)]; exact hS2) | (refine ih (t + 1) _ (by omega) (by omega) ?_ hO; rw [ser_n (by unfold serAt; first | rw [dV_none hXK hB hu (by omega) hp] | (rw [dV_none hXK hB hv (by omega) hq]; cases dV d u t <;> rfl))]; exact hSK))
set_option maxRecDepth 100000 in
set_option maxHeartbeats 4000000 in
theorem c_compare_c {M : qMem} {d : dT} (hX : XR 14 M d) (hB : dB d) (h0 : M.2 109 0 = 0 ∧ M.2 110 0 = 0) {u v_ : Nat} (hu : u < dK d) (hv : v_ < dK d) : qSem 0 mX6_compare [.ref 106, .ref 14, .int (nI u), .int (nI v_)] M (fun v N => v = none ∧ XS_c N (ser d u v_) ∧ qOff oSe_c M N) := by
  refine qSem.of (by decide +kernel) (Nat.le_of_ble_eq_true rfl) (fun w => ?_)
  refine R_ls (L' := [(0, .ref 106), (1, .ref 14), (2, .int (nI u)), (3, .int (nI v_))]) (qs1 rfl (qs1 rfl (qs1 rfl (qs1 rfl qs0)))) ?_
  refine R_aload_n dX6_compare_0 rfl ?_
  refine R_iconst (v := nI 0) dX6_compare_1 rfl ?_
  refine R_putI dX6_compare_2 lf_RX6_25 (by decide) rfl rfl rfl rfl ?_
  refine R_iconst (v := nI 0) dX6_compare_5 rfl ?_
  refine R_istore (L' := [(0, .ref 106), (1, .ref 14), (2, .int (nI u)), (3, .int (nI v_)), (4, .int (nI 0))]) dX6_compare_6 (by decide) (qs1 rfl (qs1 rfl (qs1 rfl (qs1 rfl (qs1 rfl qs0))))) ?_
  refine R_ls (L' := [(0, .ref 106), (1, .ref 14), (2, .int (nI u)), (3, .int (nI v_)), (4, .int (nI 0))]) (qs1 rfl (qs1 rfl (qs1 rfl (qs1 rfl (qs1 rfl qs0))))) ?_
  exact (l_compare_c hX hB hu hv (dY d + 2) 0 _ (by omega) (by omega) ⟨qIs_eq _ _ _ _, Nat.zero_le _, fun i hi => absurd hi (Nat.not_lt_zero i), fun i hi => by have e : i = 0 := Nat.le_zero.mp hi; subst e; exact h0⟩ (qOff.is qOff.rf (by unfold oSe_c; omega)))

def oSg_c (o : Nat) : Prop := 112 ≤ o ∧ o < 117
def Row_c (K : qMem) (l : List (Nat × Int32)) (R p j : Nat) : Prop := (K.2 112 j).toInt = vl l.length R (fz l) (sP p) j (bk l.length R (fz l) (sP p) j 15) ∧ K.1 113 j = nI (bk l.length R (fz l) (sP p) j 15) ∧ K.1 114 j = nI (if bk l.length R (fz l) (sP p) j 15 = 0 then l.length else nx l.length R (fz l) (bk l.length R (fz l) (sP p) j 15) j)
def XG_c (K : qMem) (l : List (Nat × Int32)) (R p : Nat) : Prop := (K.2 112 0).toInt = vl l.length R (fz l) (sP p) 0 (bkN l R p) ∧ K.1 113 0 = nI (bkN l R p) ∧ ∀ m, m ≤ bkN l R p + 1 → K.1 116 m = nI (stN l R p m)
theorem Row_mv_c {K N : qMem} {l : List (Nat × Int32)} {R p j : Nat} (h : Row_c K l R p j) (e1 : N.2 112 j = K.2 112 j) (e2 : N.1 113 j = K.1 113 j) (e3 : N.1 114 j = K.1 114 j) : Row_c N l R p j := by
  unfold Row_c at *; rw [e1, e2, e3]; exact h
def offI_c (i : Nat) (M K : qMem) : Prop := qOff oSg_c M K ∧ ∀ j, j ≠ i → K.2 112 j = M.2 112 j ∧ K.1 113 j = M.1 113 j ∧ K.1 114 j = M.1 114 j
set_option maxRecDepth 100000 in
set_option maxHeartbeats 4000000 in
theorem l_fitFrom_c {w : qWT} {M : qMem} {l : List (Nat × Int32)} (hS : XS_c M l) (hb : serB l) {R p : Nat} (hR : 1 ≤ R) (hR4 : R ≤ 4) (hp : p ≤ 99999) {i : Nat} (hi : i < l.length) (hrow : ∀ j, i < j → j + R ≤ l.length → Row_c M l R p j) {P : Int64} (hP : P.toInt = sP p) : ∀ (fu : Nat) (j : Nat) (K : qMem) (C : Int) (b x : Nat), (l.length + 2 - j) < fu → (i + R ≤ j) → (j ≤ l.length + 5) → (Scan l.length R (fz l) (sP p) i j C b x) → (offI_c i M K) → ((K.2 112 i).toInt = C) → (K.1 113 i = nI b) → (K.1 114 i = nI x) → qRW 0 w mX5_fitFrom 45 [(0, .ref 111), (1, .int (nI i)), (2, .int (nI R)), (3, .long (P)), (5, .int (nI (l.length))), (6, .int (nI j))] [] K (fun v N => v = none ∧ offI_c i M N ∧ ((i = 0 ∨ i + R ≤ l.length) → Row_c N l R p i)) := by
  intro fu
  induction fu with
  | zero => intro j K C b x hn; exact absurd hn (Nat.not_lt_zero _)
  | succ fu ih =>
    intro j K C b x hn hij hj9 hSc hO hC hb2 hx
    have hl16 := hS.2.1
    have hPb := sP_b hp
    have hSK : XS_c K l := hS.off (fun o h1 h2 => hO.1 o (by unfold oSg_c; omega))
    have hfz := fz_b hb hl16
    have hbkj := bk_le l.length R (fz l) (sP p) j 15
    have hvj := vl_b hfz hp (R := R) (i := j) hbkj
    refine R_iload dX5_fitFrom_45 rfl ?_
    refine R_iload dX5_fitFrom_47 rfl ?_
    refine R_iload_n dX5_fitFrom_49 rfl ?_
    refine R_isub dX5_fitFrom_50 ?_
    refine R_icmp_gt (tgt := 152) dX5_fitFrom_51 (by decide) (fun h_51 => ?_) (fun h_51 => ?_)
    · have h51 := (q_subcmp (by omega) (by omega) (by omega)).mp h_51
      refine R_return dX5_fitFrom_152 rfl ?_
      refine ⟨rfl, hO, fun h0 => ?_⟩
      obtain ⟨e1, e2, e3, -⟩ := Scan_end l.length R (fz l) (sP p) hR hl16 h0 (by omega) hSc
      rw [e1] at e3 hb2
      exact ⟨hC.trans e2, hb2, by rw [hx, e3]⟩
    · have h51 : ¬ l.length < j + R := fun z => h_51 ((q_subcmp (by omega) (by omega) (by omega)).mpr z)
      have hRj := hrow j (by omega) (by omega)
      have hKj : K.2 112 j = M.2 112 j ∧ K.1 113 j = M.1 113 j ∧ K.1 114 j = M.1 114 j := hO.2 j (by omega)
      have hfij := hfz i j (by omega)
      have hc64 : (spd l i j + P + K.2 112 j).toInt = fz l i j + sP p + vl l.length R (fz l) (sP p) j (bk l.length R (fz l) (sP p) j 15) := by rw [hKj.1]; have a1 := hRj.1; have a2 : (spd l i j + P).toInt = fz l i j + sP p := (by rw [j_add (by rw [hP]; show _ ≤ fz l i j + _; omega) (by rw [hP]; show fz l i j + _ < _; omega), hP]; rfl); rw [j_add (by rw [a1, a2]; omega) (by rw [a1, a2]; omega), a1, a2]
      refine R_aload_n dX5_fitFrom_54 rfl ?_
      refine R_getR dX5_fitFrom_55 lg_RX5_12 (by decide) rfl rfl ?_
      refine R_iload_n dX5_fitFrom_58 rfl ?_
      refine R_iload dX5_fitFrom_59 rfl ?_
      refine R_callV (mc := mX6_scaledSpread) (As := [_, _]) (r := 106) dX5_fitFrom_61 lm_RX5_52 mv_X6_scaledSpread rfl (by decide) rfl rfl rfl rfl (Nat.le_of_ble_eq_true rfl) (c_spread_c hSK (by omega) (by omega)) ?_
      rintro _ _ ⟨rfl, rfl⟩
      refine R_lload_n dX5_fitFrom_64 rfl ?_
      refine R_ladd dX5_fitFrom_65 ?_
      refine R_aload_n dX5_fitFrom_66 rfl ?_
      refine R_getR dX5_fitFrom_67 lg_RX5_18 (by decide) rfl rfl ?_
      refine R_iload dX5_fitFrom_70 rfl ?_
      refine R_laldN dX5_fitFrom_72 (by decide) rfl (by omega) (by decide) ?_
      refine R_ladd dX5_fitFrom_73 ?_
      refine R_lstore (L' := [(0, .ref 111), (1, .int (nI i)), (2, .int (nI R)), (3, .long (P)), (5, .int (nI (l.length))), (6, .int (nI j)), (7, .long _)]) dX5_fitFrom_74 (by decide) (qs1 rfl (qs1 rfl (qs1 rfl (qs1 rfl (qs1 rfl (qs1 rfl (qs1 rfl qs0))))))) ?_
      refine R_aload_n dX5_fitFrom_76 rfl ?_
      refine R_getR dX5_fitFrom_77 lg_RX5_22 (by decide) rfl rfl ?_
      refine R_iload dX5_fitFrom_80 rfl ?_
      refine R_ialdN dX5_fitFrom_82 (by decide) rfl (by omega) (by decide) ?_
      refine R_top (y := nI (bk l.length R (fz l) (sP p) j 15)) (by rw [hKj.2.1]; exact hRj.2.1) ?_
      refine R_iconst (v := nI 1) dX5_fitFrom_83 rfl ?_
      refine R_iaddN dX5_fitFrom_84 ?_
      refine R_istore (L' := [(0, .ref 111), (1, .int (nI i)), (2, .int (nI R)), (3, .long (P)), (5, .int (nI (l.length))), (6, .int (nI j)), (7, .long _), (9, .int (nI ((bk l.length R (fz l) (sP p) j 15) + 1)))]) dX5_fitFrom_85 (by decide) (qs1 rfl (qs1 rfl (qs1 rfl (qs1 rfl (qs1 rfl (qs1 rfl (qs1 rfl (qs1 rfl qs0)))))))) ?_
      refine R_lload dX5_fitFrom_87 rfl ?_
      refine R_aload_n dX5_fitFrom_89 rfl ?_
      refine R_getR dX5_fitFrom_90 lg_RX5_18 (by decide) rfl rfl ?_
      refine R_iload_n dX5_fitFrom_93 rfl ?_
      refine R_laldN dX5_fitFrom_94 (by decide) rfl (by omega) (by decide) ?_
      refine R_lc_lt (tgt := 122) dX5_fitFrom_95 dX5_fitFrom_96 (by decide) (fun h_95 => ?_) (fun h_95 => ?_)
      · have hSc2 := Scan_yes l.length R (fz l) (sP p) hSc hij (by omega) (Or.inl (by rw [← hc64, ← hC]; exact Int64.lt_iff_toInt_lt.mp h_95))
        refine R_aload_n dX5_fitFrom_122 rfl ?_
        refine R_getR dX5_fitFrom_123 lg_RX5_18 (by decide) rfl rfl ?_
        refine R_iload_n dX5_fitFrom_126 rfl ?_
        refine R_lload dX5_fitFrom_127 rfl ?_
        refine R_lastN dX5_fitFrom_129 (by decide) rfl (by omega) (by decide) ?_
        refine R_aload_n dX5_fitFrom_130 rfl ?_
        refine R_getR dX5_fitFrom_131 lg_RX5_22 (by decide) rfl rfl ?_
        refine R_iload_n dX5_fitFrom_134 rfl ?_
        refine R_iload dX5_fitFrom_135 rfl ?_
        refine R_iastN dX5_fitFrom_137 (by decide) rfl (by omega) (by decide) ?_
        refine R_aload_n dX5_fitFrom_138 rfl ?_
        refine R_getR dX5_fitFrom_139 lg_RX5_26 (by decide) rfl rfl ?_
        refine R_iload_n dX5_fitFrom_142 rfl ?_
        refine R_iload dX5_fitFrom_143 rfl ?_
        refine R_iastN dX5_fitFrom_145 (by decide) rfl (by omega) (by decide) ?_
        refine R_iincN (n := 1) (L' := [(0, .ref 111), (1, .int (nI i)), (2, .int (nI R)), (3, .long (P)), (5, .int (nI (l.length))), (6, .int (nI (j + 1))), (7, .long _), (9, .int (nI ((bk l.length R (fz l) (sP p) j 15) + 1)))]) dX5_fitFrom_146 rfl (by decide) (qs1 rfl (qs1 rfl (qs1 rfl (qs1 rfl (qs1 rfl (qs1 rfl (qs1 rfl (qs1 rfl qs0)))))))) ?_
        refine R_goto (tgt := 45) dX5_fitFrom_149 (by decide) ?_
        refine R_ls (L' := [(0, .ref 111), (1, .int (nI i)), (2, .int (nI R)), (3, .long (P)), (5, .int (nI (l.length))), (6, .int (nI (j + 1)))]) (qs1 rfl (qs1 rfl (qs1 rfl (qs1 rfl (qs1 rfl (qs1 rfl qs0)))))) ?_
        exact (by first | exact (ih (j + 1) _ _ _ _ (by omega) (by omega) (by omega) hSc2 ⟨qOff.is (qOff.is (qOff.ls hO.1 (by unfold oSg_c; omega)) (by unfold oSg_c; omega)) (by unfold oSg_c; omega), fun a ha => ⟨by rw [qIs_2, qIs_2, qLs_nk ha]; exact (hO.2 a ha).1, by rw [qIs_no (by omega), qIs_nk ha]; exact (hO.2 a ha).2.1, by rw [qIs_nk ha, qIs_no (by omega)]; exact (hO.2 a ha).2.2⟩⟩ (by rw [qIs_2, qIs_2, qLs_eq]; exact hc64) (by rw [qIs_no (by omega), qIs_eq]) (qIs_eq _ _ _ _)) | exact (ih (j + 1) _ _ _ _ (by omega) (by omega) (by omega) hSc2 hO hC hb2 hx))
      · have h95 : ¬ (fz l i j + sP p + vl l.length R (fz l) (sP p) j (bk l.length R (fz l) (sP p) j 15) < C) := fun z => h_95 (Int64.lt_iff_toInt_lt.mpr (by rw [hc64, hC]; exact z))
        refine R_lload dX5_fitFrom_99 rfl ?_
        refine R_aload_n dX5_fitFrom_101 rfl ?_
        refine R_getR dX5_fitFrom_102 lg_RX5_18 (by decide) rfl rfl ?_
        refine R_iload_n dX5_fitFrom_105 rfl ?_
        refine R_laldN dX5_fitFrom_106 (by decide) rfl (by omega) (by decide) ?_
        refine R_lc_ne (tgt := 146) dX5_fitFrom_107 dX5_fitFrom_108 (by decide) (fun h_107 => ?_) (fun h_107 => ?_)
        · have hSc2 := Scan_no l.length R (fz l) (sP p) hSc (fun z => z.elim h95 (fun y => h_107 (j_inj (by rw [hc64, hC]; exact y.1))))
          refine R_iincN (n := 1) (L' := [(0, .ref 111), (1, .int (nI i)), (2, .int (nI R)), (3, .long (P)), (5, .int (nI (l.length))), (6, .int (nI (j + 1))), (7, .long _), (9, .int (nI ((bk l.length R (fz l) (sP p) j 15) + 1)))]) dX5_fitFrom_146 rfl (by decide) (qs1 rfl (qs1 rfl (qs1 rfl (qs1 rfl (qs1 rfl (qs1 rfl (qs1 rfl (qs1 rfl qs0)))))))) ?_
          refine R_goto (tgt := 45) dX5_fitFrom_149 (by decide) ?_
          refine R_ls (L' := [(0, .ref 111), (1, .int (nI i)), (2, .int (nI R)), (3, .long (P)), (5, .int (nI (l.length))), (6, .int (nI (j + 1)))]) (qs1 rfl (qs1 rfl (qs1 rfl (qs1 rfl (qs1 rfl (qs1 rfl qs0)))))) ?_
          exact (by first | exact (ih (j + 1) _ _ _ _ (by omega) (by omega) (by omega) hSc2 ⟨qOff.is (qOff.is (qOff.ls hO.1 (by unfold oSg_c; omega)) (by unfold oSg_c; omega)) (by unfold oSg_c; omega), fun a ha => ⟨by rw [qIs_2, qIs_2, qLs_nk ha]; exact (hO.2 a ha).1, by rw [qIs_no (by omega), qIs_nk ha]; exact (hO.2 a ha).2.1, by rw [qIs_nk ha, qIs_no (by omega)]; exact (hO.2 a ha).2.2⟩⟩ (by rw [qIs_2, qIs_2, qLs_eq]; exact hc64) (by rw [qIs_no (by omega), qIs_eq]) (qIs_eq _ _ _ _)) | exact (ih (j + 1) _ _ _ _ (by omega) (by omega) (by omega) hSc2 hO hC hb2 hx))
        · have h107 : fz l i j + sP p + vl l.length R (fz l) (sP p) j (bk l.length R (fz l) (sP p) j 15) = C := by rw [← hc64, ← hC, h_107]
          refine R_iload dX5_fitFrom_111 rfl ?_
          refine R_aload_n dX5_fitFrom_113 rfl ?_
          refine R_getR dX5_fitFrom_114 lg_RX5_22 (by decide) rfl rfl ?_
          refine R_iload_n dX5_fitFrom_117 rfl ?_
          refine R_ialdN dX5_fitFrom_118 (by decide) rfl (by omega) (by decide) ?_
          refine R_top (y := nI b) hb2 ?_
          refine R_icmp_geN (tgt := 146) dX5_fitFrom_119 (by decide) (by omega) (by have := h107; rcases hSc.2.2 with ⟨z, -⟩ | ⟨-, -, -, -, z, -⟩ <;> (try have := bk_le l.length R (fz l) (sP p) x 15) <;> omega) (fun h_119 => ?_) (fun h_119 => ?_)
          · have hSc2 := Scan_no l.length R (fz l) (sP p) hSc (fun z => z.elim h95 (fun y => by omega))
            refine R_iincN (n := 1) (L' := [(0, .ref 111), (1, .int (nI i)), (2, .int (nI R)), (3, .long (P)), (5, .int (nI (l.length))), (6, .int (nI (j + 1))), (7, .long _), (9, .int (nI ((bk l.length R (fz l) (sP p) j 15) + 1)))]) dX5_fitFrom_146 rfl (by decide) (qs1 rfl (qs1 rfl (qs1 rfl (qs1 rfl (qs1 rfl (qs1 rfl (qs1 rfl (qs1 rfl qs0)))))))) ?_
            refine R_goto (tgt := 45) dX5_fitFrom_149 (by decide) ?_
            refine R_ls (L' := [(0, .ref 111), (1, .int (nI i)), (2, .int (nI R)), (3, .long (P)), (5, .int (nI (l.length))), (6, .int (nI (j + 1)))]) (qs1 rfl (qs1 rfl (qs1 rfl (qs1 rfl (qs1 rfl (qs1 rfl qs0)))))) ?_
            exact (by first | exact (ih (j + 1) _ _ _ _ (by omega) (by omega) (by omega) hSc2 ⟨qOff.is (qOff.is (qOff.ls hO.1 (by unfold oSg_c; omega)) (by unfold oSg_c; omega)) (by unfold oSg_c; omega), fun a ha => ⟨by rw [qIs_2, qIs_2, qLs_nk ha]; exact (hO.2 a ha).1, by rw [qIs_no (by omega), qIs_nk ha]; exact (hO.2 a ha).2.1, by rw [qIs_nk ha, qIs_no (by omega)]; exact (hO.2 a ha).2.2⟩⟩ (by rw [qIs_2, qIs_2, qLs_eq]; exact hc64) (by rw [qIs_no (by omega), qIs_eq]) (qIs_eq _ _ _ _)) | exact (ih (j + 1) _ _ _ _ (by omega) (by omega) (by omega) hSc2 hO hC hb2 hx))
          · have hSc2 := Scan_yes l.length R (fz l) (sP p) hSc hij (by omega) (Or.inr ⟨h107, h_119⟩)
            refine R_aload_n dX5_fitFrom_122 rfl ?_
            refine R_getR dX5_fitFrom_123 lg_RX5_18 (by decide) rfl rfl ?_
            refine R_iload_n dX5_fitFrom_126 rfl ?_
            refine R_lload dX5_fitFrom_127 rfl ?_
            refine R_lastN dX5_fitFrom_129 (by decide) rfl (by omega) (by decide) ?_
            refine R_aload_n dX5_fitFrom_130 rfl ?_
            refine R_getR dX5_fitFrom_131 lg_RX5_22 (by decide) rfl rfl ?_
            refine R_iload_n dX5_fitFrom_134 rfl ?_
            refine R_iload dX5_fitFrom_135 rfl ?_
            refine R_iastN dX5_fitFrom_137 (by decide) rfl (by omega) (by decide) ?_
            refine R_aload_n dX5_fitFrom_138 rfl ?_
            refine R_getR dX5_fitFrom_139 lg_RX5_26 (by decide) rfl rfl ?_
            refine R_iload_n dX5_fitFrom_142 rfl ?_
            refine R_iload dX5_fitFrom_143 rfl ?_
            refine R_iastN dX5_fitFrom_145 (by decide) rfl (by omega) (by decide) ?_
            refine R_iincN (n := 1) (L' := [(0, .ref 111), (1, .int (nI i)), (2, .int (nI R)), (3, .long (P)), (5, .int (nI (l.length))), (6, .int (nI (j + 1))), (7, .long _), (9, .int (nI ((bk l.length R (fz l) (sP p) j 15) + 1)))]) dX5_fitFrom_146 rfl (by decide) (qs1 rfl (qs1 rfl (qs1 rfl (qs1 rfl (qs1 rfl (qs1 rfl (qs1 rfl (qs1 rfl qs0)))))))) ?_
            refine R_goto (tgt := 45) dX5_fitFrom_149 (by decide) ?_
            refine R_ls (L' := [(0, .ref 111), (1, .int (nI i)), (2, .int (nI R)), (3, .long (P)), (5, .int (nI (l.length))), (6, .int (nI (j + 1)))]) (qs1 rfl (qs1 rfl (qs1 rfl (qs1 rfl (qs1 rfl (qs1 rfl qs0)))))) ?_
            exact (by first | exact (ih (j + 1) _ _ _ _ (by omega) (by omega) (by omega) hSc2 ⟨qOff.is (qOff.is (qOff.ls hO.1 (by unfold oSg_c; omega)) (by unfold oSg_c; omega)) (by unfold oSg_c; omega), fun a ha => ⟨by rw [qIs_2, qIs_2, qLs_nk ha]; exact (hO.2 a ha).1, by rw [qIs_no (by omega), qIs_nk ha]; exact (hO.2 a ha).2.1, by rw [qIs_nk ha, qIs_no (by omega)]; exact (hO.2 a ha).2.2⟩⟩ (by rw [qIs_2, qIs_2, qLs_eq]; exact hc64) (by rw [qIs_no (by omega), qIs_eq]) (qIs_eq _ _ _ _)) | exact (ih (j + 1) _ _ _ _ (by omega) (by omega) (by omega) hSc2 hO hC hb2 hx))
set_option maxRecDepth 100000 in
set_option maxHeartbeats 4000000 in
theorem c_fitFrom_c {M : qMem} {l : List (Nat × Int32)} (hS : XS_c M l) (hb : serB l) {R p : Nat} (hR : 1 ≤ R) (hR4 : R ≤ 4) (hp : p ≤ 99999) {i : Nat} (hi : i < l.length) (hrow : ∀ j, i < j → j + R ≤ l.length → Row_c M l R p j) {P : Int64} (hP : P.toInt = sP p) : qSem 0 mX5_fitFrom [.ref 111, .int (nI i), .int (nI R), .long (P)] M (fun v N => v = none ∧ offI_c i M N ∧ ((i = 0 ∨ i + R ≤ l.length) → Row_c N l R p i)) := by
  have hl16 := hS.2.1
  refine qSem.of (by decide +kernel) (Nat.le_of_ble_eq_true rfl) (fun w => ?_)
  refine R_ls (L' := [(0, .ref 111), (1, .int (nI i)), (2, .int (nI R)), (3, .long (P))]) (qs1 rfl (qs1 rfl (qs1 rfl (qs1 rfl qs0)))) ?_
  refine R_aload_n dX5_fitFrom_0 rfl ?_
  refine R_getR dX5_fitFrom_1 lg_RX5_12 (by decide) rfl rfl ?_
  refine R_callV (mc := mX6_length) (As := []) (r := 106) dX5_fitFrom_4 lm_RX5_39 mv_X6_length rfl (by decide) rfl rfl rfl rfl (Nat.le_of_ble_eq_true rfl) (c_slen_c hS) ?_
  rintro _ _ ⟨rfl, rfl⟩
  refine R_istore (L' := [(0, .ref 111), (1, .int (nI i)), (2, .int (nI R)), (3, .long (P)), (5, .int (nI (l.length)))]) dX5_fitFrom_7 (by decide) (qs1 rfl (qs1 rfl (qs1 rfl (qs1 rfl (qs1 rfl qs0))))) ?_
  refine R_aload_n dX5_fitFrom_9 rfl ?_
  refine R_getR dX5_fitFrom_10 lg_RX5_18 (by decide) rfl rfl ?_
  refine R_iload_n dX5_fitFrom_13 rfl ?_
  refine R_aload_n dX5_fitFrom_14 rfl ?_
  refine R_getR dX5_fitFrom_15 lg_RX5_12 (by decide) rfl rfl ?_
  refine R_iload_n dX5_fitFrom_18 rfl ?_
  refine R_iload dX5_fitFrom_19 rfl ?_
  refine R_callV (mc := mX6_scaledSpread) (As := [_, _]) (r := 106) dX5_fitFrom_21 lm_RX5_52 mv_X6_scaledSpread rfl (by decide) rfl rfl rfl rfl (Nat.le_of_ble_eq_true rfl) (c_spread_c hS (by omega) (by omega)) ?_
  rintro _ _ ⟨rfl, rfl⟩
  refine R_lastN dX5_fitFrom_24 (by decide) rfl (by omega) (by decide) ?_
  refine R_aload_n dX5_fitFrom_25 rfl ?_
  refine R_getR dX5_fitFrom_26 lg_RX5_22 (by decide) rfl rfl ?_
  refine R_iload_n dX5_fitFrom_29 rfl ?_
  refine R_iconst (v := nI 0) dX5_fitFrom_30 rfl ?_
  refine R_iastN dX5_fitFrom_31 (by decide) rfl (by omega) (by decide) ?_
  refine R_aload_n dX5_fitFrom_32 rfl ?_
  refine R_getR dX5_fitFrom_33 lg_RX5_26 (by decide) rfl rfl ?_
  refine R_iload_n dX5_fitFrom_36 rfl ?_
  refine R_iload dX5_fitFrom_37 rfl ?_
  refine R_iastN dX5_fitFrom_39 (by decide) rfl (by omega) (by decide) ?_
  refine R_iload_n dX5_fitFrom_40 rfl ?_
  refine R_iload_n dX5_fitFrom_41 rfl ?_
  refine R_iaddN dX5_fitFrom_42 ?_
  refine R_istore (L' := [(0, .ref 111), (1, .int (nI i)), (2, .int (nI R)), (3, .long (P)), (5, .int (nI (l.length))), (6, .int (nI (i + R)))]) dX5_fitFrom_43 (by decide) (qs1 rfl (qs1 rfl (qs1 rfl (qs1 rfl (qs1 rfl (qs1 rfl qs0)))))) ?_
  refine R_ls (L' := [(0, .ref 111), (1, .int (nI i)), (2, .int (nI R)), (3, .long (P)), (5, .int (nI (l.length))), (6, .int (nI (i + R)))]) (qs1 rfl (qs1 rfl (qs1 rfl (qs1 rfl (qs1 rfl (qs1 rfl qs0)))))) ?_
  exact (l_fitFrom_c hS hb hR hR4 hp hi hrow hP (l.length + 3) (i + R) _ (fz l i l.length) 0 l.length (by omega) (Nat.le_refl _) (by omega) (Scan_0 _ _ _ _ _) ⟨qOff.is (qOff.is (qOff.ls qOff.rf (by unfold oSg_c; omega)) (by unfold oSg_c; omega)) (by unfold oSg_c; omega), fun a ha => ⟨by rw [qIs_2, qIs_2, qLs_nk ha], by rw [qIs_no (by omega), qIs_nk ha]; rfl, by rw [qIs_nk ha, qIs_no (by omega)]; rfl⟩⟩ (by rw [qIs_2, qIs_2, qLs_eq]; rfl) (by rw [qIs_no (by omega), qIs_eq]) (qIs_eq _ _ _ _))

/-- a row's next start -/
theorem Row_st_c {K : qMem} {l : List (Nat × Int32)} {R p m : Nat} (hR : 1 ≤ R) (hl : l.length ≤ 16) (hm : m ≤ bkN l R p) (h : Row_c K l R p (stN l R p m)) : K.1 114 (stN l R p m) = nI (stN l R p (m + 1)) := by
  have h2 := (stp_ok (f := fz l) (P := sP p) hR hl m hm).2
  have h3 := h.2.2
  unfold stN at h3 ⊢
  unfold bkN at *
  rw [h2] at h3
  rw [h3, stp]
  by_cases hc : m < bk l.length R (fz l) (sP p) 0 15
  · rw [if_pos hc, if_neg (by omega)]
  · rw [if_neg hc, if_pos (by omega)]
set_option maxRecDepth 100000 in
set_option maxHeartbeats 4000000 in
theorem l_keep_c {w : qWT} {M : qMem} {l : List (Nat × Int32)} {R p : Nat} (hR : 1 ≤ R) (hl : l.length ≤ 16) (hrow : ∀ m, m ≤ bkN l R p → Row_c M l R p (stN l R p m)) : ∀ (fu : Nat) (k : Nat) (K : qMem), (17 - k) < fu → (k ≤ bkN l R p + 1) → (∀ m, m ≤ k → K.1 116 m = nI (stN l R p m)) → (K.2 112 = M.2 112) → (K.1 113 = M.1 113) → (K.1 114 = M.1 114) → (qOff oSg_c M K) → qRW 0 w mX5_keepStarts 9 [(0, .ref 111), (1, .int (nI k))] [] K (fun v N => v = none ∧ XG_c N l R p ∧ qOff oSg_c M N) := by
  intro fu
  induction fu with
  | zero => intro k K hn; exact absurd hn (Nat.not_lt_zero _)
  | succ fu ih =>
    intro k K hn hk hst e31 e32 e33 hO
    have h15 := bkN_le l R p
    refine R_iload_n dX5_keepStarts_9 rfl ?_
    refine R_aload_n dX5_keepStarts_10 rfl ?_
    refine R_getR dX5_keepStarts_11 lg_RX5_22 (by decide) rfl rfl ?_
    refine R_iconst (v := nI 0) dX5_keepStarts_14 rfl ?_
    refine R_ialdN dX5_keepStarts_15 (by decide) rfl (by omega) (by decide) ?_
    refine R_top (y := nI (bkN l R p)) (by rw [e32]; exact (hrow 0 (Nat.zero_le _)).2.1) ?_
    refine R_icmp_gtN (tgt := 44) dX5_keepStarts_16 (by decide) (by omega) (by omega) (fun h_16 => ?_) (fun h_16 => ?_)
    · refine R_return dX5_keepStarts_44 rfl ?_
      exact ⟨rfl, ⟨by rw [e31]; exact (hrow 0 (Nat.zero_le _)).1, by rw [e32]; exact (hrow 0 (Nat.zero_le _)).2.1, fun m hm => hst m (by omega)⟩, hO⟩
    · refine R_aload_n dX5_keepStarts_19 rfl ?_
      refine R_getR dX5_keepStarts_20 lg_RX5_32 (by decide) rfl rfl ?_
      refine R_iload_n dX5_keepStarts_23 rfl ?_
      refine R_iconst (v := nI 1) dX5_keepStarts_24 rfl ?_
      refine R_iaddN dX5_keepStarts_25 ?_
      refine R_aload_n dX5_keepStarts_26 rfl ?_
      refine R_getR dX5_keepStarts_27 lg_RX5_26 (by decide) rfl rfl ?_
      refine R_aload_n dX5_keepStarts_30 rfl ?_
      refine R_getR dX5_keepStarts_31 lg_RX5_32 (by decide) rfl rfl ?_
      refine R_iload_n dX5_keepStarts_34 rfl ?_
      refine R_ialdN dX5_keepStarts_35 (by decide) rfl (by omega) (by decide) ?_
      refine R_top (y := nI (stN l R p k)) (hst k (Nat.le_refl _)) ?_
      refine R_ialdN dX5_keepStarts_36 (by decide) rfl (by have := stN_le (p := p) hR hl (m := k) (by omega); omega) (by decide) ?_
      refine R_top (y := nI (stN l R p (k + 1))) (by rw [e33]; exact Row_st_c hR hl (by omega) (hrow k (by omega))) ?_
      refine R_iastN dX5_keepStarts_37 (by decide) rfl (by omega) (by decide) ?_
      refine R_iincN (n := 1) (L' := [(0, .ref 111), (1, .int (nI (k + 1)))]) dX5_keepStarts_38 rfl (by decide) (qs1 rfl (qs1 rfl qs0)) ?_
      refine R_goto (tgt := 9) dX5_keepStarts_41 (by decide) ?_
      refine R_ls (L' := [(0, .ref 111), (1, .int (nI (k + 1)))]) (qs1 rfl (qs1 rfl qs0)) ?_
      exact (ih (k + 1) _ (by omega) (by omega) (fun m hm => by simp only [qIs_1, true_and]; split <;> rename_i hh <;> first | rw [hh] | exact hst m (by omega)) (by rw [qIs_2]; exact e31) (by rw [qIs_no (by omega)]; exact e32) (by rw [qIs_no (by omega)]; exact e33) (qOff.is hO (by unfold oSg_c; omega)))
set_option maxRecDepth 100000 in
set_option maxHeartbeats 4000000 in
theorem c_keep_c {M : qMem} {l : List (Nat × Int32)} {R p : Nat} (hR : 1 ≤ R) (hl : l.length ≤ 16) (hrow : ∀ m, m ≤ bkN l R p → Row_c M l R p (stN l R p m)) : qSem 0 mX5_keepStarts [.ref 111] M (fun v N => v = none ∧ XG_c N l R p ∧ qOff oSg_c M N) := by
  refine qSem.of (by decide +kernel) (Nat.le_of_ble_eq_true rfl) (fun w => ?_)
  refine R_ls (L' := [(0, .ref 111)]) (qs1 rfl qs0) ?_
  refine R_aload_n dX5_keepStarts_0 rfl ?_
  refine R_getR dX5_keepStarts_1 lg_RX5_32 (by decide) rfl rfl ?_
  refine R_iconst (v := nI 0) dX5_keepStarts_4 rfl ?_
  refine R_iconst (v := nI 0) dX5_keepStarts_5 rfl ?_
  refine R_iastN dX5_keepStarts_6 (by decide) rfl (by omega) (by decide) ?_
  refine R_iconst (v := nI 0) dX5_keepStarts_7 rfl ?_
  refine R_istore_n (L' := [(0, .ref 111), (1, .int (nI 0))]) dX5_keepStarts_8 (by decide) (qs1 rfl (qs1 rfl qs0)) ?_
  refine R_ls (L' := [(0, .ref 111), (1, .int (nI 0))]) (qs1 rfl (qs1 rfl qs0)) ?_
  exact (l_keep_c hR hl hrow 18 0 _ (by omega) (by omega) (fun m hm => by have e : m = 0 := Nat.le_zero.mp hm; subst e; exact qIs_eq _ _ _ _) rfl (qIs_no (by omega)) (qIs_no (by omega)) (qOff.is qOff.rf (by unfold oSg_c; omega)))

theorem rows_st_c {K : qMem} {l : List (Nat × Int32)} {R p : Nat} (hR : 1 ≤ R) (hl : l.length ≤ 16) (h : ∀ j, (j = 0 ∨ j + R ≤ l.length) → Row_c K l R p j) : ∀ m, m ≤ bkN l R p → Row_c K l R p (stN l R p m) := fun m hm => h _ (stp_ok (f := fz l) (P := sP p) hR hl m hm).1
theorem Row_0_c {K : qMem} {l : List (Nat × Int32)} {R p : Nat} (hR : 1 ≤ R) (hl : l.length = 0) (e1 : K.2 112 0 = 0) (e2 : K.1 113 0 = nI 0) (e3 : K.1 114 0 = nI 0) : Row_c K l R p 0 := by
  unfold Row_c
  rw [hl, bk_empty hR, if_pos rfl]
  refine ⟨?_, e2, e3⟩
  rw [e1]
  unfold vl
  rw [rst_k0 0 R (fz l) (Or.inl rfl)]
  rfl
set_option maxRecDepth 100000 in
set_option maxHeartbeats 4000000 in
theorem l_fit_c {w : qWT} {M : qMem} {l : List (Nat × Int32)} (hS : XS_c M l) (hb : serB l) {R p : Nat} (hR : 1 ≤ R) (hR4 : R ≤ 4) (hp : p ≤ 99999) {P : Int64} (hP : P.toInt = sP p) : ∀ (k : Nat) (K : qMem), (k ≤ l.length) → (∀ j, k ≤ j → (j = 0 ∨ j + R ≤ l.length) → Row_c K l R p j) → (qOff oSg_c M K) → qRW 0 w mX5_fit 42 [(0, .ref 111), (1, .int (nI R)), (3, .int (nI (l.length))), (4, .long (P)), (6, .int (nI k - nI 1))] [] K (fun v N => v = none ∧ XG_c N l R p ∧ qOff oSg_c M N) := by
  intro k
  induction k with
  | zero =>
    intro K hk hrow hO
    have hl16 := hS.2.1
    refine R_iload dX5_fit_42 rfl ?_
    refine R_if_lt (tgt := 62) dX5_fit_44 (by decide) (fun h_44 => ?_) (fun h_44 => by exact absurd (show nI 0 - nI 1 < 0 by decide) h_44)
    refine R_aload_n dX5_fit_62 rfl ?_
    refine R_callV (mc := mX5_keepStarts) (As := []) (r := 111) dX5_fit_63 lm_RX5_49 mv_X5_keepStarts rfl (by decide) rfl rfl rfl rfl (Nat.le_of_ble_eq_true rfl) (c_keep_c hR hl16 (rows_st_c hR hl16 (fun j hj => hrow j (Nat.zero_le _) hj))) ?_
    rintro _ _ ⟨rfl, hG, hO2⟩
    refine R_return dX5_fit_66 rfl ?_
    exact ⟨rfl, hG, hO.tr hO2⟩
  | succ k ih =>
    intro K hk hrow hO
    have hl16 := hS.2.1
    have hSK : XS_c K l := hS.off (fun o h1 h2 => hO o (by unfold oSg_c; omega))
    rw [pk_sub (show 1 ≤ k + 1 by omega), show k + 1 - 1 = k from rfl]
    refine R_iload dX5_fit_42 rfl ?_
    refine R_if_ltN (tgt := 62) dX5_fit_44 (by decide) (by omega) ?_
    refine R_aload_n dX5_fit_47 rfl ?_
    refine R_iload dX5_fit_48 rfl ?_
    refine R_iload_n dX5_fit_50 rfl ?_
    refine R_lload dX5_fit_51 rfl ?_
    refine R_callV (mc := mX5_fitFrom) (As := [_, _, _]) (r := 111) dX5_fit_53 lm_RX5_45 mv_X5_fitFrom rfl (by decide) rfl rfl rfl rfl (Nat.le_of_ble_eq_true rfl) (c_fitFrom_c hSK hb hR hR4 hp (by omega) (fun j h1 h2 => hrow j h1 (Or.inr h2)) hP) ?_
    rintro _ _ ⟨rfl, hF, hRw⟩
    refine R_iinc (v := nI k - nI 1) (L' := [(0, .ref 111), (1, .int (nI R)), (3, .int (nI (l.length))), (4, .long (P)), (6, .int (nI k - nI 1))]) dX5_fit_56 rfl (q_decm k) (by decide) (qs1 rfl (qs1 rfl (qs1 rfl (qs1 rfl (qs1 rfl qs0))))) ?_
    refine R_goto (tgt := 42) dX5_fit_59 (by decide) ?_
    refine R_ls (L' := [(0, .ref 111), (1, .int (nI R)), (3, .int (nI (l.length))), (4, .long (P)), (6, .int (nI k - nI 1))]) (qs1 rfl (qs1 rfl (qs1 rfl (qs1 rfl (qs1 rfl qs0))))) ?_
    exact (ih _ (by omega) (fun j h1 h2 => by rcases Nat.lt_or_ge k j with h | h <;> first | exact Row_mv_c (hrow j h h2) (hF.2 j (by omega)).1 (hF.2 j (by omega)).2.1 (hF.2 j (by omega)).2.2 | (have e : j = k := (by omega); subst e; exact hRw h2)) (hO.tr hF.1))
set_option maxRecDepth 100000 in
set_option maxHeartbeats 4000000 in
theorem c_fit_c {M : qMem} {l : List (Nat × Int32)} (hS : XS_c M l) (hb : serB l) {R p : Nat} (hR : 1 ≤ R) (hR4 : R ≤ 4) (hp : p ≤ 99999) : qSem 0 mX5_fit [.ref 111, .int (nI R), .int (nI p)] M (fun v N => v = none ∧ XG_c N l R p ∧ qOff oSg_c M N) := by
  have hl16 := hS.2.1
  refine qSem.of (by decide +kernel) (Nat.le_of_ble_eq_true rfl) (fun w => ?_)
  refine R_ls (L' := [(0, .ref 111), (1, .int (nI R)), (2, .int (nI p))]) (qs1 rfl (qs1 rfl (qs1 rfl qs0))) ?_
  refine R_aload_n dX5_fit_0 rfl ?_
  refine R_getR dX5_fit_1 lg_RX5_12 (by decide) rfl rfl ?_
  refine R_callV (mc := mX6_length) (As := []) (r := 106) dX5_fit_4 lm_RX5_39 mv_X6_length rfl (by decide) rfl rfl rfl rfl (Nat.le_of_ble_eq_true rfl) (c_slen_c hS) ?_
  rintro _ _ ⟨rfl, rfl⟩
  refine R_istore_n (L' := [(0, .ref 111), (1, .int (nI R)), (2, .int (nI p)), (3, .int (nI (l.length)))]) dX5_fit_7 (by decide) (qs1 rfl (qs1 rfl (qs1 rfl (qs1 rfl qs0)))) ?_
  refine R_ldc2 dX5_fit_8 lc_RX5_43 ?_
  refine R_iload_n dX5_fit_11 rfl ?_
  refine R_i2l dX5_fit_12 ?_
  refine R_lmul dX5_fit_13 ?_
  refine R_lstore (L' := [(0, .ref 111), (1, .int (nI R)), (2, .int (nI p)), (3, .int (nI (l.length))), (4, .long _)]) dX5_fit_14 (by decide) (qs1 rfl (qs1 rfl (qs1 rfl (qs1 rfl (qs1 rfl qs0))))) ?_
  refine R_aload_n dX5_fit_16 rfl ?_
  refine R_getR dX5_fit_17 lg_RX5_18 (by decide) rfl rfl ?_
  refine R_iconst (v := nI 0) dX5_fit_20 rfl ?_
  refine R_lconst (v := 0) dX5_fit_21 rfl ?_
  refine R_lastN dX5_fit_22 (by decide) rfl (by omega) (by decide) ?_
  refine R_aload_n dX5_fit_23 rfl ?_
  refine R_getR dX5_fit_24 lg_RX5_22 (by decide) rfl rfl ?_
  refine R_iconst (v := nI 0) dX5_fit_27 rfl ?_
  refine R_iconst (v := nI 0) dX5_fit_28 rfl ?_
  refine R_iastN dX5_fit_29 (by decide) rfl (by omega) (by decide) ?_
  refine R_aload_n dX5_fit_30 rfl ?_
  refine R_getR dX5_fit_31 lg_RX5_26 (by decide) rfl rfl ?_
  refine R_iconst (v := nI 0) dX5_fit_34 rfl ?_
  refine R_iload_n dX5_fit_35 rfl ?_
  refine R_iastN dX5_fit_36 (by decide) rfl (by omega) (by decide) ?_
  refine R_iload_n dX5_fit_37 rfl ?_
  refine R_iconst (v := nI 1) dX5_fit_38 rfl ?_
  refine R_isub dX5_fit_39 ?_
  refine R_istore (L' := [(0, .ref 111), (1, .int (nI R)), (2, .int (nI p)), (3, .int (nI (l.length))), (4, .long _), (6, .int _)]) dX5_fit_40 (by decide) (qs1 rfl (qs1 rfl (qs1 rfl (qs1 rfl (qs1 rfl (qs1 rfl qs0)))))) ?_
  refine R_ls (L' := [(0, .ref 111), (1, .int (nI R)), (3, .int (nI (l.length))), (4, .long _), (6, .int _)]) (qs1 rfl (qs1 rfl (qs1 rfl (qs1 rfl (qs1 rfl qs0))))) ?_
  exact (l_fit_c hS hb hR hR4 hp (pen64 hp) l.length _ (Nat.le_refl _) (fun j h1 h2 => by have e : j = 0 := (by rcases h2 with h | h <;> omega); subst e; have e0 : l.length = 0 := Nat.le_zero.mp h1; refine Row_0_c hR e0 ?_ ?_ ?_ <;> first | (rw [qIs_2, qIs_2, qLs_eq]) | (rw [qIs_no (by omega), qIs_eq]) | (rw [qIs_eq, e0])) (qOff.is (qOff.is (qOff.ls qOff.rf (by unfold oSg_c; omega)) (by unfold oSg_c; omega)) (by unfold oSg_c; omega)))
set_option maxRecDepth 100000 in
set_option maxHeartbeats 4000000 in
theorem c_bcount_c {M : qMem} {l : List (Nat × Int32)} {R p : Nat} (hG : XG_c M l R p) : qSem 0 mX5_breakCount [.ref 111] M (qr (nI (bkN l R p)) M) := by
  refine qSem.of (by decide +kernel) (Nat.le_of_ble_eq_true rfl) (fun w => ?_)
  refine R_ls (L' := [(0, .ref 111)]) (qs1 rfl qs0) ?_
  refine R_aload_n dX5_breakCount_0 rfl ?_
  refine R_getR dX5_breakCount_1 lg_RX5_22 (by decide) rfl rfl ?_
  refine R_iconst (v := nI 0) dX5_breakCount_4 rfl ?_
  refine R_ialdN dX5_breakCount_5 (by decide) rfl (by omega) (by decide) ?_
  refine R_top (y := nI (bkN l R p)) hG.2.1 ?_
  refine R_ireturn dX5_breakCount_6 rfl rfl ?_
  exact ⟨rfl, rfl⟩
set_option maxRecDepth 100000 in
set_option maxHeartbeats 4000000 in
theorem c_byear_c {M : qMem} {l : List (Nat × Int32)} {R p : Nat} (hG : XG_c M l R p) (hS : XS_c M l) (hR : 1 ≤ R) {k : Nat} (hk : k < bkN l R p) : qSem 0 mX5_breakYear [.ref 111, .int (nI k)] M (qr (nI (yr l (stN l R p (k + 1)))) M) := by
  have h15 := bkN_le l R p
  have hl := hS.2.1
  have q1 := stN_pos (p := p) hR hl hk
  have q2 := stN_le' (p := p) hR hl (m := k + 2) (by omega)
  have q0 := stN_le (p := p) hR hl (m := k) (by omega)
  refine qSem.of (by decide +kernel) (Nat.le_of_ble_eq_true rfl) (fun w => ?_)
  refine R_ls (L' := [(0, .ref 111), (1, .int (nI k))]) (qs1 rfl (qs1 rfl qs0)) ?_
  refine R_aload_n dX5_breakYear_0 rfl ?_
  refine R_getR dX5_breakYear_1 lg_RX5_12 (by decide) rfl rfl ?_
  refine R_aload_n dX5_breakYear_4 rfl ?_
  refine R_getR dX5_breakYear_5 lg_RX5_32 (by decide) rfl rfl ?_
  refine R_iload_n dX5_breakYear_8 rfl ?_
  refine R_iconst (v := nI 1) dX5_breakYear_9 rfl ?_
  refine R_iaddN dX5_breakYear_10 ?_
  refine R_ialdN dX5_breakYear_11 (by decide) rfl (by omega) (by decide) ?_
  refine R_top (y := nI (stN l R p (k + 1))) (hG.2.2 (k + 1) (by omega)) ?_
  refine R_callV (mc := mX6_yearAt) (As := [_]) (r := 106) dX5_breakYear_12 lm_RX5_56 mv_X6_yearAt rfl (by decide) rfl rfl rfl rfl (Nat.le_of_ble_eq_true rfl) (c_yearAt_c hS q1) ?_
  rintro _ _ ⟨rfl, rfl⟩
  refine R_ireturn dX5_breakYear_15 rfl rfl ?_
  exact ⟨rfl, rfl⟩

set_option maxRecDepth 100000 in
set_option maxHeartbeats 4000000 in
theorem c_shN_c {M : qMem} {l : List (Nat × Int32)} {R p : Nat} (hG : XG_c M l R p) (hS : XS_c M l) (hR : 1 ≤ R) {k : Nat} (hk : k < bkN l R p) : qSem 0 mX5_scaledShift [.ref 111, .int (nI k)] M (ql (shN l R p k) M) := by
  have h15 := bkN_le l R p
  have hl := hS.2.1
  have q1 := stN_pos (p := p) hR hl hk
  have q2 := stN_le' (p := p) hR hl (m := k + 2) (by omega)
  have q0 := stN_le (p := p) hR hl (m := k) (by omega)
  refine qSem.of (by decide +kernel) (Nat.le_of_ble_eq_true rfl) (fun w => ?_)
  refine R_ls (L' := [(0, .ref 111), (1, .int (nI k))]) (qs1 rfl (qs1 rfl qs0)) ?_
  refine R_aload_n dX5_scaledShift_0 rfl ?_
  refine R_getR dX5_scaledShift_1 lg_RX5_12 (by decide) rfl rfl ?_
  refine R_aload_n dX5_scaledShift_4 rfl ?_
  refine R_getR dX5_scaledShift_5 lg_RX5_32 (by decide) rfl rfl ?_
  refine R_iload_n dX5_scaledShift_8 rfl ?_
  refine R_iconst (v := nI 1) dX5_scaledShift_9 rfl ?_
  refine R_iaddN dX5_scaledShift_10 ?_
  refine R_ialdN dX5_scaledShift_11 (by decide) rfl (by omega) (by decide) ?_
  refine R_top (y := nI (stN l R p (k + 1))) (hG.2.2 (k + 1) (by omega)) ?_
  refine R_aload_n dX5_scaledShift_12 rfl ?_
  refine R_getR dX5_scaledShift_13 lg_RX5_32 (by decide) rfl rfl ?_
  refine R_iload_n dX5_scaledShift_16 rfl ?_
  refine R_iconst (v := nI 2) dX5_scaledShift_17 rfl ?_
  refine R_iaddN dX5_scaledShift_18 ?_
  refine R_ialdN dX5_scaledShift_19 (by decide) rfl (by omega) (by decide) ?_
  refine R_top (y := nI (stN l R p (k + 2))) (hG.2.2 (k + 2) (by omega)) ?_
  refine R_callV (mc := mX6_scaledMean) (As := [_, _]) (r := 106) dX5_scaledShift_20 lm_RX5_60 mv_X6_scaledMean rfl (by decide) rfl rfl rfl rfl (Nat.le_of_ble_eq_true rfl) (c_mean_c hS (by omega) (by omega)) ?_
  rintro _ _ ⟨rfl, rfl⟩
  refine R_aload_n dX5_scaledShift_23 rfl ?_
  refine R_getR dX5_scaledShift_24 lg_RX5_12 (by decide) rfl rfl ?_
  refine R_aload_n dX5_scaledShift_27 rfl ?_
  refine R_getR dX5_scaledShift_28 lg_RX5_32 (by decide) rfl rfl ?_
  refine R_iload_n dX5_scaledShift_31 rfl ?_
  refine R_ialdN dX5_scaledShift_32 (by decide) rfl (by omega) (by decide) ?_
  refine R_top (y := nI (stN l R p k)) (hG.2.2 k (by omega)) ?_
  refine R_aload_n dX5_scaledShift_33 rfl ?_
  refine R_getR dX5_scaledShift_34 lg_RX5_32 (by decide) rfl rfl ?_
  refine R_iload_n dX5_scaledShift_37 rfl ?_
  refine R_iconst (v := nI 1) dX5_scaledShift_38 rfl ?_
  refine R_iaddN dX5_scaledShift_39 ?_
  refine R_ialdN dX5_scaledShift_40 (by decide) rfl (by omega) (by decide) ?_
  refine R_top (y := nI (stN l R p (k + 1))) (hG.2.2 (k + 1) (by omega)) ?_
  refine R_callV (mc := mX6_scaledMean) (As := [_, _]) (r := 106) dX5_scaledShift_41 lm_RX5_60 mv_X6_scaledMean rfl (by decide) rfl rfl rfl rfl (Nat.le_of_ble_eq_true rfl) (c_mean_c hS (by omega) (by omega)) ?_
  rintro _ _ ⟨rfl, rfl⟩
  refine R_lsub dX5_scaledShift_44 ?_
  refine R_lreturn dX5_scaledShift_45 rfl ?_
  exact ⟨rfl, rfl⟩

set_option maxRecDepth 100000 in
set_option maxHeartbeats 4000000 in
theorem c_gcompare_c {M : qMem} {d : dT} (hX : XR 14 M d) (hB : dB d) (h0 : M.2 109 0 = 0 ∧ M.2 110 0 = 0) {u v_ : Nat} (hu : u < dK d) (hv : v_ < dK d) : qSem 0 mX5_compare [.ref 111, .ref 14, .int (nI u), .int (nI v_)] M (fun v N => v = none ∧ XS_c N (ser d u v_) ∧ qOff oSe_c M N) := by
  refine qSem.of (by decide +kernel) (Nat.le_of_ble_eq_true rfl) (fun w => ?_)
  refine R_ls (L' := [(0, .ref 111), (1, .ref 14), (2, .int (nI u)), (3, .int (nI v_))]) (qs1 rfl (qs1 rfl (qs1 rfl (qs1 rfl qs0)))) ?_
  refine R_aload_n dX5_compare_0 rfl ?_
  refine R_getR dX5_compare_1 lg_RX5_12 (by decide) rfl rfl ?_
  refine R_aload_n dX5_compare_4 rfl ?_
  refine R_iload_n dX5_compare_5 rfl ?_
  refine R_iload_n dX5_compare_6 rfl ?_
  refine R_callV (mc := mX6_compare) (As := [_, _, _]) (r := 106) dX5_compare_7 lm_RX5_35 mv_X6_compare rfl (by decide) rfl rfl rfl rfl (Nat.le_of_ble_eq_true rfl) (c_compare_c hX hB h0 hu hv) ?_
  rintro _ _ ⟨rfl, hS, hO1⟩
  refine R_return dX5_compare_10 rfl ?_
  exact ⟨rfl, hS, hO1⟩

def XZ_a (M : qMem) : Prop := M.2 104 0 = 0 ∧ M.2 105 0 = 0
def XZ_c (M : qMem) : Prop := M.2 109 0 = 0 ∧ M.2 110 0 = 0
theorem XS_a.Z {M : qMem} {l : List (Nat × Int32)} (h : XS_a M l) : XZ_a M := h.2.2.2 0 (Nat.zero_le _)
theorem XS_c.Z {M : qMem} {l : List (Nat × Int32)} (h : XS_c M l) : XZ_c M := h.2.2.2 0 (Nat.zero_le _)
