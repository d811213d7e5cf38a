
theorem stN_le {l : List (Nat × Int32)} {R p m : Nat} (hR : 1 ≤ R) (hl : l.length ≤ 16) (hm : m ≤ bkN l R p) : stN l R p m ≤ l.length := by
  obtain ⟨h1, -⟩ := stp_ok (f := fz l) (P := sP p) hR hl m hm
  unfold stN bkN
  rcases h1 with h | h <;> omega
theorem bkN_le (l : List (Nat × Int32)) (R p : Nat) : bkN l R p ≤ 15 := bk_le _ _ _ _ _ _
theorem stN_lt {l : List (Nat × Int32)} {R p m : Nat} (hR : 1 ≤ R) (hl : l.length ≤ 16) (hm : m < bkN l R p) : stN l R p m < stN l R p (m + 1) := by
  have := stp_mono (f := fz l) (P := sP p) hR hl hm
  unfold stN bkN at *; omega
theorem stN_pos {l : List (Nat × Int32)} {R p m : Nat} (hR : 1 ≤ R) (hl : l.length ≤ 16) (hm : m < bkN l R p) : stN l R p (m + 1) < l.length := by
  obtain ⟨h1, -⟩ := stp_ok (f := fz l) (P := sP p) hR hl (m + 1) hm
  have := stN_lt hR hl hm
  unfold stN bkN at *
  rcases h1 with h | h <;> omega
theorem stN_end {l : List (Nat × Int32)} {R p : Nat} : stN l R p (bkN l R p + 1) = l.length := stp_end (Nat.le_refl _)
theorem stN_le' {l : List (Nat × Int32)} {R p m : Nat} (hR : 1 ≤ R) (hl : l.length ≤ 16) (hm : m ≤ bkN l R p + 1) : stN l R p m ≤ l.length := by
  rcases Nat.lt_or_ge m (bkN l R p + 1) with h | h
  · exact stN_le hR hl (by omega)
  · have e : m = bkN l R p + 1 := by omega
    rw [e, stN_end]; exact Nat.le_refl _
/-- a row's next start -/
theorem Row_st {K : qMem} {l : List (Nat × Int32)} {R p m : Nat} (hR : 1 ≤ R) (hl : l.length ≤ 16) (hm : m ≤ bkN l R p) (h : Row K l R p (stN l R p m)) : K.1 33 (stN l R p m) = nI (stN l R p (m + 1)) := by
  have h2 := (stp_ok (f := fz l) (P := sP p) hR hl m hm).2
  have h3 := h.2.2
  unfold stN at h3 ⊢
  unfold bkN at *
  rw [h2] at h3
  rw [h3, stp]
  by_cases hc : m < bk l.length R (fz l) (sP p) 0 15
  · rw [if_pos hc, if_neg (by omega)]
  · rw [if_neg hc, if_pos (by omega)]
set_option maxRecDepth 100000 in
set_option maxHeartbeats 4000000 in
theorem l_keep {w : qWT} {M : qMem} {l : List (Nat × Int32)} {R p : Nat} (hR : 1 ≤ R) (hl : l.length ≤ 16) (hrow : ∀ m, m ≤ bkN l R p → Row M l R p (stN l R p m)) : ∀ (fu : Nat) (k : Nat) (K : qMem), (17 - k) < fu → (k ≤ bkN l R p + 1) → (∀ m, m ≤ k → K.1 35 m = nI (stN l R p m)) → (K.2 31 = M.2 31) → (K.1 32 = M.1 32) → (K.1 33 = M.1 33) → (qOff oSg M K) → qRW 0 w mX5_keepStarts 9 [(0, .ref 30), (1, .int (nI k))] [] K (fun v N => v = none ∧ XG N l R p ∧ qOff oSg M N) := by
  intro fu
  induction fu with
  | zero => intro k K hn; exact absurd hn (Nat.not_lt_zero _)
  | succ fu ih =>
    intro k K hn hk hst e31 e32 e33 hO
    have h15 := bkN_le l R p
    refine R_iload_n dX5_keepStarts_9 rfl ?_
    refine R_aload_n dX5_keepStarts_10 rfl ?_
    refine R_getR dX5_keepStarts_11 lg_RX5_22 (by decide) rfl rfl ?_
    refine R_iconst (v := nI 0) dX5_keepStarts_14 rfl ?_
    refine R_ialdN dX5_keepStarts_15 (by decide) rfl (by omega) (by decide) ?_
    refine R_top (y := nI (bkN l R p)) (by rw [e32]; exact (hrow 0 (Nat.zero_le _)).2.1) ?_
    refine R_icmp_gtN (tgt := 44) dX5_keepStarts_16 (by decide) (by omega) (by omega) (fun h_16 => ?_) (fun h_16 => ?_)
    · refine R_return dX5_keepStarts_44 rfl ?_
      exact ⟨rfl, ⟨by rw [e31]; exact (hrow 0 (Nat.zero_le _)).1, by rw [e32]; exact (hrow 0 (Nat.zero_le _)).2.1, fun m hm => hst m (by omega)⟩, hO⟩
    · refine R_aload_n dX5_keepStarts_19 rfl ?_
      refine R_getR dX5_keepStarts_20 lg_RX5_32 (by decide) rfl rfl ?_
      refine R_iload_n dX5_keepStarts_23 rfl ?_
      refine R_iconst (v := nI 1) dX5_keepStarts_24 rfl ?_
      refine R_iaddN dX5_keepStarts_25 ?_
      refine R_aload_n dX5_keepStarts_26 rfl ?_
      refine R_getR dX5_keepStarts_27 lg_RX5_26 (by decide) rfl rfl ?_
      refine R_aload_n dX5_keepStarts_30 rfl ?_
      refine R_getR dX5_keepStarts_31 lg_RX5_32 (by decide) rfl rfl ?_
      refine R_iload_n dX5_keepStarts_34 rfl ?_
      refine R_ialdN dX5_keepStarts_35 (by decide) rfl (by omega) (by decide) ?_
      refine R_top (y := nI (stN l R p k)) (hst k (Nat.le_refl _)) ?_
      refine R_ialdN dX5_keepStarts_36 (by decide) rfl (by have := stN_le (p := p) hR hl (m := k) (by omega); omega) (by decide) ?_
      refine R_top (y := nI (stN l R p (k + 1))) (by rw [e33]; exact Row_st hR hl (by omega) (hrow k (by omega))) ?_
      refine R_iastN dX5_keepStarts_37 (by decide) rfl (by omega) (by decide) ?_
      refine R_iincN (n := 1) (L' := [(0, .ref 30), (1, .int (nI (k + 1)))]) dX5_keepStarts_38 rfl (by decide) (qs1 rfl (qs1 rfl qs0)) ?_
      refine R_goto (tgt := 9) dX5_keepStarts_41 (by decide) ?_
      refine R_ls (L' := [(0, .ref 30), (1, .int (nI (k + 1)))]) (qs1 rfl (qs1 rfl qs0)) ?_
      exact (ih (k + 1) _ (by omega) (by omega) (fun m hm => by simp only [qIs_1, true_and]; split <;> rename_i hh <;> first | rw [hh] | exact hst m (by omega)) (by rw [qIs_2]; exact e31) (by rw [qIs_no (by omega)]; exact e32) (by rw [qIs_no (by omega)]; exact e33) (qOff.is hO (by unfold oSg; omega)))
set_option maxRecDepth 100000 in
set_option maxHeartbeats 4000000 in
theorem c_keep {M : qMem} {l : List (Nat × Int32)} {R p : Nat} (hR : 1 ≤ R) (hl : l.length ≤ 16) (hrow : ∀ m, m ≤ bkN l R p → Row M l R p (stN l R p m)) : qSem 0 mX5_keepStarts [.ref 30] M (fun v N => v = none ∧ XG N l R p ∧ qOff oSg M N) := by
  refine qSem.of (by decide +kernel) (Nat.le_of_ble_eq_true rfl) (fun w => ?_)
  refine R_ls (L' := [(0, .ref 30)]) (qs1 rfl qs0) ?_
  refine R_aload_n dX5_keepStarts_0 rfl ?_
  refine R_getR dX5_keepStarts_1 lg_RX5_32 (by decide) rfl rfl ?_
  refine R_iconst (v := nI 0) dX5_keepStarts_4 rfl ?_
  refine R_iconst (v := nI 0) dX5_keepStarts_5 rfl ?_
  refine R_iastN dX5_keepStarts_6 (by decide) rfl (by omega) (by decide) ?_
  refine R_iconst (v := nI 0) dX5_keepStarts_7 rfl ?_
  refine R_istore_n (L' := [(0, .ref 30), (1, .int (nI 0))]) dX5_keepStarts_8 (by decide) (qs1 rfl (qs1 rfl qs0)) ?_
  refine R_ls (L' := [(0, .ref 30), (1, .int (nI 0))]) (qs1 rfl (qs1 rfl qs0)) ?_
  exact (l_keep hR hl hrow 18 0 _ (by omega) (by omega) (fun m hm => by have e : m = 0 := Nat.le_zero.mp hm; subst e; exact qIs_eq _ _ _ _) rfl (qIs_no (by omega)) (qIs_no (by omega)) (qOff.is qOff.rf (by unfold oSg; omega)))

theorem q_decm (k : Nat) : nI k + Int32.ofInt (-1) = nI k - nI 1 := by
  rw [show Int32.ofInt (-1) = - nI 1 from rfl, ← Int32.sub_eq_add_neg]
theorem rows_st {K : qMem} {l : List (Nat × Int32)} {R p : Nat} (hR : 1 ≤ R) (hl : l.length ≤ 16) (h : ∀ j, (j = 0 ∨ j + R ≤ l.length) → Row K l R p j) : ∀ m, m ≤ bkN l R p → Row K l R p (stN l R p m) := fun m hm => h _ (stp_ok (f := fz l) (P := sP p) hR hl m hm).1
theorem Row_0 {K : qMem} {l : List (Nat × Int32)} {R p : Nat} (hR : 1 ≤ R) (hl : l.length = 0) (e1 : K.2 31 0 = 0) (e2 : K.1 32 0 = nI 0) (e3 : K.1 33 0 = nI 0) : Row K l R p 0 := by
  unfold Row
  rw [hl, bk_empty hR, if_pos rfl]
  refine ⟨?_, e2, e3⟩
  rw [e1]
  unfold vl
  rw [rst_k0 0 R (fz l) (Or.inl rfl)]
  rfl
set_option maxRecDepth 100000 in
set_option maxHeartbeats 4000000 in
theorem l_fit {w : qWT} {M : qMem} {l : List (Nat × Int32)} (hS : XS M l) (hb : serB l) {R p : Nat} (hR : 1 ≤ R) (hR4 : R ≤ 4) (hp : p ≤ 99999) {P : Int64} (hP : P.toInt = sP p) : ∀ (k : Nat) (K : qMem), (k ≤ l.length) → (∀ j, k ≤ j → (j = 0 ∨ j + R ≤ l.length) → Row K l R p j) → (qOff oSg M K) → qRW 0 w mX5_fit 42 [(0, .ref 30), (1, .int (nI R)), (3, .int (nI (l.length))), (4, .long (P)), (6, .int (nI k - nI 1))] [] K (fun v N => v = none ∧ XG N l R p ∧ qOff oSg M N) := by
  intro k
  induction k with
  | zero =>
    intro K hk hrow hO
    have hl16 := hS.2.1
    refine R_iload dX5_fit_42 rfl ?_
    refine R_if_lt (tgt := 62) dX5_fit_44 (by decide) (fun h_44 => ?_) (fun h_44 => by exact absurd (show nI 0 - nI 1 < 0 by decide) h_44)
    refine R_aload_n dX5_fit_62 rfl ?_
    refine R_callV (mc := mX5_keepStarts) (As := []) (r := 30) dX5_fit_63 lm_RX5_49 mv_X5_keepStarts rfl (by decide) rfl rfl rfl rfl (Nat.le_of_ble_eq_true rfl) (c_keep hR hl16 (rows_st hR hl16 (fun j hj => hrow j (Nat.zero_le _) hj))) ?_
    rintro _ _ ⟨rfl, hG, hO2⟩
    refine R_return dX5_fit_66 rfl ?_
    exact ⟨rfl, hG, hO.tr hO2⟩
  | succ k ih =>
    intro K hk hrow hO
    have hl16 := hS.2.1
    have hSK : XS K l := hS.off (fun o h1 h2 => hO o (by unfold oSg; omega))
    rw [pk_sub (show 1 ≤ k + 1 by omega), show k + 1 - 1 = k from rfl]
    refine R_iload dX5_fit_42 rfl ?_
    refine R_if_ltN (tgt := 62) dX5_fit_44 (by decide) (by omega) ?_
    refine R_aload_n dX5_fit_47 rfl ?_
    refine R_iload dX5_fit_48 rfl ?_
    refine R_iload_n dX5_fit_50 rfl ?_
    refine R_lload dX5_fit_51 rfl ?_
    refine R_callV (mc := mX5_fitFrom) (As := [_, _, _]) (r := 30) dX5_fit_53 lm_RX5_45 mv_X5_fitFrom rfl (by decide) rfl rfl rfl rfl (Nat.le_of_ble_eq_true rfl) (c_fitFrom hSK hb hR hR4 hp (by omega) (fun j h1 h2 => hrow j h1 (Or.inr h2)) hP) ?_
    rintro _ _ ⟨rfl, hF, hRw⟩
    refine R_iinc (v := nI k - nI 1) (L' := [(0, .ref 30), (1, .int (nI R)), (3, .int (nI (l.length))), (4, .long (P)), (6, .int (nI k - nI 1))]) dX5_fit_56 rfl (q_decm k) (by decide) (qs1 rfl (qs1 rfl (qs1 rfl (qs1 rfl (qs1 rfl qs0))))) ?_
    refine R_goto (tgt := 42) dX5_fit_59 (by decide) ?_
    refine R_ls (L' := [(0, .ref 30), (1, .int (nI R)), (3, .int (nI (l.length))), (4, .long (P)), (6, .int (nI k - nI 1))]) (qs1 rfl (qs1 rfl (qs1 rfl (qs1 rfl (qs1 rfl qs0))))) ?_
    exact (ih _ (by omega) (fun j h1 h2 => by rcases Nat.lt_or_ge k j with h | h <;> first | exact Row_mv (hrow j h h2) (hF.2 j (by omega)).1 (hF.2 j (by omega)).2.1 (hF.2 j (by omega)).2.2 | (have e : j = k := (by omega); subst e; exact hRw h2)) (hO.tr hF.1))
set_option maxRecDepth 100000 in
set_option maxHeartbeats 4000000 in
theorem c_fit {M : qMem} {l : List (Nat × Int32)} (hS : XS M l) (hb : serB l) {R p : Nat} (hR : 1 ≤ R) (hR4 : R ≤ 4) (hp : p ≤ 99999) : qSem 0 mX5_fit [.ref 30, .int (nI R), .int (nI p)] M (fun v N => v = none ∧ XG N l R p ∧ qOff oSg M N) := by
  have hl16 := hS.2.1
  refine qSem.of (by decide +kernel) (Nat.le_of_ble_eq_true rfl) (fun w => ?_)
  refine R_ls (L' := [(0, .ref 30), (1, .int (nI R)), (2, .int (nI p))]) (qs1 rfl (qs1 rfl (qs1 rfl qs0))) ?_
  refine R_aload_n dX5_fit_0 rfl ?_
  refine R_getR dX5_fit_1 lg_RX5_12 (by decide) rfl rfl ?_
  refine R_callV (mc := mX6_length) (As := []) (r := 25) dX5_fit_4 lm_RX5_39 mv_X6_length rfl (by decide) rfl rfl rfl rfl (Nat.le_of_ble_eq_true rfl) (c_slen hS) ?_
  rintro _ _ ⟨rfl, rfl⟩
  refine R_istore_n (L' := [(0, .ref 30), (1, .int (nI R)), (2, .int (nI p)), (3, .int (nI (l.length)))]) dX5_fit_7 (by decide) (qs1 rfl (qs1 rfl (qs1 rfl (qs1 rfl qs0)))) ?_
  refine R_ldc2 dX5_fit_8 lc_RX5_43 ?_
  refine R_iload_n dX5_fit_11 rfl ?_
  refine R_i2l dX5_fit_12 ?_
  refine R_lmul dX5_fit_13 ?_
  refine R_lstore (L' := [(0, .ref 30), (1, .int (nI R)), (2, .int (nI p)), (3, .int (nI (l.length))), (4, .long _)]) dX5_fit_14 (by decide) (qs1 rfl (qs1 rfl (qs1 rfl (qs1 rfl (qs1 rfl qs0))))) ?_
  refine R_aload_n dX5_fit_16 rfl ?_
  refine R_getR dX5_fit_17 lg_RX5_18 (by decide) rfl rfl ?_
  refine R_iconst (v := nI 0) dX5_fit_20 rfl ?_
  refine R_lconst (v := 0) dX5_fit_21 rfl ?_
  refine R_lastN dX5_fit_22 (by decide) rfl (by omega) (by decide) ?_
  refine R_aload_n dX5_fit_23 rfl ?_
  refine R_getR dX5_fit_24 lg_RX5_22 (by decide) rfl rfl ?_
  refine R_iconst (v := nI 0) dX5_fit_27 rfl ?_
  refine R_iconst (v := nI 0) dX5_fit_28 rfl ?_
  refine R_iastN dX5_fit_29 (by decide) rfl (by omega) (by decide) ?_
  refine R_aload_n dX5_fit_30 rfl ?_
  refine R_getR dX5_fit_31 lg_RX5_26 (by decide) rfl rfl ?_
  refine R_iconst (v := nI 0) dX5_fit_34 rfl ?_
  refine R_iload_n dX5_fit_35 rfl ?_
  refine R_iastN dX5_fit_36 (by decide) rfl (by omega) (by decide) ?_
  refine R_iload_n dX5_fit_37 rfl ?_
  refine R_iconst (v := nI 1) dX5_fit_38 rfl ?_
  refine R_isub dX5_fit_39 ?_
  refine R_istore (L' := [(0, .ref 30), (1, .int (nI R)), (2, .int (nI p)), (3, .int (nI (l.length))), (4, .long _), (6, .int _)]) dX5_fit_40 (by decide) (qs1 rfl (qs1 rfl (qs1 rfl (qs1 rfl (qs1 rfl (qs1 rfl qs0)))))) ?_
  refine R_ls (L' := [(0, .ref 30), (1, .int (nI R)), (3, .int (nI (l.length))), (4, .long _), (6, .int _)]) (qs1 rfl (qs1 rfl (qs1 rfl (qs1 rfl (qs1 rfl qs0))))) ?_
  exact (l_fit hS hb hR hR4 hp (pen64 hp) l.length _ (Nat.le_refl _) (fun j h1 h2 => by have e : j = 0 := (by rcases h2 with h | h <;> omega); subst e; have e0 : l.length = 0 := Nat.le_zero.mp h1; refine Row_0 hR e0 ?_ ?_ ?_ <;> first | (rw [qIs_2, qIs_2, qLs_eq]) | (rw [qIs_no (by omega), qIs_eq]) | (rw [qIs_eq, e0])) (qOff.is (qOff.is (qOff.ls qOff.rf (by unfold oSg; omega)) (by unfold oSg; omega)) (by unfold oSg; omega)))
set_option maxRecDepth 100000 in
set_option maxHeartbeats 4000000 in
theorem c_bcount {M : qMem} {l : List (Nat × Int32)} {R p : Nat} (hG : XG M l R p) : qSem 0 mX5_breakCount [.ref 30] M (qr (nI (bkN l R p)) M) := by
  refine qSem.of (by decide +kernel) (Nat.le_of_ble_eq_true rfl) (fun w => ?_)
  refine R_ls (L' := [(0, .ref 30)]) (qs1 rfl qs0) ?_
  refine R_aload_n dX5_breakCount_0 rfl ?_
  refine R_getR dX5_breakCount_1 lg_RX5_22 (by decide) rfl rfl ?_
  refine R_iconst (v := nI 0) dX5_breakCount_4 rfl ?_
  refine R_ialdN dX5_breakCount_5 (by decide) rfl (by omega) (by decide) ?_
  refine R_top (y := nI (bkN l R p)) hG.2.1 ?_
  refine R_ireturn dX5_breakCount_6 rfl rfl ?_
  exact ⟨rfl, rfl⟩
set_option maxRecDepth 100000 in
set_option maxHeartbeats 4000000 in
theorem c_cost {M : qMem} {l : List (Nat × Int32)} {R p : Nat} (hG : XG M l R p) : qSem 0 mX5_scaledCost [.ref 30] M (fun v N => ∃ x : Int64, v = some (.long x) ∧ N = M ∧ x.toInt = vl l.length R (fz l) (sP p) 0 (bkN l R p)) := by
  refine qSem.of (by decide +kernel) (Nat.le_of_ble_eq_true rfl) (fun w => ?_)
  refine R_ls (L' := [(0, .ref 30)]) (qs1 rfl qs0) ?_
  refine R_aload_n dX5_scaledCost_0 rfl ?_
  refine R_getR dX5_scaledCost_1 lg_RX5_18 (by decide) rfl rfl ?_
  refine R_iconst (v := nI 0) dX5_scaledCost_4 rfl ?_
  refine R_laldN dX5_scaledCost_5 (by decide) rfl (by omega) (by decide) ?_
  refine R_lreturn dX5_scaledCost_6 rfl ?_
  exact ⟨_, rfl, rfl, hG.1⟩
set_option maxRecDepth 100000 in
set_option maxHeartbeats 4000000 in
theorem c_byear {M : qMem} {l : List (Nat × Int32)} {R p : Nat} (hG : XG M l R p) (hS : XS M l) (hR : 1 ≤ R) {k : Nat} (hk : k < bkN l R p) : qSem 0 mX5_breakYear [.ref 30, .int (nI k)] M (qr (nI (yr l (stN l R p (k + 1)))) M) := by
  have h15 := bkN_le l R p
  have hl := hS.2.1
  have q1 := stN_pos (p := p) hR hl hk
  have q2 := stN_le' (p := p) hR hl (m := k + 2) (by omega)
  have q0 := stN_le (p := p) hR hl (m := k) (by omega)
  refine qSem.of (by decide +kernel) (Nat.le_of_ble_eq_true rfl) (fun w => ?_)
  refine R_ls (L' := [(0, .ref 30), (1, .int (nI k))]) (qs1 rfl (qs1 rfl qs0)) ?_
  refine R_aload_n dX5_breakYear_0 rfl ?_
  refine R_getR dX5_breakYear_1 lg_RX5_12 (by decide) rfl rfl ?_
  refine R_aload_n dX5_breakYear_4 rfl ?_
  refine R_getR dX5_breakYear_5 lg_RX5_32 (by decide) rfl rfl ?_
  refine R_iload_n dX5_breakYear_8 rfl ?_
  refine R_iconst (v := nI 1) dX5_breakYear_9 rfl ?_
  refine R_iaddN dX5_breakYear_10 ?_
  refine R_ialdN dX5_breakYear_11 (by decide) rfl (by omega) (by decide) ?_
  refine R_top (y := nI (stN l R p (k + 1))) (hG.2.2 (k + 1) (by omega)) ?_
  refine R_callV (mc := mX6_yearAt) (As := [_]) (r := 25) dX5_breakYear_12 lm_RX5_56 mv_X6_yearAt rfl (by decide) rfl rfl rfl rfl (Nat.le_of_ble_eq_true rfl) (c_yearAt hS q1) ?_
  rintro _ _ ⟨rfl, rfl⟩
  refine R_ireturn dX5_breakYear_15 rfl rfl ?_
  exact ⟨rfl, rfl⟩

/-- the shift at break k -/
def shN (l : List (Nat × Int32)) (R p k : Nat) : Int64 := mea l (stN l R p (k + 1)) (stN l R p (k + 2)) - mea l (stN l R p k) (stN l R p (k + 1))
set_option maxRecDepth 100000 in
set_option maxHeartbeats 4000000 in
theorem c_shN {M : qMem} {l : List (Nat × Int32)} {R p : Nat} (hG : XG M l R p) (hS : XS M l) (hR : 1 ≤ R) {k : Nat} (hk : k < bkN l R p) : qSem 0 mX5_scaledShift [.ref 30, .int (nI k)] M (ql (shN l R p k) M) := by
  have h15 := bkN_le l R p
  have hl := hS.2.1
  have q1 := stN_pos (p := p) hR hl hk
  have q2 := stN_le' (p := p) hR hl (m := k + 2) (by omega)
  have q0 := stN_le (p := p) hR hl (m := k) (by omega)
  refine qSem.of (by decide +kernel) (Nat.le_of_ble_eq_true rfl) (fun w => ?_)
  refine R_ls (L' := [(0, .ref 30), (1, .int (nI k))]) (qs1 rfl (qs1 rfl qs0)) ?_
  refine R_aload_n dX5_scaledShift_0 rfl ?_
  refine R_getR dX5_scaledShift_1 lg_RX5_12 (by decide) rfl rfl ?_
  refine R_aload_n dX5_scaledShift_4 rfl ?_
  refine R_getR dX5_scaledShift_5 lg_RX5_32 (by decide) rfl rfl ?_
  refine R_iload_n dX5_scaledShift_8 rfl ?_
  refine R_iconst (v := nI 1) dX5_scaledShift_9 rfl ?_
  refine R_iaddN dX5_scaledShift_10 ?_
  refine R_ialdN dX5_scaledShift_11 (by decide) rfl (by omega) (by decide) ?_
  refine R_top (y := nI (stN l R p (k + 1))) (hG.2.2 (k + 1) (by omega)) ?_
  refine R_aload_n dX5_scaledShift_12 rfl ?_
  refine R_getR dX5_scaledShift_13 lg_RX5_32 (by decide) rfl rfl ?_
  refine R_iload_n dX5_scaledShift_16 rfl ?_
  refine R_iconst (v := nI 2) dX5_scaledShift_17 rfl ?_
  refine R_iaddN dX5_scaledShift_18 ?_
  refine R_ialdN dX5_scaledShift_19 (by decide) rfl (by omega) (by decide) ?_
  refine R_top (y := nI (stN l R p (k + 2))) (hG.2.2 (k + 2) (by omega)) ?_
  refine R_callV (mc := mX6_scaledMean) (As := [_, _]) (r := 25) dX5_scaledShift_20 lm_RX5_60 mv_X6_scaledMean rfl (by decide) rfl rfl rfl rfl (Nat.le_of_ble_eq_true rfl) (c_mean hS (by omega) (by omega)) ?_
  rintro _ _ ⟨rfl, rfl⟩
  refine R_aload_n dX5_scaledShift_23 rfl ?_
  refine R_getR dX5_scaledShift_24 lg_RX5_12 (by decide) rfl rfl ?_
  refine R_aload_n dX5_scaledShift_27 rfl ?_
  refine R_getR dX5_scaledShift_28 lg_RX5_32 (by decide) rfl rfl ?_
  refine R_iload_n dX5_scaledShift_31 rfl ?_
  refine R_ialdN dX5_scaledShift_32 (by decide) rfl (by omega) (by decide) ?_
  refine R_top (y := nI (stN l R p k)) (hG.2.2 k (by omega)) ?_
  refine R_aload_n dX5_scaledShift_33 rfl ?_
  refine R_getR dX5_scaledShift_34 lg_RX5_32 (by decide) rfl rfl ?_
  refine R_iload_n dX5_scaledShift_37 rfl ?_
  refine R_iconst (v := nI 1) dX5_scaledShift_38 rfl ?_
  refine R_iaddN dX5_scaledShift_39 ?_
  refine R_ialdN dX5_scaledShift_40 (by decide) rfl (by omega) (by decide) ?_
  refine R_top (y := nI (stN l R p (k + 1))) (hG.2.2 (k + 1) (by omega)) ?_
  refine R_callV (mc := mX6_scaledMean) (As := [_, _]) (r := 25) dX5_scaledShift_41 lm_RX5_60 mv_X6_scaledMean rfl (by decide) rfl rfl rfl rfl (Nat.le_of_ble_eq_true rfl) (c_mean hS (by omega) (by omega)) ?_
  rintro _ _ ⟨rfl, rfl⟩
  refine R_lsub dX5_scaledShift_44 ?_
  refine R_lreturn dX5_scaledShift_45 rfl ?_
  exact ⟨rfl, rfl⟩

theorem Met.ofWF {l : Launch} {y : MethodName} {ws ws' : List Cond} {rm : Room} {Pc : Array Value → State → Prop} {Qc : Array Value → State → Outcome → State → Prop} {mc ms : Nat} {free : Addr → Prop} {cc : ByteArray} {maxL : Nat} {ret : Option FieldType}
    (hy : plainFor y = true) (hw : ws = Cond.code y cc maxL ret :: ws')
    (body : ∀ p e s m args below meth c s₁, BodyLoose p l y (headSpec ws rm) cc maxL ret e s m args below meth c s₁ → c.maxLocals = maxL → Pc args s →
      W p l e (headSpec ws rm).room s m args below meth c s.heap [] 0 0 (MQ below Qc args s mc ms free) (entryFrame m args maxL)) : Met l y ws rm Pc Qc mc ms free := by
  refine MetFree.of_bodySF (code := cc) (maxLocals := maxL) (ret := ret) hy ?_ ?_
  · intro args s m h hn
    obtain ⟨meth, c, h1, h2, h3, h4, h5, h6, -, -⟩ := Cond.code_spec hn (atoms_spec (ws := ws) h _ (by rw [hw]; exact List.mem_cons_self))
    exact ⟨meth, c, h1, h2, h3, h4, h5, h6⟩
  · intro p e s m args below meth c s₁ B hml hP _
    have hh0 : s₁.heap = s.heap := by rw [B.state]; rfl
    obtain ⟨t, a1, o, b1, b2, b3⟩ := body p e s m args below meth c s₁ B hml hP s₁ hh0 (Stand.of_body B)
    exact ⟨t, o, a1, b1, b2, ⟨b3.1, b3.2⟩⟩
theorem qSem.ofF {g : Nat} {mt : qMT} {av : List Value} {M : qMem} {Q : qQ} (hp : plainFor (m_y mt) = true) (hn : (lg_sl av).length ≤ m_n mt) (h : ∀ w : qWT, qRW g w mt 0 (lv_args 0 av) [] M Q) : qSem g mt av M Q := by
  intro w sz
  refine Met.ofWF (cc := m_b mt) (maxL := m_n mt) (ret := m_r mt) hp rfl ?_
  intro p e s m args below meth c s₁ B hml hv
  obtain ⟨rfl, hsz, hP, hK, hD, hNs, hSt⟩ := hv
  have hts := atoms_spec (ws := Cond.code (m_y mt) (m_b mt) (m_n mt) (m_r mt) :: qW) B.pre
  rw [lg_entry_eq]
  have hl := lv_entry (av.map (qcv w)) (n := m_n mt) (by rw [q_sl]; exact hn)
  rw [q_args] at hl
  exact h w p e s m _ below meth c sz s.heap [] _ ⟨B.exec, B.bytes, hml, B.returns, B.notSynchronized, findClass_of_methodNamed B.named, fun z hz => hts z (List.mem_cons_of_mem _ hz), hsz, hK, hNs, hSt⟩ hP (qD_self hD) va_S.rf hl
set_option maxRecDepth 100000 in
set_option maxHeartbeats 4000000 in
theorem c_max {M : qMem} {x y : Int32} : qSem 0 mJ9_max_7cf53 [.int (x), .int (y)] M (qr (if x < y then y else x) M) := by
  refine qSem.ofF (by decide +kernel) (Nat.le_of_ble_eq_true rfl) (fun w => ?_)
  refine R_ls (L' := [(0, .int (x)), (1, .int (y))]) (qs1 rfl (qs1 rfl qs0)) ?_
  refine R_iload_n dJ9_max_7cf53_0 rfl ?_
  refine R_iload_n dJ9_max_7cf53_1 rfl ?_
  refine R_icmp_lt (tgt := 9) dJ9_max_7cf53_2 (by decide) (fun h_2 => ?_) (fun h_2 => ?_)
  · refine R_iload_n dJ9_max_7cf53_9 rfl ?_
    refine R_ireturn dJ9_max_7cf53_10 rfl rfl ?_
    exact ⟨by first | rw [if_pos (by assumption)] | rw [if_neg (by assumption)], rfl⟩
  · refine R_iload_n dJ9_max_7cf53_5 rfl ?_
    refine R_goto (tgt := 10) dJ9_max_7cf53_6 (by decide) ?_
    refine R_ireturn dJ9_max_7cf53_10 rfl rfl ?_
    exact ⟨by first | rw [if_pos (by assumption)] | rw [if_neg (by assumption)], rfl⟩
set_option maxRecDepth 100000 in
set_option maxHeartbeats 4000000 in
theorem c_min {M : qMem} {x y : Int32} : qSem 0 mJ9_min_7cf53 [.int (x), .int (y)] M (qr (if y < x then y else x) M) := by
  refine qSem.ofF (by decide +kernel) (Nat.le_of_ble_eq_true rfl) (fun w => ?_)
  refine R_ls (L' := [(0, .int (x)), (1, .int (y))]) (qs1 rfl (qs1 rfl qs0)) ?_
  refine R_iload_n dJ9_min_7cf53_0 rfl ?_
  refine R_iload_n dJ9_min_7cf53_1 rfl ?_
  refine R_icmp_gt (tgt := 9) dJ9_min_7cf53_2 (by decide) (fun h_2 => ?_) (fun h_2 => ?_)
  · refine R_iload_n dJ9_min_7cf53_9 rfl ?_
    refine R_ireturn dJ9_min_7cf53_10 rfl rfl ?_
    exact ⟨by first | rw [if_pos (Int32.not_le.mp (by assumption))] | rw [if_neg (Int32.not_lt.mpr (by assumption))] | rw [if_pos (by assumption)] | rw [if_neg (by assumption)], rfl⟩
  · refine R_iload_n dJ9_min_7cf53_5 rfl ?_
    refine R_goto (tgt := 10) dJ9_min_7cf53_6 (by decide) ?_
    refine R_ireturn dJ9_min_7cf53_10 rfl rfl ?_
    exact ⟨by first | rw [if_pos (Int32.not_le.mp (by assumption))] | rw [if_neg (Int32.not_lt.mpr (by assumption))] | rw [if_pos (by assumption)] | rw [if_neg (by assumption)], rfl⟩
set_option maxRecDepth 100000 in
set_option maxHeartbeats 4000000 in
theorem c_minL {M : qMem} {x y : Int64} : qSem 0 mJ9_min_f86c9 [.long (x), .long (y)] M (ql (if x ≤ y then x else y) M) := by
  refine qSem.ofF (by decide +kernel) (Nat.le_of_ble_eq_true rfl) (fun w => ?_)
  refine R_ls (L' := [(0, .long (x)), (2, .long (y))]) (qs1 rfl (qs1 rfl qs0)) ?_
  refine R_lload_n dJ9_min_f86c9_0 rfl ?_
  refine R_lload_n dJ9_min_f86c9_1 rfl ?_
  refine R_lc_gt (tgt := 10) dJ9_min_f86c9_2 dJ9_min_f86c9_3 (by decide) (fun h_2 => ?_) (fun h_2 => ?_)
  · refine R_lload_n dJ9_min_f86c9_10 rfl ?_
    refine R_lreturn dJ9_min_f86c9_11 rfl ?_
    exact ⟨by first | rw [if_pos (by assumption)] | rw [if_neg (by assumption)] | rw [if_neg (Int64.not_le.mpr (by assumption))] | rw [if_pos (Int64.not_lt.mp (by assumption))], rfl⟩
  · refine R_lload_n dJ9_min_f86c9_6 rfl ?_
    refine R_goto (tgt := 11) dJ9_min_f86c9_7 (by decide) ?_
    refine R_lreturn dJ9_min_f86c9_11 rfl ?_
    exact ⟨by first | rw [if_pos (by assumption)] | rw [if_neg (by assumption)] | rw [if_neg (Int64.not_le.mpr (by assumption))] | rw [if_pos (Int64.not_lt.mp (by assumption))], rfl⟩

/-- the sums with r breaks, where there are such -/
def Fx (K : qMem) (l : List (Nat × Int32)) (R r : Nat) (i : Nat) : Prop := ∀ s, rst l.length R (fz l) r i = some s → (K.2 34 i).toInt = s
theorem Fx_mv {K N : qMem} {l : List (Nat × Int32)} {R r i : Nat} (h : Fx K l R r i) (e : N.2 34 i = K.2 34 i) : Fx N l R r i := by unfold Fx at *; rw [e]; exact h
/-- the least so far of the sums whose first run ends before J -/
def Mn (n R : Nat) (f : Nat → Nat → Int) (r i J : Nat) (s : Int) : Prop := (∃ j s', i + R ≤ j ∧ j < J ∧ rst n R f r j = some s' ∧ s = f i j + s') ∧ ∀ j s', i + R ≤ j → j < J → rst n R f r j = some s' → s ≤ f i j + s'
theorem Mn_end {n R : Nat} {f : Nat → Nat → Int} {r i J : Nat} {s : Int} (hR : 1 ≤ R) (hJ : n < J + (r + 1) * R) (hJn : J ≤ n) (h : Mn n R f r i J s) : rst n R f (r + 1) i = some s := by
  obtain ⟨⟨j, s', h1, h2, h3, h4⟩, h5⟩ := h
  obtain ⟨t, ht, hle⟩ := rst_le n R f (i := i) h1 (by omega) h3
  obtain ⟨j2, s2, g1, g2, g3, g4⟩ := rst_in n R f ht
  have g5 := rst_room n R f hR g3 (Or.inr (by omega))
  have := h5 j2 s2 g1 (by omega) g3
  rw [ht]; congr 1; omega
set_option maxRecDepth 100000 in
set_option maxHeartbeats 4000000 in
theorem l_run2 {w : qWT} {M : qMem} {l : List (Nat × Int32)} (hS : XS M l) (hb : serB l) {R r : Nat} (hR : 1 ≤ R) (hR4 : R ≤ 4) (hr : (r + 2) * R ≤ l.length) {i : Nat} {K : qMem} (hSK : XS K l) (hi : i + (r + 2) * R ≤ l.length) (hold : ∀ a, i ≤ a → a + (r + 1) * R ≤ l.length → Fx K l R r a) (hk : ∀ B : Int64, Fx (qLs K 34 i B) l R (r + 1) i → qRW 0 w mX5_addRun 96 [(0, .ref 30), (2, .int (nI R)), (3, .int (nI (l.length - (r + 1) * R))), (4, .int (nI i)), (5, .long B)] [] K (fun v N => v = none ∧ (∀ i, i + (r + 2) * R ≤ l.length → Fx N l R (r + 1) i) ∧ qOff oSg M N ∧ (∀ o, o ≠ 34 → N.2 o = M.2 o) ∧ N.1 = M.1)) : ∀ (fu : Nat) (j : Nat) (B : Int64), (l.length + 2 - j) < fu → (i + R < j) → (j ≤ l.length - (r + 1) * R + 1) → (Mn l.length R (fz l) r i j B.toInt) → qRW 0 w mX5_addRun 58 [(0, .ref 30), (2, .int (nI R)), (3, .int (nI (l.length - (r + 1) * R))), (4, .int (nI i)), (5, .long (B)), (7, .int (nI j))] [] K (fun v N => v = none ∧ (∀ i, i + (r + 2) * R ≤ l.length → Fx N l R (r + 1) i) ∧ qOff oSg M N ∧ (∀ o, o ≠ 34 → N.2 o = M.2 o) ∧ N.1 = M.1) := by
  intro fu
  induction fu with
  | zero => intro j B hn; exact absurd hn (Nat.not_lt_zero _)
  | succ fu ih =>
    intro j B hn hj hj2 hB
    have em : (r + 2) * R = (r + 1) * R + R := Nat.succ_mul _ _
    have em1 : (r + 1) * R = r * R + R := Nat.succ_mul _ _
    have hl16 := hS.2.1
    have hfz := fz_b hb hl16
    refine R_iload dX5_addRun_58 rfl ?_
    refine R_iload_n dX5_addRun_60 rfl ?_
    refine R_icmp_gtN (tgt := 96) dX5_addRun_61 (by decide) (by omega) (by omega) (fun h_61 => ?_) (fun h_61 => ?_)
    · refine R_ls (L' := [(0, .ref 30), (2, .int (nI R)), (3, .int (nI (l.length - (r + 1) * R))), (4, .int (nI i)), (5, .long B)]) (qs1 rfl (qs1 rfl (qs1 rfl (qs1 rfl (qs1 rfl qs0))))) ?_
      refine hk B (fun s hs => ?_)
      rw [qLs_eq]
      rw [Mn_end hR (by omega) (by omega) hB] at hs; cases hs; rfl
    · obtain ⟨s, hs⟩ := rst_some l.length R (fz l) hR (k := r) (i := j) (by omega)
      have hF := hold j (by omega) (by omega) s hs
      have hfij := hfz i j (by omega)
      have hsb := rst_b hfz hs
      have hr16 : r ≤ 16 := by have := Nat.le_mul_of_pos_right (r + 2) hR; omega
      have hc : (spd l i j + K.2 34 j).toInt = fz l i j + s := by rw [j_add (by rw [hF]; show _ ≤ fz l i j + _; omega) (by rw [hF]; show fz l i j + _ < _; omega), hF]; rfl
      refine R_lload dX5_addRun_64 rfl ?_
      refine R_aload_n dX5_addRun_66 rfl ?_
      refine R_getR dX5_addRun_67 lg_RX5_12 (by decide) rfl rfl ?_
      refine R_iload dX5_addRun_70 rfl ?_
      refine R_iload dX5_addRun_72 rfl ?_
      refine R_callV (mc := mX6_scaledSpread) (As := [_, _]) (r := 25) dX5_addRun_74 lm_RX5_52 mv_X6_scaledSpread rfl (by decide) rfl rfl rfl rfl (Nat.le_of_ble_eq_true rfl) (c_spread hSK (by omega) (by omega)) ?_
      rintro _ _ ⟨rfl, rfl⟩
      refine R_aload_n dX5_addRun_77 rfl ?_
      refine R_getR dX5_addRun_78 lg_RX5_29 (by decide) rfl rfl ?_
      refine R_iload dX5_addRun_81 rfl ?_
      refine R_laldN dX5_addRun_83 (by decide) rfl (by omega) (by decide) ?_
      refine R_ladd dX5_addRun_84 ?_
      refine R_callS (mc := mJ9_min_f86c9) (As := [_, _]) dX5_addRun_85 lm_RX5_69 mv_J9_min_f86c9 rfl rfl rfl (Nat.le_of_ble_eq_true rfl) c_minL ?_
      rintro _ _ ⟨rfl, rfl⟩
      refine R_lstore (L' := [(0, .ref 30), (2, .int (nI R)), (3, .int (nI (l.length - (r + 1) * R))), (4, .int (nI i)), (5, .long _), (7, .int (nI j))]) dX5_addRun_88 (by decide) (qs1 rfl (qs1 rfl (qs1 rfl (qs1 rfl (qs1 rfl (qs1 rfl qs0)))))) ?_
      refine R_iincN (n := 1) (L' := [(0, .ref 30), (2, .int (nI R)), (3, .int (nI (l.length - (r + 1) * R))), (4, .int (nI i)), (5, .long _), (7, .int (nI (j + 1)))]) dX5_addRun_90 rfl (by decide) (qs1 rfl (qs1 rfl (qs1 rfl (qs1 rfl (qs1 rfl (qs1 rfl qs0)))))) ?_
      refine R_goto (tgt := 58) dX5_addRun_93 (by decide) ?_
      refine R_ls (L' := [(0, .ref 30), (2, .int (nI R)), (3, .int (nI (l.length - (r + 1) * R))), (4, .int (nI i)), (5, .long _), (7, .int (nI (j + 1)))]) (qs1 rfl (qs1 rfl (qs1 rfl (qs1 rfl (qs1 rfl (qs1 rfl qs0)))))) ?_
      exact (ih (j + 1) _ (by omega) (by omega) (by omega) (by obtain ⟨⟨j0, s0, g1, g2, g3, g4⟩, g5⟩ := hB; split <;> rename_i hh <;> rw [Int64.le_iff_toInt_le, hc] at hh <;> first | exact ⟨⟨j0, s0, g1, by omega, g3, g4⟩, fun a t q1 q2 q3 => by rcases Nat.lt_or_ge a j with q | q <;> first | exact g5 a t q1 q q3 | (have e : a = j := (by omega); subst e; rw [hs] at q3; cases q3; exact hh)⟩ | (rw [hc]; exact ⟨⟨j, s, by omega, by omega, hs, rfl⟩, fun a t q1 q2 q3 => by rcases Nat.lt_or_ge a j with q | q <;> first | (have := g5 a t q1 q q3; omega) | (have e : a = j := (by omega); subst e; rw [hs] at q3; cases q3; exact Int.le_refl _)⟩)))
set_option maxRecDepth 100000 in
set_option maxHeartbeats 4000000 in
theorem l_run1 {w : qWT} {M : qMem} {l : List (Nat × Int32)} (hS : XS M l) (hb : serB l) {R r : Nat} (hR : 1 ≤ R) (hR4 : R ≤ 4) (hr : (r + 2) * R ≤ l.length) : ∀ (fu : Nat) (i : Nat) (K : qMem), (l.length + 2 - i) < fu → (i ≤ l.length) → (XS K l) → (qOff oSg M K) → (∀ o, o ≠ 34 → K.2 o = M.2 o) → (K.1 = M.1) → (∀ a, a < i → a + (r + 2) * R ≤ l.length → Fx K l R (r + 1) a) → (∀ a, i ≤ a → a + (r + 1) * R ≤ l.length → Fx K l R r a) → qRW 0 w mX5_addRun 17 [(0, .ref 30), (2, .int (nI R)), (3, .int (nI (l.length - (r + 1) * R))), (4, .int (nI i))] [] K (fun v N => v = none ∧ (∀ i, i + (r + 2) * R ≤ l.length → Fx N l R (r + 1) i) ∧ qOff oSg M N ∧ (∀ o, o ≠ 34 → N.2 o = M.2 o) ∧ N.1 = M.1) := by
  intro fu
  induction fu with
  | zero => intro i K hn; exact absurd hn (Nat.not_lt_zero _)
  | succ fu ih =>
    intro i K hn hi hSK hO h2 h1 hnew hold
    have em : (r + 2) * R = (r + 1) * R + R := Nat.succ_mul _ _
    have em1 : (r + 1) * R = r * R + R := Nat.succ_mul _ _
    have hl16 := hS.2.1
    have hfz := fz_b hb hl16
    refine R_iload dX5_addRun_17 rfl ?_
    refine R_iload_n dX5_addRun_19 rfl ?_
    refine R_iaddN dX5_addRun_20 ?_
    refine R_iload_n dX5_addRun_21 rfl ?_
    refine R_icmp_gtN (tgt := 111) dX5_addRun_22 (by decide) (by omega) (by omega) (fun h_22 => ?_) (fun h_22 => ?_)
    · refine R_return dX5_addRun_111 rfl ?_
      exact ⟨rfl, fun a ha => hnew a (by omega) ha, hO, h2, h1⟩
    · obtain ⟨s, hs⟩ := rst_some l.length R (fz l) hR (k := r) (i := i + R) (by omega)
      have hF := hold (i + R) (by omega) (by omega) s hs
      have hfij := hfz i (i + R) (by omega)
      have hsb := rst_b hfz hs
      have hr16 : r ≤ 16 := by have := Nat.le_mul_of_pos_right (r + 2) hR; omega
      have hc : (spd l i (i + R) + K.2 34 (i + R)).toInt = fz l i (i + R) + s := by rw [j_add (by rw [hF]; show _ ≤ fz l i (i + R) + _; omega) (by rw [hF]; show fz l i (i + R) + _ < _; omega), hF]; rfl
      refine R_aload_n dX5_addRun_25 rfl ?_
      refine R_getR dX5_addRun_26 lg_RX5_12 (by decide) rfl rfl ?_
      refine R_iload dX5_addRun_29 rfl ?_
      refine R_iload dX5_addRun_31 rfl ?_
      refine R_iload_n dX5_addRun_33 rfl ?_
      refine R_iaddN dX5_addRun_34 ?_
      refine R_callV (mc := mX6_scaledSpread) (As := [_, _]) (r := 25) dX5_addRun_35 lm_RX5_52 mv_X6_scaledSpread rfl (by decide) rfl rfl rfl rfl (Nat.le_of_ble_eq_true rfl) (c_spread hSK (by omega) (by omega)) ?_
      rintro _ _ ⟨rfl, rfl⟩
      refine R_aload_n dX5_addRun_38 rfl ?_
      refine R_getR dX5_addRun_39 lg_RX5_29 (by decide) rfl rfl ?_
      refine R_iload dX5_addRun_42 rfl ?_
      refine R_iload_n dX5_addRun_44 rfl ?_
      refine R_iaddN dX5_addRun_45 ?_
      refine R_laldN dX5_addRun_46 (by decide) rfl (by omega) (by decide) ?_
      refine R_ladd dX5_addRun_47 ?_
      refine R_lstore (L' := [(0, .ref 30), (2, .int (nI R)), (3, .int (nI (l.length - (r + 1) * R))), (4, .int (nI i)), (5, .long _)]) dX5_addRun_48 (by decide) (qs1 rfl (qs1 rfl (qs1 rfl (qs1 rfl (qs1 rfl qs0))))) ?_
      refine R_iload dX5_addRun_50 rfl ?_
      refine R_iload_n dX5_addRun_52 rfl ?_
      refine R_iaddN dX5_addRun_53 ?_
      refine R_iconst (v := nI 1) dX5_addRun_54 rfl ?_
      refine R_iaddN dX5_addRun_55 ?_
      refine R_istore (L' := [(0, .ref 30), (2, .int (nI R)), (3, .int (nI (l.length - (r + 1) * R))), (4, .int (nI i)), (5, .long _), (7, .int (nI ((i + R) + 1)))]) dX5_addRun_56 (by decide) (qs1 rfl (qs1 rfl (qs1 rfl (qs1 rfl (qs1 rfl (qs1 rfl qs0)))))) ?_
      refine R_ls (L' := [(0, .ref 30), (2, .int (nI R)), (3, .int (nI (l.length - (r + 1) * R))), (4, .int (nI i)), (5, .long _), (7, .int (nI ((i + R) + 1)))]) (qs1 rfl (qs1 rfl (qs1 rfl (qs1 rfl (qs1 rfl (qs1 rfl qs0)))))) ?_
      exact (l_run2 (w := w) hS hb hR hR4 hr hSK (by omega) hold (fun B hB => by refine R_aload_n dX5_addRun_96 rfl ?_; refine R_getR dX5_addRun_97 lg_RX5_29 (by decide) rfl rfl ?_; refine R_iload dX5_addRun_100 rfl ?_; refine R_lload dX5_addRun_102 rfl ?_; refine R_lastN dX5_addRun_104 (by decide) rfl (by omega) (by decide) ?_; refine R_iincN (n := 1) (L' := [(0, .ref 30), (2, .int (nI R)), (3, .int (nI (l.length - (r + 1) * R))), (4, .int (nI (i + 1)))]) dX5_addRun_105 rfl (by decide) (qs1 rfl (qs1 rfl (qs1 rfl (qs1 rfl qs0)))) ?_; refine R_goto (tgt := 17) dX5_addRun_108 (by decide) ?_; exact ih (i + 1) _ (by omega) (by omega) (hSK.off (fun o h1 h2 => ⟨rfl, qLs_no (by omega)⟩)) (qOff.ls hO (by unfold oSg; omega)) (fun o ho => by rw [qLs_no ho]; exact h2 o ho) h1 (fun a ha ha2 => by rcases Nat.lt_or_ge a i with q | q <;> first | exact Fx_mv (hnew a q ha2) (qLs_nk (by omega)) | (have e : a = i := (by omega); subst e; exact hB)) (fun a ha ha2 => Fx_mv (hold a (by omega) ha2) (qLs_nk (by omega)))) (l.length + 3) (i + R + 1) _ (by omega) (by omega) (by omega) (by rw [hc]; exact ⟨⟨i + R, s, Nat.le_refl _, by omega, hs, rfl⟩, fun a t q1 q2 q3 => by have e : a = i + R := (by omega); subst e; rw [hs] at q3; cases q3; exact Int.le_refl _⟩))
set_option maxRecDepth 100000 in
set_option maxHeartbeats 4000000 in
theorem c_addRun {M : qMem} {l : List (Nat × Int32)} (hS : XS M l) (hb : serB l) {R r : Nat} (hR : 1 ≤ R) (hR4 : R ≤ 4) (hr : (r + 2) * R ≤ l.length) (hold : ∀ a, a + (r + 1) * R ≤ l.length → Fx M l R r a) : qSem 0 mX5_addRun [.ref 30, .int (nI (r + 2)), .int (nI R)] M (fun v N => v = none ∧ (∀ i, i + (r + 2) * R ≤ l.length → Fx N l R (r + 1) i) ∧ qOff oSg M N ∧ (∀ o, o ≠ 34 → N.2 o = M.2 o) ∧ N.1 = M.1) := by
  have em : (r + 2) * R = (r + 1) * R + R := Nat.succ_mul _ _
  have em1 : (r + 1) * R = r * R + R := Nat.succ_mul _ _
  have hl16 := hS.2.1
  refine qSem.of (by decide +kernel) (Nat.le_of_ble_eq_true rfl) (fun w => ?_)
  refine R_ls (L' := [(0, .ref 30), (1, .int (nI (r + 2))), (2, .int (nI R))]) (qs1 rfl (qs1 rfl (qs1 rfl qs0))) ?_
  refine R_aload_n dX5_addRun_0 rfl ?_
  refine R_getR dX5_addRun_1 lg_RX5_12 (by decide) rfl rfl ?_
  refine R_callV (mc := mX6_length) (As := []) (r := 25) dX5_addRun_4 lm_RX5_39 mv_X6_length rfl (by decide) rfl rfl rfl rfl (Nat.le_of_ble_eq_true rfl) (c_slen hS) ?_
  rintro _ _ ⟨rfl, rfl⟩
  refine R_iload_n dX5_addRun_7 rfl ?_
  refine R_iconst (v := nI 1) dX5_addRun_8 rfl ?_
  refine R_isubN dX5_addRun_9 (by omega) ?_
  refine R_iload_n dX5_addRun_10 rfl ?_
  refine R_imulN dX5_addRun_11 ?_
  refine R_isubN dX5_addRun_12 (by show (r + 2 - 1) * R ≤ l.length; rw [show r + 2 - 1 = r + 1 from rfl]; omega) ?_
  rw [show l.length - (r + 2 - 1) * R = l.length - (r + 1) * R from rfl]
  refine R_istore_n (L' := [(0, .ref 30), (1, .int (nI (r + 2))), (2, .int (nI R)), (3, .int (nI (l.length - (r + 1) * R)))]) dX5_addRun_13 (by decide) (qs1 rfl (qs1 rfl (qs1 rfl (qs1 rfl qs0)))) ?_
  refine R_iconst (v := nI 0) dX5_addRun_14 rfl ?_
  refine R_istore (L' := [(0, .ref 30), (1, .int (nI (r + 2))), (2, .int (nI R)), (3, .int (nI (l.length - (r + 1) * R))), (4, .int (nI 0))]) dX5_addRun_15 (by decide) (qs1 rfl (qs1 rfl (qs1 rfl (qs1 rfl (qs1 rfl qs0))))) ?_
  refine R_ls (L' := [(0, .ref 30), (2, .int (nI R)), (3, .int (nI (l.length - (r + 1) * R))), (4, .int (nI 0))]) (qs1 rfl (qs1 rfl (qs1 rfl (qs1 rfl qs0)))) ?_
  exact (l_run1 hS hb hR hR4 hr (l.length + 3) 0 M (by omega) (by omega) hS qOff.rf (fun o ho => rfl) rfl (fun a ha => absurd ha (Nat.not_lt_zero a)) (fun a ha h => hold a h))
set_option maxRecDepth 100000 in
set_option maxHeartbeats 4000000 in
theorem c_gcompare {M : qMem} {d : dT} (hX : XR 14 M d) (hB : dB d) (h0 : M.2 28 0 = 0 ∧ M.2 29 0 = 0) {u v_ : Nat} (hu : u < dK d) (hv : v_ < dK d) : qSem 0 mX5_compare [.ref 30, .ref 14, .int (nI u), .int (nI v_)] M (fun v N => v = none ∧ XS N (ser d u v_) ∧ qOff oSe M N) := by
  refine qSem.of (by decide +kernel) (Nat.le_of_ble_eq_true rfl) (fun w => ?_)
  refine R_ls (L' := [(0, .ref 30), (1, .ref 14), (2, .int (nI u)), (3, .int (nI v_))]) (qs1 rfl (qs1 rfl (qs1 rfl (qs1 rfl qs0)))) ?_
  refine R_aload_n dX5_compare_0 rfl ?_
  refine R_getR dX5_compare_1 lg_RX5_12 (by decide) rfl rfl ?_
  refine R_aload_n dX5_compare_4 rfl ?_
  refine R_iload_n dX5_compare_5 rfl ?_
  refine R_iload_n dX5_compare_6 rfl ?_
  refine R_callV (mc := mX6_compare) (As := [_, _, _]) (r := 25) dX5_compare_7 lm_RX5_35 mv_X6_compare rfl (by decide) rfl rfl rfl rfl (Nat.le_of_ble_eq_true rfl) (c_compare hX hB h0 hu hv) ?_
  rintro _ _ ⟨rfl, hS, hO1⟩
  refine R_return dX5_compare_10 rfl ?_
  exact ⟨rfl, hS, hO1⟩
