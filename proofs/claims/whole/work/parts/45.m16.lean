
-- ===== the model: what it keeps to undo =====
theorem MRow.mv {M N : qMem} {o o' b b' : Nat} {d : dT} (hK : dK d ≤ 6) (hY : dY d ≤ 16) (H : MRow M o b d) (e : ∀ k, k < 102 → N.1 o' (b' + k) = M.1 o (b + k)) : MRow N o' b' d := ⟨fun c t hc ht => by rw [e _ (by omega)]; exact H.1 c t hc ht, by rw [e _ (by omega)]; exact H.2.1, fun k hk => by rw [e _ (by omega)]; exact H.2.2 k hk⟩
theorem MB_low {M N : qMem} : ∀ {q : dT × List gT} {r : List aT}, HV q r → dB q.1 → (∀ k, k < 102 * r.length → N.1 8 k = M.1 8 k) → MB M q r → MB N q r
  | _, [], _, _, _, _ => True.intro
  | q, a :: r, hv, hB, e, h => by
    have hB2 := hv.2.1
    have hl : (a :: r).length = r.length + 1 := rfl
    exact ⟨h.1.mv hB2.2.1 hB2.1 (fun k hk => e _ (by omega)), by rw [e _ (by omega)]; exact h.2.1, MB_low hv.2.2 hB2 (fun k hk => e k (by omega)) h.2.2⟩
theorem MB_shift {M N : qMem} : ∀ {q : dT × List gT} {r : List aT}, HV q r → r.length ≤ 8 → (∀ k, k < 714 → N.1 8 k = M.1 8 (102 + k)) → MB M q r → MB N q r.dropLast
  | _, [], _, _, _, _ => True.intro
  | q, [a], _, _, _, _ => True.intro
  | q, a :: a2 :: r, hv, hl, e, h => by
    have hB2 := hv.2.1
    have hl2 : (a :: a2 :: r).length = r.length + 2 := rfl
    have e1 : (a :: a2 :: r).dropLast = a :: (a2 :: r).dropLast := rfl
    have e2 : (a2 :: r).dropLast.length = r.length := by rw [List.length_dropLast]; rfl
    have e3 : (a2 :: r).length = r.length + 1 := rfl
    have h1 := h.1
    have h2 := h.2.1
    rw [e3] at h1 h2
    rw [e1]
    refine ⟨?_, ?_, MB_shift hv.2.2 (by omega) e h.2.2⟩
    · rw [e2]; exact h1.mv hB2.2.1 hB2.1 (fun k hk => by rw [e (102 * r.length + k) (by omega), show 102 + (102 * r.length + k) = 102 * (r.length + 1) + k by omega])
    · rw [e2, e (102 * r.length + 101) (by omega), ← h2, show 102 + (102 * r.length + 101) = 102 * (r.length + 1) + 101 by omega]
def trm (as : List aT) : List aT := if as.length < 8 then as else as.tail
def NT (M N : qMem) (s : sT) : Prop := (∀ o, o ≠ 8 → o ≠ 0 → N.1 o = M.1 o) ∧ N.2 = M.2 ∧ (∀ k, k ≠ 13 → k ≠ 22 → N.1 0 k = M.1 0 k) ∧ N.1 0 22 = nI 0 ∧ N.1 0 13 = nI ((trm (sA s)).length + 1) ∧ MB N (sD s, sG s) (trm (sA s)).reverse ∧ MRow N 8 (102 * (trm (sA s)).length) (sD s) ∧ N.1 8 (102 * (trm (sA s)).length + 101) = nI (sG s).length
def nE (M K : qMem) : Prop := (∀ o, o ≠ 8 → o ≠ 0 → K.1 o = M.1 o) ∧ K.2 = M.2 ∧ ∀ k, k ≠ 13 → k ≠ 22 → K.1 0 k = M.1 0 k
theorem nE.a {M K : qMem} {k : Nat} {x : Int32} (h : nE M K) : nE M (qIs K 8 k x) := ⟨fun o h1 h2 => by rw [qIs_no h1]; exact h.1 o h1 h2, h.2.1, fun j h1 h2 => by rw [qIs_no (by decide)]; exact h.2.2 j h1 h2⟩
theorem nE.b {M K : qMem} {k : Nat} {x : Int32} (h : nE M K) (hk : k = 13 ∨ k = 22) : nE M (qIs K 0 k x) := ⟨fun o h1 h2 => by rw [qIs_no h2]; exact h.1 o h1 h2, h.2.1, fun j h1 h2 => by rw [qIs_nk (by omega)]; exact h.2.2 j h1 h2⟩
theorem trm_8 {as : List aT} (h : as.length ≤ 8) : (trm as).length ≤ 7 := by
  unfold trm; split
  · omega
  · rw [List.length_tail]; omega
set_option maxRecDepth 100000 in
set_option maxHeartbeats 4000000 in
theorem m_ntS {w : qWT} {M : qMem} {Q : qQ} (hk : ∀ K : qMem, nE M K → K.1 0 13 = nI 8 → (∀ k, k < 714 → K.1 8 k = M.1 8 (102 + k)) → qRW 1 w mX8_note 39 [(0, .ref 0)] [] K Q) : ∀ (fu : Nat) (i : Nat) (K : qMem), (715 - i) < fu → (i ≤ 714) → (nE M K) → (K.1 0 13 = nI 8) → (∀ k, K.1 8 k = if k < i then M.1 8 (102 + k) else M.1 8 k) → qRW 1 w mX8_note 11 [(0, .ref 0), (1, .int (nI i))] [] K Q := by
  intro fu
  induction fu with
  | zero => intro i K hn; exact absurd hn (Nat.not_lt_zero _)
  | succ fu ih =>
    intro i K hn hi hE h13 hA
    refine R_iload_n dX8_note_11 rfl ?_
    refine R_sipush (v := nI 714) dX8_note_12 rfl ?_
    refine R_icmp_geN (tgt := 39) dX8_note_15 (by decide) (by omega) (by omega) (fun h_15 => ?_) (fun h_15 => ?_)
    · refine R_ls (L' := [(0, .ref 0)]) (qs1 rfl qs0) ?_
      exact hk K hE h13 (fun k hk => by rw [hA, if_pos (by omega)])
    · refine R_aload_n dX8_note_18 rfl ?_
      refine R_getR dX8_note_19 lg_RX8_31 (by decide) rfl rfl ?_
      refine R_iload_n dX8_note_22 rfl ?_
      refine R_aload_n dX8_note_23 rfl ?_
      refine R_getR dX8_note_24 lg_RX8_31 (by decide) rfl rfl ?_
      refine R_bipush (v := nI 102) dX8_note_27 rfl ?_
      refine R_iload_n dX8_note_29 rfl ?_
      refine R_iaddN dX8_note_30 ?_
      refine R_ialdN dX8_note_31 (by decide) rfl (by omega) (by decide) ?_
      refine R_top (y := M.1 8 (102 + i)) (by rw [hA, if_neg (by omega)]) ?_
      refine R_iastN dX8_note_32 (by decide) rfl (by omega) (by decide) ?_
      refine R_iincN (n := 1) (L' := [(0, .ref 0), (1, .int (nI (i + 1)))]) dX8_note_33 rfl (by decide) (qs1 rfl (qs1 rfl qs0)) ?_
      refine R_goto (tgt := 11) dX8_note_36 (by decide) ?_
      refine R_ls (L' := [(0, .ref 0), (1, .int (nI (i + 1)))]) (qs1 rfl (qs1 rfl qs0)) ?_
      exact (ih (i + 1) _ (by omega) (by omega) hE.a (by rw [qIs_no (by decide)]; exact h13) (fun k => by rw [qIs_1]; by_cases e : k = i; rw [if_pos ⟨rfl, e⟩, if_pos (by omega), e]; rw [if_neg (fun z => e z.2), hA]; by_cases e2 : k < i; rw [if_pos e2, if_pos (by omega)]; rw [if_neg e2, if_neg (by omega)]))
set_option maxRecDepth 100000 in
set_option maxHeartbeats 4000000 in
theorem m_ntC {w : qWT} {M K0 : qMem} {m : Nat} (hm : m ≤ 7) : ∀ (fu : Nat) (i : Nat) (K : qMem), (103 - i) < fu → (i ≤ 102) → (nE M K) → (K.1 0 13 = nI m) → (∀ k, k < 102 * m → K.1 8 k = K0.1 8 k) → (∀ k, k < i → K.1 8 (102 * m + k) = M.1 4 k) → qRW 1 w mX8_note 51 [(0, .ref 0), (1, .int (nI i))] [] K (fun v N => v = none ∧ nE M N ∧ N.1 0 22 = nI 0 ∧ N.1 0 13 = nI (m + 1) ∧ (∀ k, k < 102 * m → N.1 8 k = K0.1 8 k) ∧ ∀ k, k < 102 → N.1 8 (102 * m + k) = M.1 4 k) := by
  intro fu
  induction fu with
  | zero => intro i K hn; exact absurd hn (Nat.not_lt_zero _)
  | succ fu ih =>
    intro i K hn hi hE h13 hA hC
    refine R_iload_n dX8_note_51 rfl ?_
    refine R_bipush (v := nI 102) dX8_note_52 rfl ?_
    refine R_icmp_geN (tgt := 83) dX8_note_54 (by decide) (by omega) (by omega) (fun h_54 => ?_) (fun h_54 => ?_)
    · refine R_aload_n dX8_note_83 rfl ?_
      refine R_dup dX8_note_84 rfl ?_
      refine R_getI dX8_note_85 (lf_RX8_154).get (by decide) rfl rfl ?_
      refine R_top (y := nI m) h13 ?_
      refine R_iconst (v := nI 1) dX8_note_88 rfl ?_
      refine R_iaddN dX8_note_89 ?_
      refine R_putI dX8_note_90 lf_RX8_154 (by decide) rfl rfl rfl rfl ?_
      refine R_aload_n dX8_note_93 rfl ?_
      refine R_iconst (v := nI 0) dX8_note_94 rfl ?_
      refine R_putI dX8_note_95 lf_RX8_157 (by decide) rfl rfl rfl rfl ?_
      refine R_return dX8_note_98 rfl ?_
      exact ⟨rfl, (hE.b (Or.inl rfl)).b (Or.inr rfl), by rw [qIs_eq], by rw [qIs_nk (by decide), qIs_eq], fun k hk => by rw [qIs_no (by decide), qIs_no (by decide)]; exact hA k hk, fun k hk => by rw [qIs_no (by decide), qIs_no (by decide)]; exact hC k (by omega)⟩
    · refine R_aload_n dX8_note_57 rfl ?_
      refine R_getR dX8_note_58 lg_RX8_31 (by decide) rfl rfl ?_
      refine R_bipush (v := nI 102) dX8_note_61 rfl ?_
      refine R_aload_n dX8_note_63 rfl ?_
      refine R_getI dX8_note_64 (lf_RX8_154).get (by decide) rfl rfl ?_
      refine R_top (y := nI m) h13 ?_
      refine R_imulN dX8_note_67 ?_
      refine R_iload_n dX8_note_68 rfl ?_
      refine R_iaddN dX8_note_69 ?_
      refine R_aload_n dX8_note_70 rfl ?_
      refine R_getR dX8_note_71 lg_RX8_19 (by decide) rfl rfl ?_
      refine R_iload_n dX8_note_74 rfl ?_
      refine R_ialdN dX8_note_75 (by decide) rfl (by omega) (by decide) ?_
      refine R_top (y := M.1 4 i) (by rw [hE.1 4 (by decide) (by decide)]) ?_
      refine R_iastN dX8_note_76 (by decide) rfl (by omega) (by decide) ?_
      refine R_iincN (n := 1) (L' := [(0, .ref 0), (1, .int (nI (i + 1)))]) dX8_note_77 rfl (by decide) (qs1 rfl (qs1 rfl qs0)) ?_
      refine R_goto (tgt := 51) dX8_note_80 (by decide) ?_
      refine R_ls (L' := [(0, .ref 0), (1, .int (nI (i + 1)))]) (qs1 rfl (qs1 rfl qs0)) ?_
      exact (ih (i + 1) _ (by omega) (by omega) hE.a (by rw [qIs_no (by decide)]; exact h13) (fun k hk => by rw [qIs_nk (by omega)]; exact hA k hk) (fun k hk => by rw [qIs_1]; by_cases e : k = i; rw [if_pos ⟨rfl, by rw [e]⟩, e]; rw [if_neg (by omega)]; exact hC k (by omega)))

theorem NT_of {M N K0 : qMem} {s : sT} (hI : MI M s) (hs : sOk s) (hE : nE M N) (h22 : N.1 0 22 = nI 0) (h13 : N.1 0 13 = nI ((trm (sA s)).length + 1)) (hA : ∀ k, k < 102 * (trm (sA s)).length → N.1 8 k = K0.1 8 k) (hC : ∀ k, k < 102 → N.1 8 (102 * (trm (sA s)).length + k) = M.1 4 k) (h0 : (8 ≤ (sA s).length → ∀ k, k < 714 → K0.1 8 k = M.1 8 (102 + k)) ∧ ((sA s).length < 8 → K0.1 8 = M.1 8)) : NT M N s := by
  have hB := hs.1
  have hv := hs.2.2.2.1
  have h8 := hs.2.2.2.2.1
  have h7 := trm_8 h8
  refine ⟨hE.1, hE.2.1, hE.2.2, h22, h13, ?_, hI.1.2.mv hB.2.1 hB.1 (fun k hk => by rw [hC k hk, Nat.zero_add]), by rw [hC 101 (by omega)]; exact hI.2.1.1⟩
  have hMB := hI.2.2.2.2.1
  by_cases hl : (sA s).length < 8
  · have e : trm (sA s) = sA s := by unfold trm; rw [if_pos hl]
    rw [e] at hA ⊢
    exact MB_low hv hB (fun k hk => by rw [hA k (by rw [List.length_reverse] at hk; exact hk), h0.2 hl]) hMB
  · have e : trm (sA s) = (sA s).tail := by unfold trm; rw [if_neg hl]
    have e2 : (sA s).tail.reverse = (sA s).reverse.dropLast := by
      cases sA s with
      | nil => rfl
      | cons a t => simp
    rw [e] at hA
    rw [e, e2]
    have el : (sA s).tail.length = 7 := by rw [List.length_tail]; omega
    exact MB_shift hv (by rw [List.length_reverse]; exact h8) (fun k hk => by rw [hA k (by rw [el]; omega), h0.1 (by omega) k hk]) hMB
set_option maxRecDepth 100000 in
set_option maxHeartbeats 4000000 in
theorem m_ntA {w : qWT} {M K : qMem} {s : sT} (hI : MI M s) (hs : sOk s) (hl : 8 ≤ (sA s).length) (hE : nE M K) (h13 : K.1 0 13 = nI 8) (hS : ∀ k, k < 714 → K.1 8 k = M.1 8 (102 + k)) : qRW 1 w mX8_note 39 [(0, .ref 0)] [] K (fun v N => v = none ∧ NT M N s) := by
  refine R_aload_n dX8_note_39 rfl ?_
  refine R_dup dX8_note_40 rfl ?_
  refine R_getI dX8_note_41 (lf_RX8_154).get (by decide) rfl rfl ?_
  refine R_top (y := nI 8) h13 ?_
  refine R_iconst (v := nI 1) dX8_note_44 rfl ?_
  refine R_isubN dX8_note_45 (by omega) ?_
  refine R_putI dX8_note_46 lf_RX8_154 (by decide) rfl rfl rfl rfl ?_
  refine R_iconst (v := nI 0) dX8_note_49 rfl ?_
  refine R_istore_n (L' := [(0, .ref 0), (1, .int (nI 0))]) dX8_note_50 (by decide) (qs1 rfl (qs1 rfl qs0)) ?_
  refine R_ls (L' := [(0, .ref 0), (1, .int (nI 0))]) (qs1 rfl (qs1 rfl qs0)) ?_
  have et : (trm (sA s)).length = 7 := by have := hs.2.2.2.2.1; unfold trm; rw [if_neg (by omega), List.length_tail]; omega
  refine qRW_mono (m_ntC (M := M) (K0 := K) (m := (trm (sA s)).length) (by omega) 104 0 _ (by omega) (by omega) (hE.b (Or.inl rfl)) (by rw [qIs_eq, et]) (fun k hk => by rw [qIs_no (by decide)]) (fun k hk => absurd hk (Nat.not_lt_zero k))) ?_
  rintro v N ⟨q1, q2, q3, q4, q5, q6⟩
  exact ⟨q1, NT_of hI hs q2 q3 q4 q5 q6 ⟨fun _ => hS, fun h => absurd h (by omega)⟩⟩
set_option maxRecDepth 100000 in
set_option maxHeartbeats 4000000 in
theorem m_note {M : qMem} {s : sT} (hI : MI M s) (hs : sOk s) : qSem 1 mX8_note [.ref 0] M (fun v N => v = none ∧ NT M N s) := by
  have hX := hI.1
  have hB := hs.1
  have hK6 := hB.2.1
  have hY16 := hB.1
  have hY4 := hs.2.1.1
  have hK2 := hs.2.1.2
  have h8 := hs.2.2.2.2.1
  have h13 := hI.2.2.2.1
  refine qSem.of (by decide +kernel) (Nat.le_of_ble_eq_true rfl) (fun w => ?_)
  refine R_ls (L' := [(0, .ref 0)]) (qs1 rfl qs0) ?_
  refine R_aload_n dX8_note_0 rfl ?_
  refine R_getI dX8_note_1 (lf_RX8_154).get (by decide) rfl rfl ?_
  refine R_top (y := nI ((sA s).length)) h13 ?_
  refine R_bipush (v := nI 8) dX8_note_4 rfl ?_
  refine R_icmp_neN (tgt := 49) dX8_note_6 (by decide) (by omega) (by omega) (fun h_6 => ?_) (fun h_6 => ?_)
  · refine R_iconst (v := nI 0) dX8_note_49 rfl ?_
    refine R_istore_n (L' := [(0, .ref 0), (1, .int (nI 0))]) dX8_note_50 (by decide) (qs1 rfl (qs1 rfl qs0)) ?_
    refine R_ls (L' := [(0, .ref 0), (1, .int (nI 0))]) (qs1 rfl (qs1 rfl qs0)) ?_
    have et : (trm (sA s)).length = (sA s).length := by unfold trm; rw [if_pos (by omega)]
    refine qRW_mono (m_ntC (M := M) (K0 := M) (m := (trm (sA s)).length) (by omega) 104 0 M (by omega) (by omega) ⟨fun o _ _ => rfl, rfl, fun k _ _ => rfl⟩ (by rw [h13, et]) (fun k hk => rfl) (fun k hk => absurd hk (Nat.not_lt_zero k))) ?_
    rintro v N ⟨q1, q2, q3, q4, q5, q6⟩
    exact ⟨q1, NT_of hI hs q2 q3 q4 q5 q6 ⟨fun h => absurd h (by omega), fun _ => rfl⟩⟩
  · refine R_iconst (v := nI 0) dX8_note_9 rfl ?_
    refine R_istore_n (L' := [(0, .ref 0), (1, .int (nI 0))]) dX8_note_10 (by decide) (qs1 rfl (qs1 rfl qs0)) ?_
    refine R_ls (L' := [(0, .ref 0), (1, .int (nI 0))]) (qs1 rfl (qs1 rfl qs0)) ?_
    exact (m_ntS (M := M) (fun K hE h13 hS => m_ntA hI hs (by omega) hE h13 hS) 716 0 M (by omega) (by omega) ⟨fun o _ _ => rfl, rfl, fun k _ _ => rfl⟩ (by rw [h13, h_6]) (fun k => by rw [if_neg (Nat.not_lt_zero k)]))
set_option maxRecDepth 100000 in
set_option maxHeartbeats 4000000 in
theorem m_change {M : qMem} {s : sT} (hI : MI M s) (hs : sOk s) {i : Nat} {x : Int32} (hi : i < 102) : qSem 1 mX8_change [.ref 0, .int (nI i), .int (x)] M (fun v N => v = some (.int (M.1 4 i)) ∧ ∃ K, NT M K s ∧ N = qIs K 4 i x) := by
  refine qSem.of (by decide +kernel) (Nat.le_of_ble_eq_true rfl) (fun w => ?_)
  refine R_ls (L' := [(0, .ref 0), (1, .int (nI i)), (2, .int (x))]) (qs1 rfl (qs1 rfl (qs1 rfl qs0))) ?_
  refine R_aload_n dX8_change_0 rfl ?_
  refine R_getR dX8_change_1 lg_RX8_19 (by decide) rfl rfl ?_
  refine R_iload_n dX8_change_4 rfl ?_
  refine R_ialdN dX8_change_5 (by decide) rfl (by omega) (by decide) ?_
  refine R_istore_n (L' := [(0, .ref 0), (1, .int (nI i)), (2, .int (x)), (3, .int _)]) dX8_change_6 (by decide) (qs1 rfl (qs1 rfl (qs1 rfl (qs1 rfl qs0)))) ?_
  refine R_aload_n dX8_change_7 rfl ?_
  refine R_callV (mc := mX8_note) (As := []) (r := 0) dX8_change_8 lm_RX8_168 mv_X8_note rfl (by decide) rfl rfl rfl rfl (Nat.le_of_ble_eq_true rfl) (m_note hI hs) ?_
  rintro _ _ ⟨rfl, hN⟩
  refine R_aload_n dX8_change_11 rfl ?_
  refine R_getR dX8_change_12 lg_RX8_19 (by decide) rfl rfl ?_
  refine R_iload_n dX8_change_15 rfl ?_
  refine R_iload_n dX8_change_16 rfl ?_
  refine R_iastN dX8_change_17 (by decide) rfl (by omega) (by decide) ?_
  refine R_iload_n dX8_change_18 rfl ?_
  refine R_ireturn dX8_change_19 rfl rfl ?_
  exact ⟨rfl, _, hN, rfl⟩
