
theorem XR.off {r : Nat} {M N : qMem} {d : dT} (h : XR r M d) (hK : dK d ≤ 6) (e : ∀ o, r ≤ o → o ≤ r + 10 → N.1 o = M.1 o) : XR r N d := by
  refine ⟨by rw [e r (by omega) (by omega)]; exact h.1, by rw [e r (by omega) (by omega)]; exact h.2.1, fun c hc => by rw [e _ (by omega) (by omega)]; exact h.2.2.1 c hc, fun c hc => by rw [e _ (by omega) (by omega)]; exact h.2.2.2.1 c hc, fun c t hc ht => by rw [e _ (by omega) (by omega)]; exact h.2.2.2.2.1 c t hc ht, by rw [e r (by omega) (by omega)]; exact h.2.2.2.2.2.1, fun k hk => by rw [e _ (by omega) (by omega)]; exact h.2.2.2.2.2.2 k hk⟩
-- changes
abbrev hT : Type := Int32 × Int32 × Int32 × Int32
def hq (x : hT) : Nat → Int32
  | 0 => x.1
  | 1 => x.2.1
  | 2 => x.2.2.1
  | _ => x.2.2.2
def XH (M : qMem) (h : List hT) : Prop := ∃ p, p < 8 ∧ M.1 90 1 = nI p ∧ M.1 90 2 = nI h.length ∧ h.length ≤ 8 ∧ ∀ i x, h[i]? = some x → ∀ k, k < 4 → M.1 (92 + k) ((p + i) % 8) = hq x k
def oHi (o : Nat) : Prop := 90 ≤ o ∧ o < 96
def hAdd (h : List hT) (x : hT) : List hT := (if h.length < 8 then h else h.tail) ++ [x]
theorem XH.off {M N : qMem} {h : List hT} (H : XH M h) (e : ∀ o, 90 ≤ o → o ≤ 95 → N.1 o = M.1 o) : XH N h := by
  obtain ⟨p, h1, h2, h3, h4, h5⟩ := H
  exact ⟨p, h1, by rw [e 90 (by omega) (by omega)]; exact h2, by rw [e 90 (by omega) (by omega)]; exact h3, h4, fun i x hi k hk => by rw [e (92 + k) (by omega) (by omega)]; exact h5 i x hi k hk⟩
theorem XH_len {M : qMem} {h : List hT} (H : XH M h) : M.1 90 2 = nI h.length ∧ h.length ≤ 8 := by
  obtain ⟨p, h1, h2, h3, h4, h5⟩ := H
  exact ⟨h3, h4⟩
/-- the rows behind an addition -/
theorem XH_put {M N : qMem} {h : List hT} {x : hT} {p : Nat} (h1 : p < 8) (h4 : h.length ≤ 8) (h5 : ∀ i x, h[i]? = some x → ∀ k, k < 4 → M.1 (92 + k) ((p + i) % 8) = hq x k)
    (hn : ∀ k, k < 4 → N.1 (92 + k) = upd (M.1 (92 + k)) ((p + h.length) % 8) (hq x k)) (hl : h.length < 8 → N.1 90 1 = nI p ∧ N.1 90 2 = nI (h.length + 1)) (hf : h.length = 8 → N.1 90 1 = nI ((p + 1) % 8) ∧ N.1 90 2 = nI 8) : XH N (hAdd h x) := by
  unfold hAdd
  by_cases hc : h.length < 8
  · rw [if_pos hc]
    refine ⟨p, h1, (hl hc).1, by rw [List.length_append]; exact (hl hc).2, by rw [List.length_append]; simp; omega, fun i y hi k hk => ?_⟩
    rw [hn k hk]
    by_cases hi2 : i < h.length
    · rw [List.getElem?_append_left hi2] at hi
      rw [pk_un (by omega)]
      exact h5 i y hi k hk
    · rw [List.getElem?_append_right (by omega)] at hi
      have hz : i - h.length < 1 := (List.getElem?_eq_some_iff.mp hi).1
      have e : i = h.length := by omega
      subst e
      rw [Nat.sub_self] at hi
      cases hi
      exact pk_us
  · have e8 : h.length = 8 := by omega
    rw [if_neg hc]
    have ht : h.tail.length = 7 := by rw [List.length_tail]; omega
    refine ⟨(p + 1) % 8, by omega, (hf e8).1, by rw [List.length_append, ht]; exact (hf e8).2, by rw [List.length_append, ht]; exact Nat.le_refl 8, fun i y hi k hk => ?_⟩
    rw [hn k hk, e8]
    by_cases hi2 : i < 7
    · rw [List.getElem?_append_left (by omega)] at hi
      rw [List.getElem?_tail] at hi
      rw [pk_un (by omega), show ((p + 1) % 8 + i) % 8 = (p + (i + 1)) % 8 by omega]
      exact h5 (i + 1) y hi k hk
    · rw [List.getElem?_append_right (by omega), ht] at hi
      have hz : i - 7 < 1 := (List.getElem?_eq_some_iff.mp hi).1
      have e : i = 7 := by omega
      subst e
      cases hi
      rw [show ((p + 1) % 8 + 7) % 8 = (p + 8) % 8 by omega]
      exact pk_us
theorem XH_drop {M N : qMem} {h : List hT} (H : XH M h) (h0 : 0 < h.length) (e1 : N.1 90 1 = M.1 90 1) (e2 : N.1 90 2 = nI (h.length - 1)) (e : ∀ k, k < 4 → N.1 (92 + k) = M.1 (92 + k)) : XH N h.dropLast := by
  obtain ⟨p, h1, h2, h3, h4, h5⟩ := H
  refine ⟨p, h1, e1.trans h2, by rw [List.length_dropLast]; exact e2, by rw [List.length_dropLast]; omega, fun i x hi k hk => ?_⟩
  rw [e k hk]
  have hl := (List.getElem?_eq_some_iff.mp hi).1
  rw [List.length_dropLast] at hl
  rw [List.getElem?_dropLast, if_pos hl] at hi
  exact h5 i x hi k hk
theorem XH_nil {N : qMem} {p : Nat} (hp : p < 8) (e1 : N.1 90 1 = nI p) (e2 : N.1 90 2 = nI 0) : XH N [] := ⟨p, hp, e1, e2, by decide, fun i x hi => by simp at hi⟩
-- the ledger
abbrev gT : Type := Int32 × Int32 × Int32
def gq (x : gT) : Nat → Int32
  | 0 => x.1
  | 1 => x.2.1
  | _ => x.2.2
def XL (M : qMem) (h : List gT) : Prop := M.1 96 1 = nI h.length ∧ h.length ≤ 10 ∧ ∀ i x, h[i]? = some x → ∀ k, k < 3 → M.1 (98 + k) i = gq x k
def oLe (o : Nat) : Prop := 96 ≤ o ∧ o < 101
theorem XL.off {M N : qMem} {h : List gT} (H : XL M h) (e : ∀ o, 96 ≤ o → o ≤ 100 → N.1 o = M.1 o) : XL N h :=
  ⟨by rw [e 96 (by omega) (by omega)]; exact H.1, H.2.1, fun i x hi k hk => by rw [e (98 + k) (by omega) (by omega)]; exact H.2.2 i x hi k hk⟩
theorem XL_add {M N : qMem} {h : List gT} {x : gT} (H : XL M h) (hl : h.length < 10) (e1 : N.1 96 1 = nI (h.length + 1)) (hn : ∀ k, k < 3 → N.1 (98 + k) = upd (M.1 (98 + k)) h.length (gq x k)) : XL N (h ++ [x]) := by
  refine ⟨by rw [List.length_append]; exact e1, by rw [List.length_append]; simp; omega, fun i y hi k hk => ?_⟩
  rw [hn k hk]
  by_cases hi2 : i < h.length
  · rw [List.getElem?_append_left hi2] at hi
    rw [pk_un (by omega)]
    exact H.2.2 i y hi k hk
  · rw [List.getElem?_append_right (by omega)] at hi
    have hz : i - h.length < 1 := (List.getElem?_eq_some_iff.mp hi).1
    have e : i = h.length := by omega
    subst e
    rw [Nat.sub_self] at hi
    cases hi
    exact pk_us
theorem XL_drop {M N : qMem} {h : List gT} (H : XL M h) (e2 : N.1 96 1 = nI (h.length - 1)) (e : ∀ k, k < 3 → N.1 (98 + k) = M.1 (98 + k)) : XL N h.dropLast := by
  refine ⟨by rw [List.length_dropLast]; exact e2, by rw [List.length_dropLast]; have := H.2.1; omega, fun i x hi k hk => ?_⟩
  rw [e k hk]
  have hl := (List.getElem?_eq_some_iff.mp hi).1
  rw [List.length_dropLast] at hl
  rw [List.getElem?_dropLast, if_pos hl] at hi
  exact H.2.2 i x hi k hk

set_option maxRecDepth 100000 in
set_option maxHeartbeats 4000000 in
theorem c_hclear {M : qMem} {h : List hT} (H : XH M h) : qSem 0 mX1_clear [.ref 90] M (fun v N => v = none ∧ XH N [] ∧ qOff oHi M N) := by
  refine qSem.of (by decide +kernel) (Nat.le_of_ble_eq_true rfl) (fun w => ?_)
  refine R_ls (L' := [(0, .ref 90)]) (qs1 rfl qs0) ?_
  refine R_aload_n dX1_clear_0 rfl ?_
  refine R_iconst (v := nI 0) dX1_clear_1 rfl ?_
  refine R_putI dX1_clear_2 lf_RX1_16 (by decide) rfl rfl rfl rfl ?_
  refine R_return dX1_clear_5 rfl ?_
  obtain ⟨p, h1, h2, -⟩ := H
  exact ⟨rfl, XH_nil h1 (by rw [qIs_nk (by decide)]; exact h2) (qIs_eq _ _ _ _), qOff.is qOff.rf (by unfold oHi; omega)⟩
set_option maxRecDepth 100000 in
set_option maxHeartbeats 4000000 in
theorem c_hlen {M : qMem} {h : List hT} (H : XH M h) : qSem 0 mX1_length [.ref 90] M (qr (nI h.length) M) := by
  refine qSem.of (by decide +kernel) (Nat.le_of_ble_eq_true rfl) (fun w => ?_)
  refine R_ls (L' := [(0, .ref 90)]) (qs1 rfl qs0) ?_
  refine R_aload_n dX1_length_0 rfl ?_
  refine R_getI dX1_length_1 (lf_RX1_16).get (by decide) rfl rfl ?_
  refine R_ireturn dX1_length_4 rfl rfl ?_
  exact ⟨by rw [(XH_len H).1], rfl⟩
set_option maxRecDepth 100000 in
set_option maxHeartbeats 4000000 in
theorem c_slot {M : qMem} {p i : Nat} (hp : p < 8) (hi : i ≤ 8) (e : M.1 90 1 = nI p) : qSem 0 mX1_slot [.ref 90, .int (nI i)] M (qr (nI ((p + i) % 8)) M) := by
  refine qSem.of (by decide +kernel) (Nat.le_of_ble_eq_true rfl) (fun w => ?_)
  refine R_ls (L' := [(0, .ref 90), (1, .int (nI i))]) (qs1 rfl (qs1 rfl qs0)) ?_
  refine R_aload_n dX1_slot_0 rfl ?_
  refine R_getI dX1_slot_1 (lf_RX1_24).get (by decide) rfl rfl ?_
  refine R_top (y := nI p) e ?_
  refine R_iload_n dX1_slot_4 rfl ?_
  refine R_iaddN dX1_slot_5 ?_
  refine R_bipush (v := nI 8) dX1_slot_6 rfl ?_
  refine R_iremN dX1_slot_8 (by omega) (by omega) (by omega) ?_
  refine R_ireturn dX1_slot_9 rfl rfl ?_
  exact ⟨rfl, rfl⟩
set_option maxRecDepth 100000 in
set_option maxHeartbeats 4000000 in
theorem c_hadd {M : qMem} {h : List hT} {x : hT} (H : XH M h) : qSem 0 mX1_add [.ref 90, .int (x.1), .int (x.2.1), .int (x.2.2.1), .int (x.2.2.2)] M (fun v N => v = none ∧ XH N (hAdd h x) ∧ qOff oHi M N) := by
  obtain ⟨p, h1, h2, h3, h4, h5⟩ := H
  refine qSem.of (by decide +kernel) (Nat.le_of_ble_eq_true rfl) (fun w => ?_)
  refine R_ls (L' := [(0, .ref 90), (1, .int (x.1)), (2, .int (x.2.1)), (3, .int (x.2.2.1)), (4, .int (x.2.2.2))]) (qs1 rfl (qs1 rfl (qs1 rfl (qs1 rfl (qs1 rfl qs0))))) ?_
  refine R_aload_n dX1_add_0 rfl ?_
  refine R_aload_n dX1_add_1 rfl ?_
  refine R_getI dX1_add_2 (lf_RX1_16).get (by decide) rfl rfl ?_
  refine R_top (y := nI h.length) h3 ?_
  refine R_callV (mc := mX1_slot) (As := [_]) (r := 90) dX1_add_5 lm_RX1_20 mv_X1_slot rfl (by decide) rfl rfl rfl rfl (Nat.le_of_ble_eq_true rfl) (c_slot h1 (by omega) h2) ?_
  rintro _ _ ⟨rfl, rfl⟩
  refine R_istore (L' := [(0, .ref 90), (1, .int (x.1)), (2, .int (x.2.1)), (3, .int (x.2.2.1)), (4, .int (x.2.2.2)), (5, .int (nI ((p + h.length) % 8)))]) dX1_add_8 (by decide) (qs1 rfl (qs1 rfl (qs1 rfl (qs1 rfl (qs1 rfl (qs1 rfl qs0)))))) ?_
  refine R_aload_n dX1_add_10 rfl ?_
  refine R_getR dX1_add_11 lg_RX1_11 (by decide) rfl rfl ?_
  refine R_iconst (v := nI 0) dX1_add_14 rfl ?_
  refine R_aald3C (r := 92) dX1_add_15 (by decide) rfl (by decide) (by decide) rfl ?_
  refine R_iload dX1_add_16 rfl ?_
  refine R_iload_n dX1_add_18 rfl ?_
  refine R_iastN dX1_add_19 (by decide) rfl (by omega) (by decide) ?_
  refine R_aload_n dX1_add_20 rfl ?_
  refine R_getR dX1_add_21 lg_RX1_11 (by decide) rfl rfl ?_
  refine R_iconst (v := nI 1) dX1_add_24 rfl ?_
  refine R_aald3C (r := 93) dX1_add_25 (by decide) rfl (by decide) (by decide) rfl ?_
  refine R_iload dX1_add_26 rfl ?_
  refine R_iload_n dX1_add_28 rfl ?_
  refine R_iastN dX1_add_29 (by decide) rfl (by omega) (by decide) ?_
  refine R_aload_n dX1_add_30 rfl ?_
  refine R_getR dX1_add_31 lg_RX1_11 (by decide) rfl rfl ?_
  refine R_iconst (v := nI 2) dX1_add_34 rfl ?_
  refine R_aald3C (r := 94) dX1_add_35 (by decide) rfl (by decide) (by decide) rfl ?_
  refine R_iload dX1_add_36 rfl ?_
  refine R_iload_n dX1_add_38 rfl ?_
  refine R_iastN dX1_add_39 (by decide) rfl (by omega) (by decide) ?_
  refine R_aload_n dX1_add_40 rfl ?_
  refine R_getR dX1_add_41 lg_RX1_11 (by decide) rfl rfl ?_
  refine R_iconst (v := nI 3) dX1_add_44 rfl ?_
  refine R_aald3C (r := 95) dX1_add_45 (by decide) rfl (by decide) (by decide) rfl ?_
  refine R_iload dX1_add_46 rfl ?_
  refine R_iload dX1_add_48 rfl ?_
  refine R_iastN dX1_add_50 (by decide) rfl (by omega) (by decide) ?_
  refine R_aload_n dX1_add_51 rfl ?_
  refine R_getI dX1_add_52 (lf_RX1_16).get (by decide) rfl rfl ?_
  refine R_top (y := nI h.length) (by rw [qIs_no (by decide), qIs_no (by decide), qIs_no (by decide), qIs_no (by decide)]; exact h3) ?_
  refine R_bipush (v := nI 8) dX1_add_55 rfl ?_
  refine R_icmp_geN (tgt := 73) dX1_add_57 (by decide) (by omega) (by omega) (fun h_57 => ?_) (fun h_57 => ?_)
  · refine R_aload_n dX1_add_73 rfl ?_
    refine R_aload_n dX1_add_74 rfl ?_
    refine R_iconst (v := nI 1) dX1_add_75 rfl ?_
    refine R_callV (mc := mX1_slot) (As := [_]) (r := 90) dX1_add_76 lm_RX1_20 mv_X1_slot rfl (by decide) rfl rfl rfl rfl (Nat.le_of_ble_eq_true rfl) (c_slot h1 (by omega) (by rw [qIs_no (by decide), qIs_no (by decide), qIs_no (by decide), qIs_no (by decide)]; exact h2)) ?_
    rintro _ _ ⟨rfl, rfl⟩
    refine R_putI dX1_add_79 lf_RX1_24 (by decide) rfl rfl rfl rfl ?_
    refine R_return dX1_add_82 rfl ?_
    refine ⟨rfl, XH_put h1 h4 h5 (fun k hk => ?_) (fun hl => ?_) (fun hf => ?_), ?_⟩
    · rcases (show k = 0 ∨ k = 1 ∨ k = 2 ∨ k = 3 by omega) with rfl | rfl | rfl | rfl <;> (funext j; simp only [qIs_1, upd, hq, true_and, Nat.reduceAdd, Nat.reduceEqDiff, false_and, if_false]; try rfl)
    · omega
    · exact ⟨qIs_eq _ _ _ _, by rw [qIs_nk (by decide), qIs_no (by decide), qIs_no (by decide), qIs_no (by decide), qIs_no (by decide), h3, hf]⟩
    · repeat (first | exact qOff.rf | refine qOff.is ?_ (by unfold oHi; omega))
  · refine R_aload_n dX1_add_60 rfl ?_
    refine R_dup dX1_add_61 rfl ?_
    refine R_getI dX1_add_62 (lf_RX1_16).get (by decide) rfl rfl ?_
    refine R_top (y := nI h.length) (by rw [qIs_no (by decide), qIs_no (by decide), qIs_no (by decide), qIs_no (by decide)]; exact h3) ?_
    refine R_iconst (v := nI 1) dX1_add_65 rfl ?_
    refine R_iaddN dX1_add_66 ?_
    refine R_putI dX1_add_67 lf_RX1_16 (by decide) rfl rfl rfl rfl ?_
    refine R_goto (tgt := 82) dX1_add_70 (by decide) ?_
    refine R_return dX1_add_82 rfl ?_
    refine ⟨rfl, XH_put h1 h4 h5 (fun k hk => ?_) (fun hl => ?_) (fun hf => ?_), ?_⟩
    · rcases (show k = 0 ∨ k = 1 ∨ k = 2 ∨ k = 3 by omega) with rfl | rfl | rfl | rfl <;> (funext j; simp only [qIs_1, upd, hq, true_and, Nat.reduceAdd, Nat.reduceEqDiff, false_and, if_false]; try rfl)
    · exact ⟨by rw [qIs_nk (by decide), qIs_no (by decide), qIs_no (by decide), qIs_no (by decide), qIs_no (by decide)]; exact h2, qIs_eq _ _ _ _⟩
    · omega
    · repeat (first | exact qOff.rf | refine qOff.is ?_ (by unfold oHi; omega))
set_option maxRecDepth 100000 in
set_option maxHeartbeats 4000000 in
theorem c_latest {M : qMem} {h : List hT} {k : Nat} (H : XH M h) {x : hT} (hx : h.getLast? = some x) (hk : k < 4) : qSem 0 mX1_latest [.ref 90, .int (nI k)] M (qr (hq x k) M) := by
  obtain ⟨p, h1, h2, h3, h4, h5⟩ := H
  have hl : 0 < h.length := by cases h with | nil => cases hx | cons a t => exact Nat.succ_pos _
  rw [List.getLast?_eq_getElem?] at hx
  refine qSem.of (by decide +kernel) (Nat.le_of_ble_eq_true rfl) (fun w => ?_)
  refine R_ls (L' := [(0, .ref 90), (1, .int (nI k))]) (qs1 rfl (qs1 rfl qs0)) ?_
  refine R_aload_n dX1_latest_0 rfl ?_
  refine R_getI dX1_latest_1 (lf_RX1_16).get (by decide) rfl rfl ?_
  refine R_top (y := nI h.length) h3 ?_
  refine R_if_neN (tgt := 11) dX1_latest_4 (by decide) (by omega) (fun h_4 => ?_) (fun h_4 => by omega)
  refine R_aload_n dX1_latest_11 rfl ?_
  refine R_getR dX1_latest_12 lg_RX1_11 (by decide) rfl rfl ?_
  refine R_iload_n dX1_latest_15 rfl ?_
  refine R_aald3N dX1_latest_16 (by decide) rfl (by omega) (by decide) ?_
  refine R_aload_n dX1_latest_17 rfl ?_
  refine R_aload_n dX1_latest_18 rfl ?_
  refine R_getI dX1_latest_19 (lf_RX1_16).get (by decide) rfl rfl ?_
  refine R_top (y := nI h.length) h3 ?_
  refine R_iconst (v := nI 1) dX1_latest_22 rfl ?_
  refine R_isubN dX1_latest_23 (by omega) ?_
  refine R_callV (mc := mX1_slot) (As := [_]) (r := 90) dX1_latest_24 lm_RX1_20 mv_X1_slot rfl (by decide) rfl rfl rfl rfl (Nat.le_of_ble_eq_true rfl) (c_slot h1 (by omega) h2) ?_
  rintro _ _ ⟨rfl, rfl⟩
  refine R_ialdN dX1_latest_27 (show 92 + k < 117 by have := ((by omega) : k < 4); omega) (sh_prt (by omega)) (by omega) (by decide) ?_
  refine R_top (y := hq x k) (h5 _ x hx k hk) ?_
  refine R_ireturn dX1_latest_28 rfl rfl ?_
  exact ⟨rfl, rfl⟩
set_option maxRecDepth 100000 in
set_option maxHeartbeats 4000000 in
theorem c_hdrop {M : qMem} {h : List hT} (H : XH M h) (h0 : 0 < h.length) : qSem 0 mX1_dropLatest [.ref 90] M (fun v N => v = none ∧ XH N h.dropLast ∧ qOff oHi M N) := by
  have h3 := (XH_len H).1
  have h4 := (XH_len H).2
  refine qSem.of (by decide +kernel) (Nat.le_of_ble_eq_true rfl) (fun w => ?_)
  refine R_ls (L' := [(0, .ref 90)]) (qs1 rfl qs0) ?_
  refine R_aload_n dX1_dropLatest_0 rfl ?_
  refine R_getI dX1_dropLatest_1 (lf_RX1_16).get (by decide) rfl rfl ?_
  refine R_top (y := nI h.length) h3 ?_
  refine R_if_leN (tgt := 17) dX1_dropLatest_4 (by decide) (by omega) (fun h_4 => by omega) (fun h_4 => ?_)
  refine R_aload_n dX1_dropLatest_7 rfl ?_
  refine R_dup dX1_dropLatest_8 rfl ?_
  refine R_getI dX1_dropLatest_9 (lf_RX1_16).get (by decide) rfl rfl ?_
  refine R_top (y := nI h.length) h3 ?_
  refine R_iconst (v := nI 1) dX1_dropLatest_12 rfl ?_
  refine R_isubN dX1_dropLatest_13 (by omega) ?_
  refine R_putI dX1_dropLatest_14 lf_RX1_16 (by decide) rfl rfl rfl rfl ?_
  refine R_return dX1_dropLatest_17 rfl ?_
  exact ⟨rfl, XH_drop H h0 (by rw [qIs_nk (by decide)]) (qIs_eq _ _ _ _) (fun k hk => qIs_no (by omega)), qOff.is qOff.rf (by unfold oHi; omega)⟩
set_option maxRecDepth 100000 in
set_option maxHeartbeats 4000000 in
theorem c_gclear {M : qMem} : qSem 0 mX2_clear [.ref 96] M (fun v N => v = none ∧ XL N [] ∧ qOff oLe M N) := by
  refine qSem.of (by decide +kernel) (Nat.le_of_ble_eq_true rfl) (fun w => ?_)
  refine R_ls (L' := [(0, .ref 96)]) (qs1 rfl qs0) ?_
  refine R_aload_n dX2_clear_0 rfl ?_
  refine R_iconst (v := nI 0) dX2_clear_1 rfl ?_
  refine R_putI dX2_clear_2 lf_RX2_16 (by decide) rfl rfl rfl rfl ?_
  refine R_return dX2_clear_5 rfl ?_
  exact ⟨rfl, ⟨qIs_eq _ _ _ _, by decide, fun i x hi => by simp at hi⟩, qOff.is qOff.rf (by unfold oLe; omega)⟩
set_option maxRecDepth 100000 in
set_option maxHeartbeats 4000000 in
theorem c_glen {M : qMem} {h : List gT} (H : XL M h) : qSem 0 mX2_length [.ref 96] M (qr (nI h.length) M) := by
  refine qSem.of (by decide +kernel) (Nat.le_of_ble_eq_true rfl) (fun w => ?_)
  refine R_ls (L' := [(0, .ref 96)]) (qs1 rfl qs0) ?_
  refine R_aload_n dX2_length_0 rfl ?_
  refine R_getI dX2_length_1 (lf_RX2_16).get (by decide) rfl rfl ?_
  refine R_top (y := nI h.length) H.1 ?_
  refine R_ireturn dX2_length_4 rfl rfl ?_
  exact ⟨rfl, rfl⟩
set_option maxRecDepth 100000 in
set_option maxHeartbeats 4000000 in
theorem c_gfull {M : qMem} {h : List gT} (H : XL M h) : qSem 0 mX2_isFull [.ref 96] M (qb (10 ≤ h.length) M) := by
  have h2 := H.2.1
  refine qSem.of (by decide +kernel) (Nat.le_of_ble_eq_true rfl) (fun w => ?_)
  refine R_ls (L' := [(0, .ref 96)]) (qs1 rfl qs0) ?_
  refine R_aload_n dX2_isFull_0 rfl ?_
  refine R_getI dX2_isFull_1 (lf_RX2_16).get (by decide) rfl rfl ?_
  refine R_top (y := nI h.length) H.1 ?_
  refine R_bipush (v := nI 10) dX2_isFull_4 rfl ?_
  refine R_icmp_ltN (tgt := 13) dX2_isFull_6 (by decide) (by omega) (by omega) (fun h_6 => ?_) (fun h_6 => ?_)
  · refine R_iconst (v := nI 0) dX2_isFull_13 rfl ?_
    refine R_ireturn dX2_isFull_14 rfl rfl ?_
    exact ⟨rfl, by first | exact Or.inl ⟨rfl, by omega⟩ | exact Or.inr ⟨rfl, by omega⟩⟩
  · refine R_iconst (v := nI 1) dX2_isFull_9 rfl ?_
    refine R_goto (tgt := 14) dX2_isFull_10 (by decide) ?_
    refine R_ireturn dX2_isFull_14 rfl rfl ?_
    exact ⟨rfl, by first | exact Or.inl ⟨rfl, by omega⟩ | exact Or.inr ⟨rfl, by omega⟩⟩
set_option maxRecDepth 100000 in
set_option maxHeartbeats 4000000 in
theorem c_gadd {M : qMem} {h : List gT} {x : gT} (H : XL M h) (hl : h.length < 10) : qSem 0 mX2_add [.ref 96, .int (x.1), .int (x.2.1), .int (x.2.2)] M (fun v N => v = none ∧ XL N (h ++ [x]) ∧ qOff oLe M N) := by
  refine qSem.of (by decide +kernel) (Nat.le_of_ble_eq_true rfl) (fun w => ?_)
  refine R_ls (L' := [(0, .ref 96), (1, .int (x.1)), (2, .int (x.2.1)), (3, .int (x.2.2))]) (qs1 rfl (qs1 rfl (qs1 rfl (qs1 rfl qs0)))) ?_
  refine R_aload_n dX2_add_0 rfl ?_
  refine R_callV (mc := mX2_isFull) (As := []) (r := 96) dX2_add_1 lm_RX2_20 mv_X2_isFull rfl (by decide) rfl rfl rfl rfl (Nat.le_of_ble_eq_true rfl) ((c_gfull H).mono (fun v N hv => (show v = some (.int (nI 0)) ∧ M = N from by obtain ⟨rfl, ⟨-, hp⟩ | ⟨rfl, hp⟩⟩ := hv <;> first | exact absurd hp (by omega) | exact ⟨rfl, rfl⟩))) ?_
  rintro _ _ ⟨rfl, rfl⟩
  refine R_if_eqN (tgt := 8) dX2_add_4 (by decide) (by omega) (fun h_4 => ?_) (fun h_4 => by exact absurd h_4 (by decide))
  refine R_aload_n dX2_add_8 rfl ?_
  refine R_getR dX2_add_9 lg_RX2_11 (by decide) rfl rfl ?_
  refine R_iconst (v := nI 0) dX2_add_12 rfl ?_
  refine R_aald3C (r := 98) dX2_add_13 (by decide) rfl (by decide) (by decide) rfl ?_
  refine R_aload_n dX2_add_14 rfl ?_
  refine R_getI dX2_add_15 (lf_RX2_16).get (by decide) rfl rfl ?_
  refine R_top (y := nI h.length) (by exact H.1) ?_
  refine R_iload_n dX2_add_18 rfl ?_
  refine R_iastN dX2_add_19 (by decide) rfl (by omega) (by decide) ?_
  refine R_aload_n dX2_add_20 rfl ?_
  refine R_getR dX2_add_21 lg_RX2_11 (by decide) rfl rfl ?_
  refine R_iconst (v := nI 1) dX2_add_24 rfl ?_
  refine R_aald3C (r := 99) dX2_add_25 (by decide) rfl (by decide) (by decide) rfl ?_
  refine R_aload_n dX2_add_26 rfl ?_
  refine R_getI dX2_add_27 (lf_RX2_16).get (by decide) rfl rfl ?_
  refine R_top (y := nI h.length) (by rw [qIs_no (by decide)]; exact H.1) ?_
  refine R_iload_n dX2_add_30 rfl ?_
  refine R_iastN dX2_add_31 (by decide) rfl (by omega) (by decide) ?_
  refine R_aload_n dX2_add_32 rfl ?_
  refine R_getR dX2_add_33 lg_RX2_11 (by decide) rfl rfl ?_
  refine R_iconst (v := nI 2) dX2_add_36 rfl ?_
  refine R_aald3C (r := 100) dX2_add_37 (by decide) rfl (by decide) (by decide) rfl ?_
  refine R_aload_n dX2_add_38 rfl ?_
  refine R_getI dX2_add_39 (lf_RX2_16).get (by decide) rfl rfl ?_
  refine R_top (y := nI h.length) (by rw [qIs_no (by decide)]; rw [qIs_no (by decide)]; exact H.1) ?_
  refine R_iload_n dX2_add_42 rfl ?_
  refine R_iastN dX2_add_43 (by decide) rfl (by omega) (by decide) ?_
  refine R_aload_n dX2_add_44 rfl ?_
  refine R_dup dX2_add_45 rfl ?_
  refine R_getI dX2_add_46 (lf_RX2_16).get (by decide) rfl rfl ?_
  refine R_top (y := nI h.length) (by rw [qIs_no (by decide)]; rw [qIs_no (by decide)]; rw [qIs_no (by decide)]; exact H.1) ?_
  refine R_iconst (v := nI 1) dX2_add_49 rfl ?_
  refine R_iaddN dX2_add_50 ?_
  refine R_putI dX2_add_51 lf_RX2_16 (by decide) rfl rfl rfl rfl ?_
  refine R_return dX2_add_54 rfl ?_
  refine ⟨rfl, XL_add H hl (qIs_eq _ _ _ _) (fun k hk => ?_), ?_⟩
  · rcases (show k = 0 ∨ k = 1 ∨ k = 2 by omega) with rfl | rfl | rfl <;> (funext j; simp only [qIs_1, upd, gq, true_and, Nat.reduceAdd, Nat.reduceEqDiff, false_and, if_false]; try rfl)
  · repeat (first | exact qOff.rf | refine qOff.is ?_ (by unfold oLe; omega))
set_option maxRecDepth 100000 in
set_option maxHeartbeats 4000000 in
theorem c_gdrop {M : qMem} {h : List gT} (H : XL M h) (h0 : 0 < h.length) : qSem 0 mX2_dropLast [.ref 96] M (fun v N => v = none ∧ XL N h.dropLast ∧ qOff oLe M N) := by
  have h4 := H.2.1
  refine qSem.of (by decide +kernel) (Nat.le_of_ble_eq_true rfl) (fun w => ?_)
  refine R_ls (L' := [(0, .ref 96)]) (qs1 rfl qs0) ?_
  refine R_aload_n dX2_dropLast_0 rfl ?_
  refine R_getI dX2_dropLast_1 (lf_RX2_16).get (by decide) rfl rfl ?_
  refine R_top (y := nI h.length) H.1 ?_
  refine R_if_leN (tgt := 17) dX2_dropLast_4 (by decide) (by omega) (fun h_4 => by omega) (fun h_4 => ?_)
  refine R_aload_n dX2_dropLast_7 rfl ?_
  refine R_dup dX2_dropLast_8 rfl ?_
  refine R_getI dX2_dropLast_9 (lf_RX2_16).get (by decide) rfl rfl ?_
  refine R_top (y := nI h.length) H.1 ?_
  refine R_iconst (v := nI 1) dX2_dropLast_12 rfl ?_
  refine R_isubN dX2_dropLast_13 (by omega) ?_
  refine R_putI dX2_dropLast_14 lf_RX2_16 (by decide) rfl rfl rfl rfl ?_
  refine R_return dX2_dropLast_17 rfl ?_
  exact ⟨rfl, XL_drop H (qIs_eq _ _ _ _) (fun k hk => qIs_no (by omega)), qOff.is qOff.rf (by unfold oLe; omega)⟩
set_option maxRecDepth 100000 in
set_option maxHeartbeats 4000000 in
theorem c_gprop {M : qMem} {h : List gT} {i k : Nat} {x : gT} (H : XL M h) (hi : h[i]? = some x) (hk : k < 3) : qSem 0 mX2_property [.ref 96, .int (nI i), .int (nI k)] M (qr (gq x k) M) := by
  have h2 := H.2.1
  have hl := (List.getElem?_eq_some_iff.mp hi).1
  refine qSem.of (by decide +kernel) (Nat.le_of_ble_eq_true rfl) (fun w => ?_)
  refine R_ls (L' := [(0, .ref 96), (1, .int (nI i)), (2, .int (nI k))]) (qs1 rfl (qs1 rfl (qs1 rfl qs0))) ?_
  refine R_aload_n dX2_property_0 rfl ?_
  refine R_getR dX2_property_1 lg_RX2_11 (by decide) rfl rfl ?_
  refine R_iload_n dX2_property_4 rfl ?_
  refine R_aald3N dX2_property_5 (by decide) rfl (by omega) (by decide) ?_
  refine R_iload_n dX2_property_6 rfl ?_
  refine R_ialdN dX2_property_7 (show 98 + k < 117 by have := ((by omega) : k < 3); omega) (sh_col (by omega)) (by omega) (by decide) ?_
  refine R_top (y := gq x k) (H.2.2 i x hi k hk) ?_
  refine R_ireturn dX2_property_8 rfl rfl ?_
  exact ⟨rfl, rfl⟩

def oSe (o : Nat) : Prop := 25 ≤ o ∧ o < 30
theorem XS.off {M N : qMem} {l : List (Nat × Int32)} (h : XS M l) (e : ∀ o, 25 ≤ o → o ≤ 29 → N.1 o = M.1 o ∧ N.2 o = M.2 o) : XS N l :=
  ⟨by rw [(e 25 (by omega) (by omega)).1]; exact h.1, h.2.1, fun i hi => by rw [(e 26 (by omega) (by omega)).1, (e 27 (by omega) (by omega)).1]; exact h.2.2.1 i hi, fun i hi => by rw [(e 28 (by omega) (by omega)).2, (e 29 (by omega) (by omega)).2]; exact h.2.2.2 i hi⟩
theorem XS_add {M N : qMem} {l : List (Nat × Int32)} {t : Nat} {x : Int32} (h : XS M l) (hl : l.length < 16) (e0 : N.1 25 0 = nI (l.length + 1)) (e1 : N.1 26 = upd (M.1 26) l.length x) (e2 : N.1 27 = upd (M.1 27) l.length (nI t))
    (e3 : N.2 28 = vp_updL (M.2 28) (l.length + 1) (M.2 28 l.length + x.toInt64)) (e4 : N.2 29 = vp_updL (M.2 29) (l.length + 1) (M.2 29 l.length + x.toInt64 * x.toInt64)) : XS N (l ++ [(t, x)]) := by
  have hL : (l ++ [(t, x)]).length = l.length + 1 := by simp
  refine ⟨by rw [hL]; exact e0, by omega, fun i hi => ?_, fun i hi => ?_⟩
  · rw [e1, e2]
    by_cases h2 : i < l.length
    · rw [pk_un (by omega), pk_un (by omega), en_app h2, yr_app h2]
      exact h.2.2.1 i h2
    · have e : i = l.length := by omega
      subst e
      rw [pk_us, pk_us, en_last, yr_last]
      exact ⟨rfl, rfl⟩
  · rw [e3, e4]
    by_cases h2 : i ≤ l.length
    · rw [pk_uLn (by omega), pk_uLn (by omega), S1_app h2, S2_app h2]
      exact h.2.2.2 i h2
    · have e : i = l.length + 1 := by omega
      subst e
      rw [pk_uLs, pk_uLs, S1, S2, S1_app (Nat.le_refl _), S2_app (Nat.le_refl _), en_last, (h.2.2.2 l.length (Nat.le_refl _)).1, (h.2.2.2 l.length (Nat.le_refl _)).2]
      exact ⟨rfl, rfl⟩
set_option maxRecDepth 100000 in
set_option maxHeartbeats 4000000 in
theorem c_sadd {M : qMem} {l : List (Nat × Int32)} {t : Nat} {x : Int32} (hS : XS M l) (hl : l.length < 16) : qSem 0 mX6_add [.ref 25, .int (nI t), .int (x)] M (fun v N => v = none ∧ XS N (l ++ [(t, x)]) ∧ qOff oSe M N) := by
  refine qSem.of (by decide +kernel) (Nat.le_of_ble_eq_true rfl) (fun w => ?_)
  refine R_ls (L' := [(0, .ref 25), (1, .int (nI t)), (2, .int (x))]) (qs1 rfl (qs1 rfl (qs1 rfl qs0))) ?_
  refine R_aload_n dX6_add_0 rfl ?_
  refine R_getI dX6_add_1 (lf_RX6_25).get (by decide) rfl rfl ?_
  refine R_top (y := nI l.length) (by exact hS.1) ?_
  refine R_bipush (v := nI 16) dX6_add_4 rfl ?_
  refine R_icmp_ltN (tgt := 10) dX6_add_6 (by decide) (by omega) (by omega) (fun h_6 => ?_) (fun h_6 => by omega)
  refine R_aload_n dX6_add_10 rfl ?_
  refine R_getR dX6_add_11 lg_RX6_9 (by decide) rfl rfl ?_
  refine R_aload_n dX6_add_14 rfl ?_
  refine R_getI dX6_add_15 (lf_RX6_25).get (by decide) rfl rfl ?_
  refine R_top (y := nI l.length) (by exact hS.1) ?_
  refine R_iload_n dX6_add_18 rfl ?_
  refine R_iastN dX6_add_19 (by decide) rfl (by omega) (by decide) ?_
  refine R_aload_n dX6_add_20 rfl ?_
  refine R_getR dX6_add_21 lg_RX6_15 (by decide) rfl rfl ?_
  refine R_aload_n dX6_add_24 rfl ?_
  refine R_getI dX6_add_25 (lf_RX6_25).get (by decide) rfl rfl ?_
  refine R_top (y := nI l.length) (by rw [qIs_no (by decide)]; exact hS.1) ?_
  refine R_iload_n dX6_add_28 rfl ?_
  refine R_iastN dX6_add_29 (by decide) rfl (by omega) (by decide) ?_
  refine R_aload_n dX6_add_30 rfl ?_
  refine R_getR dX6_add_31 lg_RX6_18 (by decide) rfl rfl ?_
  refine R_aload_n dX6_add_34 rfl ?_
  refine R_getI dX6_add_35 (lf_RX6_25).get (by decide) rfl rfl ?_
  refine R_top (y := nI l.length) (by rw [qIs_no (by decide)]; rw [qIs_no (by decide)]; exact hS.1) ?_
  refine R_iconst (v := nI 1) dX6_add_38 rfl ?_
  refine R_iaddN dX6_add_39 ?_
  refine R_aload_n dX6_add_40 rfl ?_
  refine R_getR dX6_add_41 lg_RX6_18 (by decide) rfl rfl ?_
  refine R_aload_n dX6_add_44 rfl ?_
  refine R_getI dX6_add_45 (lf_RX6_25).get (by decide) rfl rfl ?_
  refine R_top (y := nI l.length) (by rw [qIs_no (by decide)]; rw [qIs_no (by decide)]; exact hS.1) ?_
  refine R_laldN dX6_add_48 (by decide) rfl (by omega) (by decide) ?_
  refine R_iload_n dX6_add_49 rfl ?_
  refine R_i2l dX6_add_50 ?_
  refine R_ladd dX6_add_51 ?_
  refine R_lastN dX6_add_52 (by decide) rfl (by omega) (by decide) ?_
  refine R_aload_n dX6_add_53 rfl ?_
  refine R_getR dX6_add_54 lg_RX6_22 (by decide) rfl rfl ?_
  refine R_aload_n dX6_add_57 rfl ?_
  refine R_getI dX6_add_58 (lf_RX6_25).get (by decide) rfl rfl ?_
  refine R_top (y := nI l.length) (by rw [qLs_1]; rw [qIs_no (by decide)]; rw [qIs_no (by decide)]; exact hS.1) ?_
  refine R_iconst (v := nI 1) dX6_add_61 rfl ?_
  refine R_iaddN dX6_add_62 ?_
  refine R_aload_n dX6_add_63 rfl ?_
  refine R_getR dX6_add_64 lg_RX6_22 (by decide) rfl rfl ?_
  refine R_aload_n dX6_add_67 rfl ?_
  refine R_getI dX6_add_68 (lf_RX6_25).get (by decide) rfl rfl ?_
  refine R_top (y := nI l.length) (by rw [qLs_1]; rw [qIs_no (by decide)]; rw [qIs_no (by decide)]; exact hS.1) ?_
  refine R_laldN dX6_add_71 (by decide) rfl (by omega) (by decide) ?_
  refine R_iload_n dX6_add_72 rfl ?_
  refine R_i2l dX6_add_73 ?_
  refine R_iload_n dX6_add_74 rfl ?_
  refine R_i2l dX6_add_75 ?_
  refine R_lmul dX6_add_76 ?_
  refine R_ladd dX6_add_77 ?_
  refine R_lastN dX6_add_78 (by decide) rfl (by omega) (by decide) ?_
  refine R_aload_n dX6_add_79 rfl ?_
  refine R_dup dX6_add_80 rfl ?_
  refine R_getI dX6_add_81 (lf_RX6_25).get (by decide) rfl rfl ?_
  refine R_top (y := nI l.length) (by rw [qLs_1]; rw [qLs_1]; rw [qIs_no (by decide)]; rw [qIs_no (by decide)]; exact hS.1) ?_
  refine R_iconst (v := nI 1) dX6_add_84 rfl ?_
  refine R_iaddN dX6_add_85 ?_
  refine R_putI dX6_add_86 lf_RX6_25 (by decide) rfl rfl rfl rfl ?_
  refine R_return dX6_add_89 rfl ?_
  refine ⟨rfl, XS_add hS hl (qIs_eq _ _ _ _) ?_ ?_ ?_ ?_, ?_⟩
  · funext j; simp only [qIs_1, qIs_2, qLs_1, qLs_2, upd, vp_updL, true_and, Nat.reduceAdd, Nat.reduceEqDiff, false_and, if_false]; try rfl
  · funext j; simp only [qIs_1, qIs_2, qLs_1, qLs_2, upd, vp_updL, true_and, Nat.reduceAdd, Nat.reduceEqDiff, false_and, if_false]; try rfl
  · funext j; simp only [qIs_1, qIs_2, qLs_1, qLs_2, upd, vp_updL, true_and, Nat.reduceAdd, Nat.reduceEqDiff, false_and, if_false]; try rfl
  · funext j; simp only [qIs_1, qIs_2, qLs_1, qLs_2, upd, vp_updL, true_and, Nat.reduceAdd, Nat.reduceEqDiff, false_and, if_false]; try rfl
  · repeat (first | exact qOff.rf | refine qOff.is ?_ (by unfold oSe; omega) | refine qOff.ls ?_ (by unfold oSe; omega))
set_option maxRecDepth 100000 in
set_option maxHeartbeats 4000000 in
theorem c_slen {M : qMem} {l : List (Nat × Int32)} (hS : XS M l) : qSem 0 mX6_length [.ref 25] M (qr (nI l.length) M) := by
  refine qSem.of (by decide +kernel) (Nat.le_of_ble_eq_true rfl) (fun w => ?_)
  refine R_ls (L' := [(0, .ref 25)]) (qs1 rfl qs0) ?_
  refine R_aload_n dX6_length_0 rfl ?_
  refine R_getI dX6_length_1 (lf_RX6_25).get (by decide) rfl rfl ?_
  refine R_top (y := nI l.length) hS.1 ?_
  refine R_ireturn dX6_length_4 rfl rfl ?_
  exact ⟨rfl, rfl⟩
set_option maxRecDepth 100000 in
set_option maxHeartbeats 4000000 in
theorem c_entryAt {M : qMem} {l : List (Nat × Int32)} {i : Nat} (hS : XS M l) (hi : i < l.length) : qSem 0 mX6_entryAt [.ref 25, .int (nI i)] M (qr (en l i) M) := by
  have h2 := hS.2.1
  refine qSem.of (by decide +kernel) (Nat.le_of_ble_eq_true rfl) (fun w => ?_)
  refine R_ls (L' := [(0, .ref 25), (1, .int (nI i))]) (qs1 rfl (qs1 rfl qs0)) ?_
  refine R_aload_n dX6_entryAt_0 rfl ?_
  refine R_getR dX6_entryAt_1 lg_RX6_9 (by decide) rfl rfl ?_
  refine R_iload_n dX6_entryAt_4 rfl ?_
  refine R_ialdN dX6_entryAt_5 (by decide) rfl (by omega) (by decide) ?_
  refine R_top (y := en l i) (hS.2.2.1 i hi).1 ?_
  refine R_ireturn dX6_entryAt_6 rfl rfl ?_
  exact ⟨rfl, rfl⟩
set_option maxRecDepth 100000 in
set_option maxHeartbeats 4000000 in
theorem c_yearAt {M : qMem} {l : List (Nat × Int32)} {i : Nat} (hS : XS M l) (hi : i < l.length) : qSem 0 mX6_yearAt [.ref 25, .int (nI i)] M (qr (nI (yr l i)) M) := by
  have h2 := hS.2.1
  refine qSem.of (by decide +kernel) (Nat.le_of_ble_eq_true rfl) (fun w => ?_)
  refine R_ls (L' := [(0, .ref 25), (1, .int (nI i))]) (qs1 rfl (qs1 rfl qs0)) ?_
  refine R_aload_n dX6_yearAt_0 rfl ?_
  refine R_getR dX6_yearAt_1 lg_RX6_15 (by decide) rfl rfl ?_
  refine R_iload_n dX6_yearAt_4 rfl ?_
  refine R_ialdN dX6_yearAt_5 (by decide) rfl (by omega) (by decide) ?_
  refine R_top (y := nI (yr l i)) (hS.2.2.1 i hi).2 ?_
  refine R_ireturn dX6_yearAt_6 rfl rfl ?_
  exact ⟨rfl, rfl⟩
set_option maxRecDepth 100000 in
set_option maxHeartbeats 4000000 in
theorem c_mean {M : qMem} {l : List (Nat × Int32)} {i j : Nat} (hS : XS M l) (hi : i ≤ l.length) (hj : j ≤ l.length) : qSem 0 mX6_scaledMean [.ref 25, .int (nI i), .int (nI j)] M (ql (mea l i j) M) := by
  have h2 := hS.2.1
  refine qSem.of (by decide +kernel) (Nat.le_of_ble_eq_true rfl) (fun w => ?_)
  refine R_ls (L' := [(0, .ref 25), (1, .int (nI i)), (2, .int (nI j))]) (qs1 rfl (qs1 rfl (qs1 rfl qs0))) ?_
  refine R_iload_n dX6_scaledMean_0 rfl ?_
  refine R_iload_n dX6_scaledMean_1 rfl ?_
  refine R_icmp_gtN (tgt := 9) dX6_scaledMean_2 (by decide) (by omega) (by omega) (fun h_2 => ?_) (fun h_2 => ?_)
  · refine R_aload_n dX6_scaledMean_9 rfl ?_
    refine R_getR dX6_scaledMean_10 lg_RX6_18 (by decide) rfl rfl ?_
    refine R_iload_n dX6_scaledMean_13 rfl ?_
    refine R_laldN dX6_scaledMean_14 (by decide) rfl (by omega) (by decide) ?_
    refine R_topL (y := S1 l j) (hS.2.2.2 j hj).1 ?_
    refine R_aload_n dX6_scaledMean_15 rfl ?_
    refine R_getR dX6_scaledMean_16 lg_RX6_18 (by decide) rfl rfl ?_
    refine R_iload_n dX6_scaledMean_19 rfl ?_
    refine R_laldN dX6_scaledMean_20 (by decide) rfl (by omega) (by decide) ?_
    refine R_topL (y := S1 l i) (hS.2.2.2 i hi).1 ?_
    refine R_lsub dX6_scaledMean_21 ?_
    refine R_ldc (v := nI 720720) dX6_scaledMean_22 lc_RX6_46 ?_
    refine R_iload_n dX6_scaledMean_24 rfl ?_
    refine R_iload_n dX6_scaledMean_25 rfl ?_
    refine R_isubN dX6_scaledMean_26 (by omega) ?_
    refine R_idivN dX6_scaledMean_27 (by omega) (by omega) (by omega) ?_
    refine R_i2l dX6_scaledMean_28 ?_
    refine R_lmul dX6_scaledMean_29 ?_
    refine R_lreturn dX6_scaledMean_30 rfl ?_
    exact ⟨by unfold mea; first | rw [if_neg (by omega)]; rfl | rw [if_pos (by omega)], rfl⟩
  · refine R_lconst (v := 0) dX6_scaledMean_5 rfl ?_
    refine R_goto (tgt := 30) dX6_scaledMean_6 (by decide) ?_
    refine R_lreturn dX6_scaledMean_30 rfl ?_
    exact ⟨by unfold mea; first | rw [if_neg (by omega)]; rfl | rw [if_pos (by omega)], rfl⟩
set_option maxRecDepth 100000 in
set_option maxHeartbeats 4000000 in
theorem c_spread {M : qMem} {l : List (Nat × Int32)} {i j : Nat} (hS : XS M l) (hi : i ≤ l.length) (hj : j ≤ l.length) : qSem 0 mX6_scaledSpread [.ref 25, .int (nI i), .int (nI j)] M (ql (spd l i j) M) := by
  have h2 := hS.2.1
  refine qSem.of (by decide +kernel) (Nat.le_of_ble_eq_true rfl) (fun w => ?_)
  refine R_ls (L' := [(0, .ref 25), (1, .int (nI i)), (2, .int (nI j))]) (qs1 rfl (qs1 rfl (qs1 rfl qs0))) ?_
  refine R_iload_n dX6_scaledSpread_0 rfl ?_
  refine R_iload_n dX6_scaledSpread_1 rfl ?_
  refine R_icmp_gtN (tgt := 7) dX6_scaledSpread_2 (by decide) (by omega) (by omega) (fun h_2 => ?_) (fun h_2 => ?_)
  · refine R_iload_n dX6_scaledSpread_7 rfl ?_
    refine R_iload_n dX6_scaledSpread_8 rfl ?_
    refine R_isubN dX6_scaledSpread_9 (by omega) ?_
    refine R_istore_n (L' := [(0, .ref 25), (1, .int (nI i)), (2, .int (nI j)), (3, .int (nI (j - i)))]) dX6_scaledSpread_10 (by decide) (qs1 rfl (qs1 rfl (qs1 rfl (qs1 rfl qs0)))) ?_
    refine R_aload_n dX6_scaledSpread_11 rfl ?_
    refine R_getR dX6_scaledSpread_12 lg_RX6_18 (by decide) rfl rfl ?_
    refine R_iload_n dX6_scaledSpread_15 rfl ?_
    refine R_laldN dX6_scaledSpread_16 (by decide) rfl (by omega) (by decide) ?_
    refine R_topL (y := S1 l j) (hS.2.2.2 j hj).1 ?_
    refine R_aload_n dX6_scaledSpread_17 rfl ?_
    refine R_getR dX6_scaledSpread_18 lg_RX6_18 (by decide) rfl rfl ?_
    refine R_iload_n dX6_scaledSpread_21 rfl ?_
    refine R_laldN dX6_scaledSpread_22 (by decide) rfl (by omega) (by decide) ?_
    refine R_topL (y := S1 l i) (hS.2.2.2 i hi).1 ?_
    refine R_lsub dX6_scaledSpread_23 ?_
    refine R_lstore (L' := [(0, .ref 25), (1, .int (nI i)), (2, .int (nI j)), (3, .int (nI (j - i))), (4, .long _)]) dX6_scaledSpread_24 (by decide) (qs1 rfl (qs1 rfl (qs1 rfl (qs1 rfl (qs1 rfl qs0))))) ?_
    refine R_iload_n dX6_scaledSpread_26 rfl ?_
    refine R_i2l dX6_scaledSpread_27 ?_
    refine R_aload_n dX6_scaledSpread_28 rfl ?_
    refine R_getR dX6_scaledSpread_29 lg_RX6_22 (by decide) rfl rfl ?_
    refine R_iload_n dX6_scaledSpread_32 rfl ?_
    refine R_laldN dX6_scaledSpread_33 (by decide) rfl (by omega) (by decide) ?_
    refine R_topL (y := S2 l j) (hS.2.2.2 j hj).2 ?_
    refine R_aload_n dX6_scaledSpread_34 rfl ?_
    refine R_getR dX6_scaledSpread_35 lg_RX6_22 (by decide) rfl rfl ?_
    refine R_iload_n dX6_scaledSpread_38 rfl ?_
    refine R_laldN dX6_scaledSpread_39 (by decide) rfl (by omega) (by decide) ?_
    refine R_topL (y := S2 l i) (hS.2.2.2 i hi).2 ?_
    refine R_lsub dX6_scaledSpread_40 ?_
    refine R_lmul dX6_scaledSpread_41 ?_
    refine R_lload dX6_scaledSpread_42 rfl ?_
    refine R_lload dX6_scaledSpread_44 rfl ?_
    refine R_lmul dX6_scaledSpread_46 ?_
    refine R_lsub dX6_scaledSpread_47 ?_
    refine R_ldc (v := nI 720720) dX6_scaledSpread_48 lc_RX6_46 ?_
    refine R_iload_n dX6_scaledSpread_50 rfl ?_
    refine R_idivN dX6_scaledSpread_51 (by omega) (by omega) (by omega) ?_
    refine R_i2l dX6_scaledSpread_52 ?_
    refine R_lmul dX6_scaledSpread_53 ?_
    refine R_lreturn dX6_scaledSpread_54 rfl ?_
    exact ⟨by unfold spd; rw [if_neg (by omega)]; rfl, rfl⟩
  · refine R_lconst (v := 0) dX6_scaledSpread_5 rfl ?_
    refine R_lreturn dX6_scaledSpread_6 rfl ?_
    exact ⟨by unfold spd; rw [if_pos (by omega)], rfl⟩

theorem ser_n {d : dT} {u v t : Nat} (h : serAt d u v t = none) : serTo d u v (t + 1) = serTo d u v t := by rw [serTo_succ, h]; simp
theorem ser_s {d : dT} {u v t : Nat} {a b : Int32} (h1 : dV d u t = some a) (h2 : dV d v t = some b) : serTo d u v (t + 1) = serTo d u v t ++ [(t, a - b)] := by
  have h : serAt d u v t = some (t, a - b) := by unfold serAt; rw [h1, h2]
  rw [serTo_succ, h]; rfl
theorem dV_none {d : dT} {M : qMem} (hX : XR 14 M d) (hB : dB d) {c t : Nat} (hc : c < dK d) (ht : t < dY d) (h : ¬ ¬ M.1 (19 + c) t = 1000000) : dV d c t = none := by
  rw [hX.2.2.2.2.1 c t hc ht, encX_ne (fun v e => hB.2.2.1 _ _ v e)] at h
  cases hz : dV d c t with
  | none => rfl
  | some x => rw [hz] at h; exact absurd rfl h
theorem dV_some {d : dT} {M : qMem} (hX : XR 14 M d) (hB : dB d) {c t : Nat} (hc : c < dK d) (ht : t < dY d) (h : ¬ M.1 (19 + c) t = 1000000) : dV d c t = some (M.1 (19 + c) t) := by
  have e := hX.2.2.2.2.1 c t hc ht
  have h2 := h
  rw [e, encX_ne (fun v e => hB.2.2.1 _ _ v e)] at h2
  cases hz : dV d c t with
  | none => rw [hz] at h2; cases h2
  | some x => rw [hz] at e; rw [e]; rfl
set_option maxRecDepth 100000 in
set_option maxHeartbeats 4000000 in
theorem l_compare {w : qWT} {M : qMem} {d : dT} (hX : XR 14 M d) (hB : dB d) {u v_ : Nat} (hu : u < dK d) (hv : v_ < dK d) : ∀ (fu : Nat) (t : Nat) (K : qMem), (dY d + 1 - t) < fu → (t ≤ dY d) → (XS K (serTo d u v_ t)) → (qOff oSe M K) → qRW 0 w mX6_compare 8 [(0, .ref 25), (1, .ref 14), (2, .int (nI u)), (3, .int (nI v_)), (4, .int (nI t))] [] K (fun v N => v = none ∧ XS N (ser d u v_) ∧ qOff oSe M N) := by
  intro fu
  induction fu with
  | zero => intro t K hn; exact absurd hn (Nat.not_lt_zero _)
  | succ fu ih =>
    intro t K hn ht hSK hO
    have hXK : XR 14 K d := hX.off hB.2.1 (fun o h1 h2 => (hO o (by unfold oSe; omega)).1)
    have hK6 := hB.2.1
    have hY := hB.1
    have hsl := serTo_len d u v_ t
    refine R_iload dX6_compare_8 rfl ?_
    refine R_aload_n dX6_compare_10 rfl ?_
    refine R_callV (mc := mX3_years) (As := []) (r := 14) dX6_compare_11 lm_RX6_29 mv_X3_years rfl (by decide) rfl rfl rfl rfl (Nat.le_of_ble_eq_true rfl) c_years_14 ?_
    rintro _ _ ⟨rfl, rfl⟩
    refine R_top (y := nI (dY d)) hXK.1 ?_
    refine R_icmp_geN (tgt := 64) dX6_compare_14 (by decide) (by omega) (by omega) (fun h_14 => ?_) (fun h_14 => ?_)
    · refine R_return dX6_compare_64 rfl ?_
      have e : t = dY d := by omega
      subst e
      exact ⟨rfl, hSK, hO⟩
    · refine R_aload_n dX6_compare_17 rfl ?_
      refine R_iload_n dX6_compare_18 rfl ?_
      refine R_iload dX6_compare_19 rfl ?_
      refine R_callV (mc := mX3_has) (As := [_, _]) (r := 14) dX6_compare_21 lm_RX6_34 mv_X3_has rfl (by decide) rfl rfl rfl rfl (Nat.le_of_ble_eq_true rfl) (c_has_14 (by omega) (by omega)) ?_
      rintro _ _ ⟨rfl, ⟨rfl, hp⟩ | ⟨rfl, hp⟩⟩
      · refine R_if_eqN (tgt := 58) dX6_compare_24 (by decide) (by omega) (fun h_24 => by exact absurd h_24 (by decide)) (fun h_24 => ?_)
        refine R_aload_n dX6_compare_27 rfl ?_
        refine R_iload_n dX6_compare_28 rfl ?_
        refine R_iload dX6_compare_29 rfl ?_
        refine R_callV (mc := mX3_has) (As := [_, _]) (r := 14) dX6_compare_31 lm_RX6_34 mv_X3_has rfl (by decide) rfl rfl rfl rfl (Nat.le_of_ble_eq_true rfl) (c_has_14 (by omega) (by omega)) ?_
        rintro _ _ ⟨rfl, ⟨rfl, hq⟩ | ⟨rfl, hq⟩⟩
        · refine R_if_eqN (tgt := 58) dX6_compare_34 (by decide) (by omega) (fun h_34 => by exact absurd h_34 (by decide)) (fun h_34 => ?_)
          refine R_aload_n dX6_compare_37 rfl ?_
          refine R_iload dX6_compare_38 rfl ?_
          refine R_aload_n dX6_compare_40 rfl ?_
          refine R_iload_n dX6_compare_41 rfl ?_
          refine R_iload dX6_compare_42 rfl ?_
          refine R_callV (mc := mX3_at) (As := [_, _]) (r := 14) dX6_compare_44 lm_RX6_38 mv_X3_at rfl (by decide) rfl rfl rfl rfl (Nat.le_of_ble_eq_true rfl) (c_at_14 (by omega) (by omega)) ?_
          rintro _ _ ⟨rfl, rfl⟩
          refine R_aload_n dX6_compare_47 rfl ?_
          refine R_iload_n dX6_compare_48 rfl ?_
          refine R_iload dX6_compare_49 rfl ?_
          refine R_callV (mc := mX3_at) (As := [_, _]) (r := 14) dX6_compare_51 lm_RX6_38 mv_X3_at rfl (by decide) rfl rfl rfl rfl (Nat.le_of_ble_eq_true rfl) (c_at_14 (by omega) (by omega)) ?_
          rintro _ _ ⟨rfl, rfl⟩
          refine R_isub dX6_compare_54 ?_
          refine R_callV (mc := mX6_add) (As := [_, _]) (r := 25) dX6_compare_55 lm_RX6_42 mv_X6_add rfl (by decide) rfl rfl rfl rfl (Nat.le_of_ble_eq_true rfl) (c_sadd hSK (by omega)) ?_
          rintro _ _ ⟨rfl, hS2, hO2⟩
          refine R_iincN (n := 1) (L' := [(0, .ref 25), (1, .ref 14), (2, .int (nI u)), (3, .int (nI v_)), (4, .int (nI (t + 1)))]) dX6_compare_58 rfl (by decide) (qs1 rfl (qs1 rfl (qs1 rfl (qs1 rfl (qs1 rfl qs0))))) ?_
          refine R_goto (tgt := 8) dX6_compare_61 (by decide) ?_
          refine R_ls (L' := [(0, .ref 25), (1, .ref 14), (2, .int (nI u)), (3, .int (nI v_)), (4, .int (nI (t + 1)))]) (qs1 rfl (qs1 rfl (qs1 rfl (qs1 rfl (qs1 rfl qs0))))) ?_
          exact (by first | (refine ih (t + 1) _ (by omega) (by omega) ?_ (hO.tr hO2); rw [ser_s (dV_some hXK hB hu (by omega) hp) (dV_some hXK hB hv (by omega) hq)]; exact hS2) | (refine ih (t + 1) _ (by omega) (by omega) ?_ hO; rw [ser_n (by unfold serAt; first | rw [dV_none hXK hB hu (by omega) hp] | (rw [dV_none hXK hB hv (by omega) hq]; cases dV d u t <;> rfl))]; exact hSK))
        · refine R_if_eqN (tgt := 58) dX6_compare_34 (by decide) (by omega) (fun h_34 => ?_) (fun h_34 => by exact absurd h_34 (by decide))
          refine R_iincN (n := 1) (L' := [(0, .ref 25), (1, .ref 14), (2, .int (nI u)), (3, .int (nI v_)), (4, .int (nI (t + 1)))]) dX6_compare_58 rfl (by decide) (qs1 rfl (qs1 rfl (qs1 rfl (qs1 rfl (qs1 rfl qs0))))) ?_
          refine R_goto (tgt := 8) dX6_compare_61 (by decide) ?_
          refine R_ls (L' := [(0, .ref 25), (1, .ref 14), (2, .int (nI u)), (3, .int (nI v_)), (4, .int (nI (t + 1)))]) (qs1 rfl (qs1 rfl (qs1 rfl (qs1 rfl (qs1 rfl qs0))))) ?_
          exact (by first | (refine ih (t + 1) _ (by omega) (by omega) ?_ (hO.tr hO2); rw [ser_s (dV_some hXK hB hu (by omega) hp) (dV_some hXK hB hv (by omega) hq)]; exact hS2) | (refine ih (t + 1) _ (by omega) (by omega) ?_ hO; rw [ser_n (by unfold serAt; first | rw [dV_none hXK hB hu (by omega) hp] | (rw [dV_none hXK hB hv (by omega) hq]; cases dV d u t <;> rfl))]; exact hSK))
      · refine R_if_eqN (tgt := 58) dX6_compare_24 (by decide) (by omega) (fun h_24 => ?_) (fun h_24 => by exact absurd h_24 (by decide))
        refine R_iincN (n := 1) (L' := [(0, .ref 25), (1, .ref 14), (2, .int (nI u)), (3, .int (nI v_)), (4, .int (nI (t + 1)))]) dX6_compare_58 rfl (by decide) (qs1 rfl (qs1 rfl (qs1 rfl (qs1 rfl (qs1 rfl qs0))))) ?_
        refine R_goto (tgt := 8) dX6_compare_61 (by decide) ?_
        refine R_ls (L' := [(0, .ref 25), (1, .ref 14), (2, .int (nI u)), (3, .int (nI v_)), (4, .int (nI (t + 1)))]) (qs1 rfl (qs1 rfl (qs1 rfl (qs1 rfl (qs1 rfl qs0))))) ?_
        exact (by first | (refine ih (t + 1) _ (by omega) (by omega) ?_ (hO.tr hO2); rw [ser_s (dV_some hXK hB hu (by omega) hp) (dV_some hXK hB hv (by omega) hq)]; exact hS2) | (refine ih (t + 1) _ (by omega) (by omega) ?_ hO; rw [ser_n (by unfold serAt; first | rw [dV_none hXK hB hu (by omega) hp] | (rw [dV_none hXK hB hv (by omega) hq]; cases dV d u t <;> rfl))]; exact hSK))
set_option maxRecDepth 100000 in
set_option maxHeartbeats 4000000 in
theorem c_compare {M : qMem} {d : dT} (hX : XR 14 M d) (hB : dB d) (h0 : M.2 28 0 = 0 ∧ M.2 29 0 = 0) {u v_ : Nat} (hu : u < dK d) (hv : v_ < dK d) : qSem 0 mX6_compare [.ref 25, .ref 14, .int (nI u), .int (nI v_)] M (fun v N => v = none ∧ XS N (ser d u v_) ∧ qOff oSe M N) := by
  refine qSem.of (by decide +kernel) (Nat.le_of_ble_eq_true rfl) (fun w => ?_)
  refine R_ls (L' := [(0, .ref 25), (1, .ref 14), (2, .int (nI u)), (3, .int (nI v_))]) (qs1 rfl (qs1 rfl (qs1 rfl (qs1 rfl qs0)))) ?_
  refine R_aload_n dX6_compare_0 rfl ?_
  refine R_iconst (v := nI 0) dX6_compare_1 rfl ?_
  refine R_putI dX6_compare_2 lf_RX6_25 (by decide) rfl rfl rfl rfl ?_
  refine R_iconst (v := nI 0) dX6_compare_5 rfl ?_
  refine R_istore (L' := [(0, .ref 25), (1, .ref 14), (2, .int (nI u)), (3, .int (nI v_)), (4, .int (nI 0))]) dX6_compare_6 (by decide) (qs1 rfl (qs1 rfl (qs1 rfl (qs1 rfl (qs1 rfl qs0))))) ?_
  refine R_ls (L' := [(0, .ref 25), (1, .ref 14), (2, .int (nI u)), (3, .int (nI v_)), (4, .int (nI 0))]) (qs1 rfl (qs1 rfl (qs1 rfl (qs1 rfl (qs1 rfl qs0))))) ?_
  exact (l_compare hX hB hu hv (dY d + 2) 0 _ (by omega) (by omega) ⟨qIs_eq _ _ _ _, Nat.zero_le _, fun i hi => absurd hi (Nat.not_lt_zero i), fun i hi => by have e : i = 0 := Nat.le_zero.mp hi; subst e; exact h0⟩ (qOff.is qOff.rf (by unfold oSe; omega)))
