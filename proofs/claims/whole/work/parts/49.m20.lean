
-- ===== the model: undo =====
theorem und_G (a : aT) (q : dT × List gT) : ∀ (i : Nat) (x : gT), (und a q).2[i]? = some x → q.2[i]? = some x := by
  obtain ⟨k, c, t, n⟩ := a
  rcases k with _ | _ | _ | k
  · exact fun i x h => h
  · exact fun i x h => h
  · exact fun i x h => h
  · intro i x h
    have h : q.2.dropLast[i]? = some x := h
    rw [List.getElem?_dropLast] at h
    split at h
    · exact h
    · cases h
def uE (M K : qMem) (m : Nat) : Prop := (∀ o, o ≠ 4 → o ≠ 0 → K.1 o = M.1 o) ∧ (∀ k, k ≠ 13 → k ≠ 22 → K.1 0 k = M.1 0 k) ∧ K.1 0 13 = nI m
theorem uE.a {M K : qMem} {m k : Nat} {x : Int32} (h : uE M K m) : uE M (qIs K 4 k x) m := ⟨fun o h1 h2 => by rw [qIs_no h1]; exact h.1 o h1 h2, fun j h1 h2 => by rw [qIs_no (by decide)]; exact h.2.1 j h1 h2, by rw [qIs_no (by decide)]; exact h.2.2⟩
set_option maxRecDepth 100000 in
set_option maxHeartbeats 4000000 in
theorem m_unL {w : qWT} {M : qMem} {m : Nat} (hm : m < 8) : ∀ (fu : Nat) (i : Nat) (K : qMem), (103 - i) < fu → (i ≤ 102) → (uE M K m) → (∀ k, k < i → K.1 4 k = M.1 8 (102 * m + k)) → qRW 1 w mX8_undo 22 [(0, .ref 0), (1, .int (nI i))] [] K (fun v N => v = some (.int (nI m)) ∧ uE M N m ∧ N.1 0 22 = nI 0 ∧ ∀ k, k < 102 → N.1 4 k = M.1 8 (102 * m + k)) := by
  intro fu
  induction fu with
  | zero => intro i K hn; exact absurd hn (Nat.not_lt_zero _)
  | succ fu ih =>
    intro i K hn hi hE hA
    refine R_iload_n dX8_undo_22 rfl ?_
    refine R_bipush (v := nI 102) dX8_undo_23 rfl ?_
    refine R_icmp_geN (tgt := 54) dX8_undo_25 (by decide) (by omega) (by omega) (fun h_25 => ?_) (fun h_25 => ?_)
    · refine R_aload_n dX8_undo_54 rfl ?_
      refine R_iconst (v := nI 0) dX8_undo_55 rfl ?_
      refine R_putI dX8_undo_56 lf_RX8_157 (by decide) rfl rfl rfl rfl ?_
      refine R_aload_n dX8_undo_59 rfl ?_
      refine R_getI dX8_undo_60 (lf_RX8_154).get (by decide) rfl rfl ?_
      refine R_top (y := nI m) (by rw [qIs_nk (by decide)]; exact hE.2.2) ?_
      refine R_ireturn dX8_undo_63 rfl rfl ?_
      exact ⟨rfl, ⟨fun o h1 h2 => by rw [qIs_no h2]; exact hE.1 o h1 h2, fun j h1 h2 => by rw [qIs_nk h2]; exact hE.2.1 j h1 h2, by rw [qIs_nk (by decide)]; exact hE.2.2⟩, by rw [qIs_eq], fun k hk => by rw [qIs_no (by decide)]; exact hA k (by omega)⟩
    · refine R_aload_n dX8_undo_28 rfl ?_
      refine R_getR dX8_undo_29 lg_RX8_19 (by decide) rfl rfl ?_
      refine R_iload_n dX8_undo_32 rfl ?_
      refine R_aload_n dX8_undo_33 rfl ?_
      refine R_getR dX8_undo_34 lg_RX8_31 (by decide) rfl rfl ?_
      refine R_bipush (v := nI 102) dX8_undo_37 rfl ?_
      refine R_aload_n dX8_undo_39 rfl ?_
      refine R_getI dX8_undo_40 (lf_RX8_154).get (by decide) rfl rfl ?_
      refine R_top (y := nI m) hE.2.2 ?_
      refine R_imulN dX8_undo_43 ?_
      refine R_iload_n dX8_undo_44 rfl ?_
      refine R_iaddN dX8_undo_45 ?_
      refine R_ialdN dX8_undo_46 (by decide) rfl (by omega) (by decide) ?_
      refine R_top (y := M.1 8 (102 * m + i)) (by rw [hE.1 8 (by decide) (by decide)]) ?_
      refine R_iastN dX8_undo_47 (by decide) rfl (by omega) (by decide) ?_
      refine R_iincN (n := 1) (L' := [(0, .ref 0), (1, .int (nI (i + 1)))]) dX8_undo_48 rfl (by decide) (qs1 rfl (qs1 rfl qs0)) ?_
      refine R_goto (tgt := 22) dX8_undo_51 (by decide) ?_
      refine R_ls (L' := [(0, .ref 0), (1, .int (nI (i + 1)))]) (qs1 rfl (qs1 rfl qs0)) ?_
      exact (ih (i + 1) _ (by omega) (by omega) hE.a (fun k hk => by rw [qIs_1]; by_cases e : k = i; rw [if_pos ⟨rfl, e⟩, e]; rw [if_neg (fun z => e z.2)]; exact hA k (by omega)))

theorem und_XZ (a : aT) (q : dT × List gT) (c : Nat) : dX (und a q).1 c = dX q.1 c ∧ dZ (und a q).1 c = dZ q.1 c := by
  obtain ⟨k, c, t, n⟩ := a
  rcases k with _ | _ | _ | k <;> exact ⟨rfl, rfl⟩
set_option maxRecDepth 100000 in
set_option maxHeartbeats 4000000 in
theorem p_undo1 {M : qMem} {s : sT} (hI : MI M s) (hs : sOk s) {as : List aT} {a : aT} (hA : sA s = as ++ [a]) : qSem 1 mX8_undo [.ref 0] M (fun r N => r = some (.int (rUndo s).1) ∧ MI N (rUndo s).2) := by
  have hX := hI.1
  have hB := hs.1
  have hK6 := hB.2.1
  have hY16 := hB.1
  have hY4 := hs.2.1.1
  have hK2 := hs.2.1.2
  have h8 := hs.2.2.2.2.1
  have h13 := hI.2.2.2.1
  rw [hA, List.length_append, show [a].length = 1 from rfl] at h13 h8
  refine qSem.of (by decide +kernel) (Nat.le_of_ble_eq_true rfl) (fun w => ?_)
  refine R_ls (L' := [(0, .ref 0)]) (qs1 rfl qs0) ?_
  refine R_aload_n dX8_undo_0 rfl ?_
  refine R_getI dX8_undo_1 (lf_RX8_154).get (by decide) rfl rfl ?_
  refine R_top (y := nI (as.length + 1)) h13 ?_
  refine R_if_neN (tgt := 10) dX8_undo_4 (by decide) (by omega) (fun h_4 => ?_) (fun h_4 => by exact absurd h_4 (by omega))
  refine R_aload_n dX8_undo_10 rfl ?_
  refine R_dup dX8_undo_11 rfl ?_
  refine R_getI dX8_undo_12 (lf_RX8_154).get (by decide) rfl rfl ?_
  refine R_top (y := nI (as.length + 1)) h13 ?_
  refine R_iconst (v := nI 1) dX8_undo_15 rfl ?_
  refine R_isubN dX8_undo_16 (by omega) ?_
  refine R_putI dX8_undo_17 lf_RX8_154 (by decide) rfl rfl rfl rfl ?_
  refine R_iconst (v := nI 0) dX8_undo_20 rfl ?_
  refine R_istore_n (L' := [(0, .ref 0), (1, .int (nI 0))]) dX8_undo_21 (by decide) (qs1 rfl (qs1 rfl qs0)) ?_
  refine R_ls (L' := [(0, .ref 0), (1, .int (nI 0))]) (qs1 rfl (qs1 rfl qs0)) ?_
  refine qRW_mono (m_unL (M := M) (m := as.length) (by omega) 104 0 _ (by omega) (by omega) ⟨fun o h1 h2 => by rw [qIs_no h2], fun k h1 h2 => by rw [qIs_nk h1], by rw [qIs_eq]; rfl⟩ (fun k hk => absurd hk (Nat.not_lt_zero k))) ?_
  rintro v N ⟨q1, q2, q3, q4⟩
  have hru : rUndo s = (nI as.length, chU s a) := by unfold rUndo; rw [hA, List.getLast?_concat]; simp
  rw [hru]
  refine ⟨q1, ?_⟩
  have hMB := hI.2.2.2.2.1
  have hv := hs.2.2.2.1
  rw [hA, List.reverse_append] at hMB hv
  have hm1 : MRow M 8 (102 * as.reverse.length) (und a (sD s, sG s)).1 := hMB.1
  have hm2 : M.1 8 (102 * as.reverse.length + 101) = nI (und a (sD s, sG s)).2.length := hMB.2.1
  have hm3 : MB M (und a (sD s, sG s)) as.reverse := hMB.2.2
  rw [List.length_reverse] at hm1 hm2
  have hB2 : dB (und a (sD s, sG s)).1 := hv.2.1
  have hd := und_dim a (sD s, sG s)
  have hP := hX.1
  have hsA : sA (chU s a) = as := by show (sA s).dropLast = as; rw [hA]; simp
  have eX : ∀ c, dX (und a (sD s, sG s)).1 c = dX (sD s) c := fun c => (und_XZ a _ c).1
  have eZ : ∀ c, dZ (und a (sD s, sG s)).1 c = dZ (sD s) c := fun c => (und_XZ a _ c).2
  refine ⟨⟨⟨?_, ?_, fun c hc => ?_, fun c hc => ?_⟩, ?_⟩, ⟨?_, fun i x hi k hk => ?_⟩, hI.2.2.1.off (q2.2.1 0 (by decide) (by decide)) (q2.1 1 (by decide) (by decide)), by rw [hsA]; exact q2.2.2, ?_, fun z => absurd (by rw [q3]; rfl) z⟩
  · show N.1 0 2 = nI (dK (und a (sD s, sG s)).1); rw [hd.2, q2.2.1 2 (by decide) (by decide)]; exact hP.1
  · show N.1 0 3 = nI (dY (und a (sD s, sG s)).1); rw [hd.1, q2.2.1 3 (by decide) (by decide)]; exact hP.2.1
  · have hc2 : c < dK (sD s) := (by have h : c < dK (und a (sD s, sG s)).1 := hc; rw [hd.2] at h; exact h); show N.1 2 c = dX (und a (sD s, sG s)).1 c; rw [eX, q2.1 2 (by decide) (by decide)]; exact hP.2.2.1 c hc2
  · have hc2 : c < dK (sD s) := (by have h : c < dK (und a (sD s, sG s)).1 := hc; rw [hd.2] at h; exact h); show N.1 3 c = dZ (und a (sD s, sG s)).1 c; rw [eZ, q2.1 3 (by decide) (by decide)]; exact hP.2.2.2 c hc2
  · exact hm1.mv hB2.2.1 hB2.1 (fun k hk => by rw [Nat.zero_add]; exact q4 k hk)
  · rw [q4 101 (by decide)]; exact hm2
  · rw [q2.1 9 (by decide) (by decide)]; exact hI.2.1.2 i x (und_G a _ i x hi) k hk
  · rw [hsA]; exact hm3.off (q2.1 8 (by decide) (by decide))
set_option maxRecDepth 100000 in
set_option maxHeartbeats 4000000 in
theorem p_undo0 {M : qMem} {s : sT} (hI : MI M s) (hs : sOk s) (h0 : sA s = []) : qSem 1 mX8_undo [.ref 0] M (fun r N => r = some (.int (rUndo s).1) ∧ MI N (rUndo s).2) := by
  have h13 := hI.2.2.2.1
  rw [h0] at h13
  have hru : rUndo s = (-2, s) := by unfold rUndo; rw [h0]; rfl
  rw [hru]
  refine qSem.of (by decide +kernel) (Nat.le_of_ble_eq_true rfl) (fun w => ?_)
  refine R_ls (L' := [(0, .ref 0)]) (qs1 rfl qs0) ?_
  refine R_aload_n dX8_undo_0 rfl ?_
  refine R_getI dX8_undo_1 (lf_RX8_154).get (by decide) rfl rfl ?_
  refine R_top (y := nI 0) h13 ?_
  refine R_if_neN (tgt := 10) dX8_undo_4 (by decide) (by omega) (fun h_4 => by exact absurd h_4 (by decide)) (fun h_4 => ?_)
  refine R_bipush (v := -2) dX8_undo_7 rfl ?_
  refine R_ireturn dX8_undo_9 rfl rfl ?_
  exact ⟨rfl, hI⟩

theorem p_undo {M : qMem} {s : sT} (hI : MI M s) (hs : sOk s) : qSem 1 mX8_undo [.ref 0] M (fun r N => r = some (.int (rUndo s).1) ∧ MI N (rUndo s).2) := by
  rcases List.eq_nil_or_concat (sA s) with h | ⟨as, a, h⟩
  · exact p_undo0 hI hs h
  · rw [List.concat_eq_append] at h
    exact p_undo1 hI hs h
