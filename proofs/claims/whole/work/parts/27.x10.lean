
-- ===== undo =====
theorem encX_dec {n : Int32} (h : n = 1000000 ∨ okv n) : n = encX (decX n) := by
  unfold decX
  by_cases e : n = 1000000
  · rw [if_pos e]; exact e
  · rw [if_neg e]; rfl
theorem und_dim (a : aT) (q : dT × List gT) : dY (und a q).1 = dY q.1 ∧ dK (und a q).1 = dK q.1 := by
  obtain ⟨k, c, t, n⟩ := a
  rcases k with _ | _ | _ | k <;> exact ⟨rfl, rfl⟩
theorem XI_un {vb : Nat} {M P : qMem} {s : sT} {a : aT} {as : List aT} (hI : XI vb M s) (hvb : vb < 2000000000) (hA : sA s = as ++ [a]) (hR : XR 14 P (und a (sD s, sG s)).1) (hO : ∀ o, o < 14 ∨ (25 ≤ o ∧ o < 90) → P.1 o = M.1 o) (hO2 : ∀ o, (o < 90 ∨ 101 ≤ o) → P.2 o = M.2 o) (hver : P.1 14 7 = M.1 14 7 + nI 1) (hH : XH P (as.map aEnc)) (hL : XL P (und a (sD s, sG s)).2) : XI (vb + 1) P (chU s a) := by
  have hv := hI.2.2.2.2.2.2.2.2.2
  rw [hA, List.reverse_append] at hv
  have hd := und_dim a (sD s, sG s)
  have hs : sA (chU s a) = as := by show (sA s).dropLast = as; rw [hA]; simp
  refine hI.chg (s' := chU s a) hvb hR hv.2.1 ⟨by show 4 ≤ dY (und a (sD s, sG s)).1; rw [hd.1]; exact hI.2.2.1.1, by show 2 ≤ dK (und a (sD s, sG s)).1; rw [hd.2]; exact hI.2.2.1.2⟩ hver ?_ ?_ (by rw [hs]; exact hH) hL ?_ hI.2.2.2.2.2.2.2.1 (by rw [hs]; exact hv.2.2)
  · rw [hO 36 (by omega)]
  · exact hI.2.2.2.1.off (fun o ho => hO2 o (by omega))
  · exact hI.2.2.2.2.2.2.1.off (hO 1 (by omega)) (hO 2 (by omega))
theorem XR_shf {M : qMem} {d : dT} (h : XR 14 M d) (hB : dB d) {c t : Nat} {z ver : Int32} (hc : c < dK d) : XR 14 (qIs (qShift M c t z) 14 7 ver) (shV d c t z) := by
  have hK6 := hB.2.1
  obtain ⟨h1, h2, h3, h4, h5, h6, h7⟩ := h
  have n : ∀ o, o < 19 → (qShift M c t z).1 o = M.1 o := fun o ho => by funext k; show (if o = 19 + c ∧ _ then _ else _) = _; rw [if_neg (by omega)]
  refine ⟨?_, ?_, fun a ha => ?_, fun a ha => ?_, fun a b ha hb => ?_, ?_, fun k hk => ?_⟩
  · rw [qIs_nk (by omega), n _ (by omega)]; exact h1
  · rw [qIs_nk (by omega), n _ (by omega)]; exact h2
  · rw [qIs_no (by omega), n _ (by omega)]; exact h3 a ha
  · rw [qIs_no (by omega), n _ (by omega)]; exact h4 a ha
  · have ha : a < dK d := ha
    rw [qIs_no (by omega)]
    have e5 := h5 a b ha hb
    have e5' : M.1 (19 + a) b = encX (dV d a b) := e5
    show (if 19 + a = 19 + c ∧ b < t ∧ ¬ M.1 (19 + c) b = 1000000 then M.1 (19 + a) b + z else M.1 (19 + a) b) = encX (if a = c ∧ b < t then (dV d a b).map (fun x => x + z) else dV d a b)
    by_cases e : a = c ∧ b < t
    · rw [if_pos e, ← e.1, e5']
      cases hv : dV d a b with
      | none => rw [if_neg (fun q => q.2.2 rfl)]; rfl
      | some v => rw [if_pos ⟨rfl, e.2, okv_X (hB.2.2.1 a b v hv)⟩]; rfl
    · rw [if_neg e, if_neg (fun q => e ⟨by omega, q.2.1⟩)]; exact e5
  · rw [qIs_nk (by omega), n _ (by omega)]; exact h6
  · rw [qIs_no (by omega), n _ (by omega)]; exact h7 k hk
theorem qShift_2 (M : qMem) (c y : Nat) (z : Int32) : (qShift M c y z).2 = M.2 := rfl
theorem qShift_no {M : qMem} {c y : Nat} {z : Int32} {o : Nat} (h : o ≠ 19 + c) : (qShift M c y z).1 o = M.1 o := by funext k; show (if o = 19 + c ∧ _ then _ else _) = _; rw [if_neg (fun q => h q.1)]
set_option maxRecDepth 100000 in
set_option maxHeartbeats 4000000 in
theorem o_undo0 {vb : Nat} {M : qMem} {s : sT} (hI : XI vb M s) (hvb : vb < 2000000000) {as : List aT} {c t : Nat} {n : Int32} (hA : sA s = as ++ [(0, c, t, n)]) : qSem 0 mX7_undo [.ref 0] M (fun r N => r = some (.int (rUndo s).1) ∧ XI (vb + 1) N (rUndo s).2) := by
  have hX := hI.1
  have hB := hI.2.1
  have hK6 := hB.2.1
  have hY16 := hB.1
  have hv := hI.2.2.2.2.2.2.2.2.2
  rw [hA, List.reverse_append] at hv
  have hvl : vld (0, c, t, n) (sD s, sG s) := hv.1
  have hXH := hI.2.2.2.2.1
  rw [hA, List.map_append, show List.map aEnc [(0, c, t, n)] = [aEnc (0, c, t, n)] from rfl] at hXH
  have hgl : (as.map aEnc ++ [aEnc (0, c, t, n)]).getLast? = some (aEnc (0, c, t, n)) := List.getLast?_concat ..
  have hde : (as.map aEnc ++ [aEnc (0, c, t, n)]).dropLast = as.map aEnc := List.dropLast_concat ..
  have hc : c < dK (sD s) := hvl.1
  have ht : t < dY (sD s) := hvl.2.1
  have hx := encX_dec hvl.2.2
  refine qSem.of (by decide +kernel) (Nat.le_of_ble_eq_true rfl) (fun w => ?_)
  refine R_ls (L' := [(0, .ref 0)]) (qs1 rfl qs0) ?_
  refine R_aload_n dX7_undo_0 rfl ?_
  refine R_getR dX7_undo_1 lg_RX7_47 (by decide) rfl rfl ?_
  refine R_callV (mc := mX1_length) (As := []) (r := 90) dX7_undo_4 lm_RX7_155 mv_X1_length rfl (by decide) rfl rfl rfl rfl (Nat.le_of_ble_eq_true rfl) (c_hlen hXH) ?_
  rintro _ _ ⟨rfl, rfl⟩
  refine R_top (y := nI (as.length + 1)) (by rw [List.length_append, List.length_map]; rfl) ?_
  refine R_if_neN (tgt := 13) dX7_undo_7 (by decide) (by have := (XH_len hXH).2; rw [List.length_append, List.length_map] at this; simp at this; omega) (fun h_7 => ?_) (fun h_7 => by exact absurd h_7 (by omega))
  refine R_aload_n dX7_undo_13 rfl ?_
  refine R_getR dX7_undo_14 lg_RX7_47 (by decide) rfl rfl ?_
  refine R_iconst (v := nI 1) dX7_undo_17 rfl ?_
  refine R_callV (mc := mX1_latest) (As := [_]) (r := 90) dX7_undo_18 lm_RX7_156 mv_X1_latest rfl (by decide) rfl rfl rfl rfl (Nat.le_of_ble_eq_true rfl) (c_latest hXH hgl (by omega)) ?_
  rintro _ _ ⟨rfl, rfl⟩
  refine R_top (y := nI c) rfl ?_
  refine R_istore_n (L' := [(0, .ref 0), (1, .int (nI c))]) dX7_undo_21 (by decide) (qs1 rfl (qs1 rfl qs0)) ?_
  refine R_aload_n dX7_undo_22 rfl ?_
  refine R_getR dX7_undo_23 lg_RX7_47 (by decide) rfl rfl ?_
  refine R_iconst (v := nI 2) dX7_undo_26 rfl ?_
  refine R_callV (mc := mX1_latest) (As := [_]) (r := 90) dX7_undo_27 lm_RX7_156 mv_X1_latest rfl (by decide) rfl rfl rfl rfl (Nat.le_of_ble_eq_true rfl) (c_latest hXH hgl (by omega)) ?_
  rintro _ _ ⟨rfl, rfl⟩
  refine R_top (y := nI t) rfl ?_
  refine R_istore_n (L' := [(0, .ref 0), (1, .int (nI c)), (2, .int (nI t))]) dX7_undo_30 (by decide) (qs1 rfl (qs1 rfl (qs1 rfl qs0))) ?_
  refine R_aload_n dX7_undo_31 rfl ?_
  refine R_getR dX7_undo_32 lg_RX7_47 (by decide) rfl rfl ?_
  refine R_iconst (v := nI 3) dX7_undo_35 rfl ?_
  refine R_callV (mc := mX1_latest) (As := [_]) (r := 90) dX7_undo_36 lm_RX7_156 mv_X1_latest rfl (by decide) rfl rfl rfl rfl (Nat.le_of_ble_eq_true rfl) (c_latest hXH hgl (by omega)) ?_
  rintro _ _ ⟨rfl, rfl⟩
  refine R_top (y := n) rfl ?_
  refine R_istore_n (L' := [(0, .ref 0), (1, .int (nI c)), (2, .int (nI t)), (3, .int (n))]) dX7_undo_39 (by decide) (qs1 rfl (qs1 rfl (qs1 rfl (qs1 rfl qs0)))) ?_
  refine R_aload_n dX7_undo_40 rfl ?_
  refine R_getR dX7_undo_41 lg_RX7_47 (by decide) rfl rfl ?_
  refine R_iconst (v := nI 0) dX7_undo_44 rfl ?_
  refine R_callV (mc := mX1_latest) (As := [_]) (r := 90) dX7_undo_45 lm_RX7_156 mv_X1_latest rfl (by decide) rfl rfl rfl rfl (Nat.le_of_ble_eq_true rfl) (c_latest hXH hgl (by omega)) ?_
  rintro _ _ ⟨rfl, rfl⟩
  refine R_top (y := nI 0) rfl ?_
  refine R_tableIn (off := 28) (tgt := 76) dX7_undo_48 (by decide) (by decide) rfl (by decide) ?_
  refine R_aload_n dX7_undo_76 rfl ?_
  refine R_getR dX7_undo_77 lg_RX7_19 (by decide) rfl rfl ?_
  refine R_iload_n dX7_undo_80 rfl ?_
  refine R_iload_n dX7_undo_81 rfl ?_
  refine R_iload_n dX7_undo_82 rfl ?_
  refine R_callV (mc := mX3_put) (As := [_, _, _]) (r := 14) dX7_undo_83 lm_RX7_123 mv_X3_put rfl (by decide) rfl rfl rfl rfl (Nat.le_of_ble_eq_true rfl) (c_put_14 (by omega) (by omega)) ?_
  rintro _ _ ⟨rfl, rfl⟩
  refine R_goto (tgt := 130) dX7_undo_86 (by decide) ?_
  refine R_aload_n dX7_undo_130 rfl ?_
  refine R_getR dX7_undo_131 lg_RX7_47 (by decide) rfl rfl ?_
  refine R_callV (mc := mX1_dropLatest) (As := []) (r := 90) dX7_undo_134 lm_RX7_165 mv_X1_dropLatest rfl (by decide) rfl rfl rfl rfl (Nat.le_of_ble_eq_true rfl) (c_hdrop (hXH.off (fun o a b => by rw [qIs_no (by omega), qIs_no (by omega)])) (by rw [List.length_append]; exact Nat.succ_pos _)) ?_
  rintro _ _ ⟨rfl, hH, hO⟩
  rw [hde] at hH
  refine R_aload_n dX7_undo_137 rfl ?_
  refine R_getR dX7_undo_138 lg_RX7_47 (by decide) rfl rfl ?_
  refine R_callV (mc := mX1_length) (As := []) (r := 90) dX7_undo_141 lm_RX7_155 mv_X1_length rfl (by decide) rfl rfl rfl rfl (Nat.le_of_ble_eq_true rfl) (c_hlen hH) ?_
  rintro _ _ ⟨rfl, rfl⟩
  refine R_ireturn dX7_undo_144 rfl rfl ?_
  have hlen : (sA s).length - 1 = as.length := by rw [hA]; simp
  have hru : rUndo s = (nI as.length, chU s (0, c, t, n)) := by unfold rUndo; rw [hA, List.getLast?_concat]; simp
  rw [hru]
  refine ⟨by simp, ?_⟩
  refine XI_un hI hvb hA (P := _) (XR.off (d := (und (0, c, t, n) (sD s, sG s)).1) (XR_put hX hK6 hc hx) hK6 (fun o a b => (hO o (by unfold oHi; omega)).1)) (fun o h9 => by rw [(hO o (by unfold oHi; omega)).1, qIs_no (by omega), qIs_no (by omega)]) (fun o h9 => by rw [(hO o (by unfold oHi; omega)).2]; rfl) (by rw [(hO 14 (by unfold oHi; omega)).1, qIs_eq]) hH (hI.2.2.2.2.2.1.off (fun o a b => by rw [(hO o (by unfold oHi; omega)).1, qIs_no (by omega), qIs_no (by omega)]))
set_option maxRecDepth 100000 in
set_option maxHeartbeats 4000000 in
theorem o_undo1 {vb : Nat} {M : qMem} {s : sT} (hI : XI vb M s) (hvb : vb < 2000000000) {as : List aT} {c t : Nat} {n : Int32} (hA : sA s = as ++ [(1, c, t, n)]) : qSem 0 mX7_undo [.ref 0] M (fun r N => r = some (.int (rUndo s).1) ∧ XI (vb + 1) N (rUndo s).2) := by
  have hX := hI.1
  have hB := hI.2.1
  have hK6 := hB.2.1
  have hY16 := hB.1
  have hv := hI.2.2.2.2.2.2.2.2.2
  rw [hA, List.reverse_append] at hv
  have hvl : vld (1, c, t, n) (sD s, sG s) := hv.1
  have hXH := hI.2.2.2.2.1
  rw [hA, List.map_append, show List.map aEnc [(1, c, t, n)] = [aEnc (1, c, t, n)] from rfl] at hXH
  have hgl : (as.map aEnc ++ [aEnc (1, c, t, n)]).getLast? = some (aEnc (1, c, t, n)) := List.getLast?_concat ..
  have hde : (as.map aEnc ++ [aEnc (1, c, t, n)]).dropLast = as.map aEnc := List.dropLast_concat ..
  obtain ⟨q, hq9, rfl⟩ : ∃ p, p ≤ 99999 ∧ n = nI p := hvl
  refine qSem.of (by decide +kernel) (Nat.le_of_ble_eq_true rfl) (fun w => ?_)
  refine R_ls (L' := [(0, .ref 0)]) (qs1 rfl qs0) ?_
  refine R_aload_n dX7_undo_0 rfl ?_
  refine R_getR dX7_undo_1 lg_RX7_47 (by decide) rfl rfl ?_
  refine R_callV (mc := mX1_length) (As := []) (r := 90) dX7_undo_4 lm_RX7_155 mv_X1_length rfl (by decide) rfl rfl rfl rfl (Nat.le_of_ble_eq_true rfl) (c_hlen hXH) ?_
  rintro _ _ ⟨rfl, rfl⟩
  refine R_top (y := nI (as.length + 1)) (by rw [List.length_append, List.length_map]; rfl) ?_
  refine R_if_neN (tgt := 13) dX7_undo_7 (by decide) (by have := (XH_len hXH).2; rw [List.length_append, List.length_map] at this; simp at this; omega) (fun h_7 => ?_) (fun h_7 => by exact absurd h_7 (by omega))
  refine R_aload_n dX7_undo_13 rfl ?_
  refine R_getR dX7_undo_14 lg_RX7_47 (by decide) rfl rfl ?_
  refine R_iconst (v := nI 1) dX7_undo_17 rfl ?_
  refine R_callV (mc := mX1_latest) (As := [_]) (r := 90) dX7_undo_18 lm_RX7_156 mv_X1_latest rfl (by decide) rfl rfl rfl rfl (Nat.le_of_ble_eq_true rfl) (c_latest hXH hgl (by omega)) ?_
  rintro _ _ ⟨rfl, rfl⟩
  refine R_top (y := nI c) rfl ?_
  refine R_istore_n (L' := [(0, .ref 0), (1, .int (nI c))]) dX7_undo_21 (by decide) (qs1 rfl (qs1 rfl qs0)) ?_
  refine R_aload_n dX7_undo_22 rfl ?_
  refine R_getR dX7_undo_23 lg_RX7_47 (by decide) rfl rfl ?_
  refine R_iconst (v := nI 2) dX7_undo_26 rfl ?_
  refine R_callV (mc := mX1_latest) (As := [_]) (r := 90) dX7_undo_27 lm_RX7_156 mv_X1_latest rfl (by decide) rfl rfl rfl rfl (Nat.le_of_ble_eq_true rfl) (c_latest hXH hgl (by omega)) ?_
  rintro _ _ ⟨rfl, rfl⟩
  refine R_top (y := nI t) rfl ?_
  refine R_istore_n (L' := [(0, .ref 0), (1, .int (nI c)), (2, .int (nI t))]) dX7_undo_30 (by decide) (qs1 rfl (qs1 rfl (qs1 rfl qs0))) ?_
  refine R_aload_n dX7_undo_31 rfl ?_
  refine R_getR dX7_undo_32 lg_RX7_47 (by decide) rfl rfl ?_
  refine R_iconst (v := nI 3) dX7_undo_35 rfl ?_
  refine R_callV (mc := mX1_latest) (As := [_]) (r := 90) dX7_undo_36 lm_RX7_156 mv_X1_latest rfl (by decide) rfl rfl rfl rfl (Nat.le_of_ble_eq_true rfl) (c_latest hXH hgl (by omega)) ?_
  rintro _ _ ⟨rfl, rfl⟩
  refine R_top (y := nI q) rfl ?_
  refine R_istore_n (L' := [(0, .ref 0), (1, .int (nI c)), (2, .int (nI t)), (3, .int (nI q))]) dX7_undo_39 (by decide) (qs1 rfl (qs1 rfl (qs1 rfl (qs1 rfl qs0)))) ?_
  refine R_aload_n dX7_undo_40 rfl ?_
  refine R_getR dX7_undo_41 lg_RX7_47 (by decide) rfl rfl ?_
  refine R_iconst (v := nI 0) dX7_undo_44 rfl ?_
  refine R_callV (mc := mX1_latest) (As := [_]) (r := 90) dX7_undo_45 lm_RX7_156 mv_X1_latest rfl (by decide) rfl rfl rfl rfl (Nat.le_of_ble_eq_true rfl) (c_latest hXH hgl (by omega)) ?_
  rintro _ _ ⟨rfl, rfl⟩
  refine R_top (y := nI 1) rfl ?_
  refine R_tableIn (off := 41) (tgt := 89) dX7_undo_48 (by decide) (by decide) rfl (by decide) ?_
  refine R_aload_n dX7_undo_89 rfl ?_
  refine R_getR dX7_undo_90 lg_RX7_19 (by decide) rfl rfl ?_
  refine R_iload_n dX7_undo_93 rfl ?_
  refine R_callV (mc := mX3_setBreakPenalty) (As := [_]) (r := 14) dX7_undo_94 lm_RX7_133 mv_X3_setBreakPenalty rfl (by decide) rfl rfl rfl rfl (Nat.le_of_ble_eq_true rfl) c_setPen_14 ?_
  rintro _ _ ⟨rfl, rfl⟩
  refine R_goto (tgt := 130) dX7_undo_97 (by decide) ?_
  refine R_aload_n dX7_undo_130 rfl ?_
  refine R_getR dX7_undo_131 lg_RX7_47 (by decide) rfl rfl ?_
  refine R_callV (mc := mX1_dropLatest) (As := []) (r := 90) dX7_undo_134 lm_RX7_165 mv_X1_dropLatest rfl (by decide) rfl rfl rfl rfl (Nat.le_of_ble_eq_true rfl) (c_hdrop (hXH.off (fun o a b => by rw [qIs_no (by omega), qIs_no (by omega)])) (by rw [List.length_append]; exact Nat.succ_pos _)) ?_
  rintro _ _ ⟨rfl, hH, hO⟩
  rw [hde] at hH
  refine R_aload_n dX7_undo_137 rfl ?_
  refine R_getR dX7_undo_138 lg_RX7_47 (by decide) rfl rfl ?_
  refine R_callV (mc := mX1_length) (As := []) (r := 90) dX7_undo_141 lm_RX7_155 mv_X1_length rfl (by decide) rfl rfl rfl rfl (Nat.le_of_ble_eq_true rfl) (c_hlen hH) ?_
  rintro _ _ ⟨rfl, rfl⟩
  refine R_ireturn dX7_undo_144 rfl rfl ?_
  have hlen : (sA s).length - 1 = as.length := by rw [hA]; simp
  have hru : rUndo s = (nI as.length, chU s (1, c, t, nI q)) := by unfold rUndo; rw [hA, List.getLast?_concat]; simp
  rw [hru]
  refine ⟨by simp, ?_⟩
  refine XI_un hI hvb hA (P := _) (XR.off (d := (und (1, c, t, nI q) (sD s, sG s)).1) ((show XR 14 _ (setR (sD s) 4 (nI q).toNatClampNeg) by rw [nI_clamp (by omega)]; exact XR_pen hX hK6)) hK6 (fun o a b => (hO o (by unfold oHi; omega)).1)) (fun o h9 => by rw [(hO o (by unfold oHi; omega)).1, qIs_no (by omega), qIs_no (by omega)]) (fun o h9 => by rw [(hO o (by unfold oHi; omega)).2]; rfl) (by rw [(hO 14 (by unfold oHi; omega)).1, qIs_eq]) hH (hI.2.2.2.2.2.1.off (fun o a b => by rw [(hO o (by unfold oHi; omega)).1, qIs_no (by omega), qIs_no (by omega)]))
set_option maxRecDepth 100000 in
set_option maxHeartbeats 4000000 in
theorem o_undo2 {vb : Nat} {M : qMem} {s : sT} (hI : XI vb M s) (hvb : vb < 2000000000) {as : List aT} {c t : Nat} {n : Int32} (hA : sA s = as ++ [(2, c, t, n)]) : qSem 0 mX7_undo [.ref 0] M (fun r N => r = some (.int (rUndo s).1) ∧ XI (vb + 1) N (rUndo s).2) := by
  have hX := hI.1
  have hB := hI.2.1
  have hK6 := hB.2.1
  have hY16 := hB.1
  have hv := hI.2.2.2.2.2.2.2.2.2
  rw [hA, List.reverse_append] at hv
  have hvl : vld (2, c, t, n) (sD s, sG s) := hv.1
  have hXH := hI.2.2.2.2.1
  rw [hA, List.map_append, show List.map aEnc [(2, c, t, n)] = [aEnc (2, c, t, n)] from rfl] at hXH
  have hgl : (as.map aEnc ++ [aEnc (2, c, t, n)]).getLast? = some (aEnc (2, c, t, n)) := List.getLast?_concat ..
  have hde : (as.map aEnc ++ [aEnc (2, c, t, n)]).dropLast = as.map aEnc := List.dropLast_concat ..
  have hc : c < 4 := hvl.1
  obtain ⟨q, hq9, rfl⟩ : ∃ p, p ≤ 99999 ∧ n = nI p := hvl.2
  refine qSem.of (by decide +kernel) (Nat.le_of_ble_eq_true rfl) (fun w => ?_)
  refine R_ls (L' := [(0, .ref 0)]) (qs1 rfl qs0) ?_
  refine R_aload_n dX7_undo_0 rfl ?_
  refine R_getR dX7_undo_1 lg_RX7_47 (by decide) rfl rfl ?_
  refine R_callV (mc := mX1_length) (As := []) (r := 90) dX7_undo_4 lm_RX7_155 mv_X1_length rfl (by decide) rfl rfl rfl rfl (Nat.le_of_ble_eq_true rfl) (c_hlen hXH) ?_
  rintro _ _ ⟨rfl, rfl⟩
  refine R_top (y := nI (as.length + 1)) (by rw [List.length_append, List.length_map]; rfl) ?_
  refine R_if_neN (tgt := 13) dX7_undo_7 (by decide) (by have := (XH_len hXH).2; rw [List.length_append, List.length_map] at this; simp at this; omega) (fun h_7 => ?_) (fun h_7 => by exact absurd h_7 (by omega))
  refine R_aload_n dX7_undo_13 rfl ?_
  refine R_getR dX7_undo_14 lg_RX7_47 (by decide) rfl rfl ?_
  refine R_iconst (v := nI 1) dX7_undo_17 rfl ?_
  refine R_callV (mc := mX1_latest) (As := [_]) (r := 90) dX7_undo_18 lm_RX7_156 mv_X1_latest rfl (by decide) rfl rfl rfl rfl (Nat.le_of_ble_eq_true rfl) (c_latest hXH hgl (by omega)) ?_
  rintro _ _ ⟨rfl, rfl⟩
  refine R_top (y := nI c) rfl ?_
  refine R_istore_n (L' := [(0, .ref 0), (1, .int (nI c))]) dX7_undo_21 (by decide) (qs1 rfl (qs1 rfl qs0)) ?_
  refine R_aload_n dX7_undo_22 rfl ?_
  refine R_getR dX7_undo_23 lg_RX7_47 (by decide) rfl rfl ?_
  refine R_iconst (v := nI 2) dX7_undo_26 rfl ?_
  refine R_callV (mc := mX1_latest) (As := [_]) (r := 90) dX7_undo_27 lm_RX7_156 mv_X1_latest rfl (by decide) rfl rfl rfl rfl (Nat.le_of_ble_eq_true rfl) (c_latest hXH hgl (by omega)) ?_
  rintro _ _ ⟨rfl, rfl⟩
  refine R_top (y := nI t) rfl ?_
  refine R_istore_n (L' := [(0, .ref 0), (1, .int (nI c)), (2, .int (nI t))]) dX7_undo_30 (by decide) (qs1 rfl (qs1 rfl (qs1 rfl qs0))) ?_
  refine R_aload_n dX7_undo_31 rfl ?_
  refine R_getR dX7_undo_32 lg_RX7_47 (by decide) rfl rfl ?_
  refine R_iconst (v := nI 3) dX7_undo_35 rfl ?_
  refine R_callV (mc := mX1_latest) (As := [_]) (r := 90) dX7_undo_36 lm_RX7_156 mv_X1_latest rfl (by decide) rfl rfl rfl rfl (Nat.le_of_ble_eq_true rfl) (c_latest hXH hgl (by omega)) ?_
  rintro _ _ ⟨rfl, rfl⟩
  refine R_top (y := nI q) rfl ?_
  refine R_istore_n (L' := [(0, .ref 0), (1, .int (nI c)), (2, .int (nI t)), (3, .int (nI q))]) dX7_undo_39 (by decide) (qs1 rfl (qs1 rfl (qs1 rfl (qs1 rfl qs0)))) ?_
  refine R_aload_n dX7_undo_40 rfl ?_
  refine R_getR dX7_undo_41 lg_RX7_47 (by decide) rfl rfl ?_
  refine R_iconst (v := nI 0) dX7_undo_44 rfl ?_
  refine R_callV (mc := mX1_latest) (As := [_]) (r := 90) dX7_undo_45 lm_RX7_156 mv_X1_latest rfl (by decide) rfl rfl rfl rfl (Nat.le_of_ble_eq_true rfl) (c_latest hXH hgl (by omega)) ?_
  rintro _ _ ⟨rfl, rfl⟩
  refine R_top (y := nI 2) rfl ?_
  refine R_tableIn (off := 52) (tgt := 100) dX7_undo_48 (by decide) (by decide) rfl (by decide) ?_
  refine R_aload_n dX7_undo_100 rfl ?_
  refine R_getR dX7_undo_101 lg_RX7_19 (by decide) rfl rfl ?_
  refine R_iload_n dX7_undo_104 rfl ?_
  refine R_iload_n dX7_undo_105 rfl ?_
  refine R_callV (mc := mX3_setRule) (As := [_, _]) (r := 14) dX7_undo_106 lm_RX7_144 mv_X3_setRule rfl (by decide) rfl rfl rfl rfl (Nat.le_of_ble_eq_true rfl) (c_setRule_14 hc) ?_
  rintro _ _ ⟨rfl, rfl⟩
  refine R_goto (tgt := 130) dX7_undo_109 (by decide) ?_
  refine R_aload_n dX7_undo_130 rfl ?_
  refine R_getR dX7_undo_131 lg_RX7_47 (by decide) rfl rfl ?_
  refine R_callV (mc := mX1_dropLatest) (As := []) (r := 90) dX7_undo_134 lm_RX7_165 mv_X1_dropLatest rfl (by decide) rfl rfl rfl rfl (Nat.le_of_ble_eq_true rfl) (c_hdrop (hXH.off (fun o a b => by rw [qIs_no (by omega), qIs_no (by omega)])) (by rw [List.length_append]; exact Nat.succ_pos _)) ?_
  rintro _ _ ⟨rfl, hH, hO⟩
  rw [hde] at hH
  refine R_aload_n dX7_undo_137 rfl ?_
  refine R_getR dX7_undo_138 lg_RX7_47 (by decide) rfl rfl ?_
  refine R_callV (mc := mX1_length) (As := []) (r := 90) dX7_undo_141 lm_RX7_155 mv_X1_length rfl (by decide) rfl rfl rfl rfl (Nat.le_of_ble_eq_true rfl) (c_hlen hH) ?_
  rintro _ _ ⟨rfl, rfl⟩
  refine R_ireturn dX7_undo_144 rfl rfl ?_
  have hlen : (sA s).length - 1 = as.length := by rw [hA]; simp
  have hru : rUndo s = (nI as.length, chU s (2, c, t, nI q)) := by unfold rUndo; rw [hA, List.getLast?_concat]; simp
  rw [hru]
  refine ⟨by simp, ?_⟩
  refine XI_un hI hvb hA (P := _) (XR.off (d := (und (2, c, t, nI q) (sD s, sG s)).1) ((show XR 14 _ (setR (sD s) c (nI q).toNatClampNeg) by rw [nI_clamp (by omega)]; exact XR_rul hX hK6 hc)) hK6 (fun o a b => (hO o (by unfold oHi; omega)).1)) (fun o h9 => by rw [(hO o (by unfold oHi; omega)).1, qIs_no (by omega), qIs_no (by omega)]) (fun o h9 => by rw [(hO o (by unfold oHi; omega)).2]; rfl) (by rw [(hO 14 (by unfold oHi; omega)).1, qIs_eq]) hH (hI.2.2.2.2.2.1.off (fun o a b => by rw [(hO o (by unfold oHi; omega)).1, qIs_no (by omega), qIs_no (by omega)]))
set_option maxRecDepth 100000 in
set_option maxHeartbeats 4000000 in
theorem o_undo3 {vb : Nat} {M : qMem} {s : sT} (hI : XI vb M s) (hvb : vb < 2000000000) {as : List aT} {c t : Nat} {n : Int32} (hA : sA s = as ++ [(3, c, t, n)]) : qSem 0 mX7_undo [.ref 0] M (fun r N => r = some (.int (rUndo s).1) ∧ XI (vb + 1) N (rUndo s).2) := by
  have hX := hI.1
  have hB := hI.2.1
  have hK6 := hB.2.1
  have hY16 := hB.1
  have hv := hI.2.2.2.2.2.2.2.2.2
  rw [hA, List.reverse_append] at hv
  have hvl : vld (3, c, t, n) (sD s, sG s) := hv.1
  have hXH := hI.2.2.2.2.1
  rw [hA, List.map_append, show List.map aEnc [(3, c, t, n)] = [aEnc (3, c, t, n)] from rfl] at hXH
  have hgl : (as.map aEnc ++ [aEnc (3, c, t, n)]).getLast? = some (aEnc (3, c, t, n)) := List.getLast?_concat ..
  have hde : (as.map aEnc ++ [aEnc (3, c, t, n)]).dropLast = as.map aEnc := List.dropLast_concat ..
  have hc : c < dK (sD s) := hvl.1
  have ht : t ≤ 16 := hvl.2.1
  have hg0 : 0 < (sG s).length := hvl.2.2
  refine qSem.of (by decide +kernel) (Nat.le_of_ble_eq_true rfl) (fun w => ?_)
  refine R_ls (L' := [(0, .ref 0)]) (qs1 rfl qs0) ?_
  refine R_aload_n dX7_undo_0 rfl ?_
  refine R_getR dX7_undo_1 lg_RX7_47 (by decide) rfl rfl ?_
  refine R_callV (mc := mX1_length) (As := []) (r := 90) dX7_undo_4 lm_RX7_155 mv_X1_length rfl (by decide) rfl rfl rfl rfl (Nat.le_of_ble_eq_true rfl) (c_hlen hXH) ?_
  rintro _ _ ⟨rfl, rfl⟩
  refine R_top (y := nI (as.length + 1)) (by rw [List.length_append, List.length_map]; rfl) ?_
  refine R_if_neN (tgt := 13) dX7_undo_7 (by decide) (by have := (XH_len hXH).2; rw [List.length_append, List.length_map] at this; simp at this; omega) (fun h_7 => ?_) (fun h_7 => by exact absurd h_7 (by omega))
  refine R_aload_n dX7_undo_13 rfl ?_
  refine R_getR dX7_undo_14 lg_RX7_47 (by decide) rfl rfl ?_
  refine R_iconst (v := nI 1) dX7_undo_17 rfl ?_
  refine R_callV (mc := mX1_latest) (As := [_]) (r := 90) dX7_undo_18 lm_RX7_156 mv_X1_latest rfl (by decide) rfl rfl rfl rfl (Nat.le_of_ble_eq_true rfl) (c_latest hXH hgl (by omega)) ?_
  rintro _ _ ⟨rfl, rfl⟩
  refine R_top (y := nI c) rfl ?_
  refine R_istore_n (L' := [(0, .ref 0), (1, .int (nI c))]) dX7_undo_21 (by decide) (qs1 rfl (qs1 rfl qs0)) ?_
  refine R_aload_n dX7_undo_22 rfl ?_
  refine R_getR dX7_undo_23 lg_RX7_47 (by decide) rfl rfl ?_
  refine R_iconst (v := nI 2) dX7_undo_26 rfl ?_
  refine R_callV (mc := mX1_latest) (As := [_]) (r := 90) dX7_undo_27 lm_RX7_156 mv_X1_latest rfl (by decide) rfl rfl rfl rfl (Nat.le_of_ble_eq_true rfl) (c_latest hXH hgl (by omega)) ?_
  rintro _ _ ⟨rfl, rfl⟩
  refine R_top (y := nI t) rfl ?_
  refine R_istore_n (L' := [(0, .ref 0), (1, .int (nI c)), (2, .int (nI t))]) dX7_undo_30 (by decide) (qs1 rfl (qs1 rfl (qs1 rfl qs0))) ?_
  refine R_aload_n dX7_undo_31 rfl ?_
  refine R_getR dX7_undo_32 lg_RX7_47 (by decide) rfl rfl ?_
  refine R_iconst (v := nI 3) dX7_undo_35 rfl ?_
  refine R_callV (mc := mX1_latest) (As := [_]) (r := 90) dX7_undo_36 lm_RX7_156 mv_X1_latest rfl (by decide) rfl rfl rfl rfl (Nat.le_of_ble_eq_true rfl) (c_latest hXH hgl (by omega)) ?_
  rintro _ _ ⟨rfl, rfl⟩
  refine R_top (y := n) rfl ?_
  refine R_istore_n (L' := [(0, .ref 0), (1, .int (nI c)), (2, .int (nI t)), (3, .int (n))]) dX7_undo_39 (by decide) (qs1 rfl (qs1 rfl (qs1 rfl (qs1 rfl qs0)))) ?_
  refine R_aload_n dX7_undo_40 rfl ?_
  refine R_getR dX7_undo_41 lg_RX7_47 (by decide) rfl rfl ?_
  refine R_iconst (v := nI 0) dX7_undo_44 rfl ?_
  refine R_callV (mc := mX1_latest) (As := [_]) (r := 90) dX7_undo_45 lm_RX7_156 mv_X1_latest rfl (by decide) rfl rfl rfl rfl (Nat.le_of_ble_eq_true rfl) (c_latest hXH hgl (by omega)) ?_
  rintro _ _ ⟨rfl, rfl⟩
  refine R_top (y := nI 3) rfl ?_
  refine R_tableOut (tgt := 112) dX7_undo_48 (by decide) (by decide) ?_
  refine R_aload_n dX7_undo_112 rfl ?_
  refine R_getR dX7_undo_113 lg_RX7_19 (by decide) rfl rfl ?_
  refine R_iload_n dX7_undo_116 rfl ?_
  refine R_iload_n dX7_undo_117 rfl ?_
  refine R_iload_n dX7_undo_118 rfl ?_
  refine R_ineg dX7_undo_119 ?_
  refine R_callV (mc := mX3_shiftEarlier) (As := [_, _, _]) (r := 14) dX7_undo_120 lm_RX7_159 mv_X3_shiftEarlier rfl (by decide) rfl rfl rfl rfl (Nat.le_of_ble_eq_true rfl) (c_shift (by omega) ht) ?_
  rintro _ _ ⟨rfl, rfl⟩
  refine R_aload_n dX7_undo_123 rfl ?_
  refine R_getR dX7_undo_124 lg_RX7_54 (by decide) rfl rfl ?_
  refine R_callV (mc := mX2_dropLast) (As := []) (r := 96) dX7_undo_127 lm_RX7_162 mv_X2_dropLast rfl (by decide) rfl rfl rfl rfl (Nat.le_of_ble_eq_true rfl) (c_gdrop (h := sG s) (hI.2.2.2.2.2.1.off (fun o a b => by rw [qIs_no (by omega), qShift_no (by omega)])) hg0) ?_
  rintro _ _ ⟨rfl, hL3, hO3⟩
  refine R_aload_n dX7_undo_130 rfl ?_
  refine R_getR dX7_undo_131 lg_RX7_47 (by decide) rfl rfl ?_
  refine R_callV (mc := mX1_dropLatest) (As := []) (r := 90) dX7_undo_134 lm_RX7_165 mv_X1_dropLatest rfl (by decide) rfl rfl rfl rfl (Nat.le_of_ble_eq_true rfl) (c_hdrop (hXH.off (fun o a b => by rw [(hO3 o (by unfold oLe; omega)).1, qIs_no (by omega), qShift_no (by omega)])) (by rw [List.length_append]; exact Nat.succ_pos _)) ?_
  rintro _ _ ⟨rfl, hH, hO⟩
  rw [hde] at hH
  refine R_aload_n dX7_undo_137 rfl ?_
  refine R_getR dX7_undo_138 lg_RX7_47 (by decide) rfl rfl ?_
  refine R_callV (mc := mX1_length) (As := []) (r := 90) dX7_undo_141 lm_RX7_155 mv_X1_length rfl (by decide) rfl rfl rfl rfl (Nat.le_of_ble_eq_true rfl) (c_hlen hH) ?_
  rintro _ _ ⟨rfl, rfl⟩
  refine R_ireturn dX7_undo_144 rfl rfl ?_
  have hlen : (sA s).length - 1 = as.length := by rw [hA]; simp
  have hru : rUndo s = (nI as.length, chU s (3, c, t, n)) := by unfold rUndo; rw [hA, List.getLast?_concat]; simp
  rw [hru]
  refine ⟨by simp, ?_⟩
  refine XI_un hI hvb hA (P := _) (XR.off (d := (und (3, c, t, n) (sD s, sG s)).1) (XR_shf hX hB hc) hK6 (fun o a b => ((hO o (by unfold oHi; omega)).1).trans (hO3 o (by unfold oLe; omega)).1)) (fun o h9 => by rw [(hO o (by unfold oHi; omega)).1, (hO3 o (by unfold oLe; omega)).1, qIs_no (by omega), qShift_no (by omega)]) (fun o h9 => by rw [(hO o (by unfold oHi; omega)).2, (hO3 o (by unfold oLe; omega)).2]; rfl) (by rw [(hO 14 (by unfold oHi; omega)).1, (hO3 14 (by unfold oLe; omega)).1, qIs_eq]) hH (hL3.off (fun o a b => by rw [(hO o (by unfold oHi; omega)).1]))
set_option maxRecDepth 100000 in
set_option maxHeartbeats 4000000 in
theorem undo_0 {vb : Nat} {M : qMem} {s : sT} (hI : XI vb M s) (h : sA s = []) : qSem 0 mX7_undo [.ref 0] M (fun r N => r = some (.int (rUndo s).1) ∧ XI (vb + 1) N (rUndo s).2) := by
  have hXH := hI.2.2.2.2.1
  have hru : rUndo s = (-2, s) := by unfold rUndo; rw [h]; rfl
  rw [hru]
  rw [h] at hXH
  refine qSem.of (by decide +kernel) (Nat.le_of_ble_eq_true rfl) (fun w => ?_)
  refine R_ls (L' := [(0, .ref 0)]) (qs1 rfl qs0) ?_
  refine R_aload_n dX7_undo_0 rfl ?_
  refine R_getR dX7_undo_1 lg_RX7_47 (by decide) rfl rfl ?_
  refine R_callV (mc := mX1_length) (As := []) (r := 90) dX7_undo_4 lm_RX7_155 mv_X1_length rfl (by decide) rfl rfl rfl rfl (Nat.le_of_ble_eq_true rfl) (c_hlen hXH) ?_
  rintro _ _ ⟨rfl, rfl⟩
  refine R_top (y := nI 0) rfl ?_
  refine R_if_neN (tgt := 13) dX7_undo_7 (by decide) (by omega) (fun h_7 => by exact absurd h_7 (by decide)) (fun h_7 => ?_)
  refine R_bipush (v := -2) dX7_undo_10 rfl ?_
  refine R_ireturn dX7_undo_12 rfl rfl ?_
  exact ⟨rfl, hI.mono (by omega)⟩

theorem o_undo {vb : Nat} {M : qMem} {s : sT} (hI : XI vb M s) (hvb : vb < 2000000000) : qSem 0 mX7_undo [.ref 0] M (fun r N => r = some (.int (rUndo s).1) ∧ XI (vb + 1) N (rUndo s).2) := by
  rcases List.eq_nil_or_concat (sA s) with h | ⟨as, a, h⟩
  · exact undo_0 hI h
  · have hv := hI.2.2.2.2.2.2.2.2.2
    rw [List.concat_eq_append] at h
    rw [h, List.reverse_append] at hv
    have hvl := hv.1
    obtain ⟨k, c, t, n⟩ := a
    rcases k with _ | _ | _ | _ | k
    · exact o_undo0 hI hvb h
    · exact o_undo1 hI hvb h
    · exact o_undo2 hI hvb h
    · exact o_undo3 hI hvb h
    · exact absurd hvl (fun z => z)

theorem eS_f {d : dT} {c t q : Nat} (h : eOk d c t q = false) : eSum d c t (q + 1) = eSum d c t q ∧ eNum d c t (q + 1) = eNum d c t q := by
  refine ⟨?_, ?_⟩
  · show (if eOk d c t q then _ else _) = _; rw [h]; rfl
  · show (if eOk d c t q then _ else _) = _; rw [h]; rfl
theorem eS_t {d : dT} {c t q : Nat} {v : Int32} (h : eOk d c t q = true) (hv : dV d q t = some v) : eSum d c t (q + 1) = eSum d c t q + (720720 * v.toInt64 + mea (ser d c q) 0 (ser d c q).length) ∧ eNum d c t (q + 1) = eNum d c t q + 1 := by
  refine ⟨?_, ?_⟩
  · show (if eOk d c t q then _ else _) = _; rw [h]; unfold eVal; rw [hv]; rfl
  · show (if eOk d c t q then _ else _) = _; rw [h]; rfl
set_option maxRecDepth 100000 in
set_option maxHeartbeats 4000000 in
theorem l_est {w : qWT} {vb : Nat} {M : qMem} {s : sT} (hI : XI vb M s) {cc ct : Nat} (hcc : cc < dK (sD s)) (hct : ct < dY (sD s)) : ∀ (fu : Nat) (i : Nat) (K : qMem), (dK (sD s) + 1 - i) < fu → (i ≤ dK (sD s)) → (XI vb K s) → qRW 0 w mX7_estimate 37 [(0, .ref 0), (1, .int (nI cc)), (2, .int (nI ct)), (3, .long (eSum (sD s) cc ct i)), (5, .int (nI (eNum (sD s) cc ct i))), (6, .int (nI i))] [] K (fun r N => r = some (.int (if eNum (sD s) cc ct (dK (sD s)) = 0 then -4 else eRes (sD s) cc ct + nI 100000)) ∧ XI vb N s) := by
  intro fu
  induction fu with
  | zero => intro i K hn; exact absurd hn (Nat.not_lt_zero _)
  | succ fu ih =>
    intro i K hn hi hIK
    have hX := hIK.1
    have hB := hIK.2.1
    have hK6 := hB.2.1
    have hY16 := hB.1
    have hZ := hIK.2.2.2.1
    have hn6 := eNum_le (sD s) cc ct i
    refine R_iload dX7_estimate_37 rfl ?_
    refine R_aload_n dX7_estimate_39 rfl ?_
    refine R_getR dX7_estimate_40 lg_RX7_19 (by decide) rfl rfl ?_
    refine R_callV (mc := mX3_stations) (As := []) (r := 14) dX7_estimate_43 lm_RX7_88 mv_X3_stations rfl (by decide) rfl rfl rfl rfl (Nat.le_of_ble_eq_true rfl) c_stations_14 ?_
    rintro _ _ ⟨rfl, rfl⟩
    refine R_top (y := nI (dK (sD s))) hX.2.1 ?_
    refine R_icmp_geN (tgt := 148) dX7_estimate_46 (by decide) (by omega) (by omega) (fun h_46 => ?_) (fun h_46 => ?_)
    · refine R_iload dX7_estimate_148 rfl ?_
      refine R_if_neN (tgt := 158) dX7_estimate_150 (by decide) (by omega) (fun h_150 => ?_) (fun h_150 => ?_)
      · have e : i = dK (sD s) := by omega
        subst e
        refine R_lload_n dX7_estimate_158 rfl ?_
        refine R_iload dX7_estimate_159 rfl ?_
        refine R_callS (mc := mX7_roundedMean) (As := [_, _]) dX7_estimate_161 lm_RX7_265 mv_X7_roundedMean rfl rfl rfl (Nat.le_of_ble_eq_true rfl) (c_rmean (by omega)) ?_
        rintro _ _ ⟨rfl, rfl⟩
        refine R_ldc (v := nI 100000) dX7_estimate_164 lc_RX7_110 ?_
        refine R_iadd dX7_estimate_166 ?_
        refine R_ireturn dX7_estimate_167 rfl rfl ?_
        exact ⟨by rw [if_neg (by omega)]; rfl, hIK⟩
      · have e : i = dK (sD s) := by omega
        subst e
        refine R_bipush (v := -4) dX7_estimate_153 rfl ?_
        refine R_goto (tgt := 167) dX7_estimate_155 (by decide) ?_
        refine R_ireturn dX7_estimate_167 rfl rfl ?_
        exact ⟨by rw [if_pos (by omega)], hIK⟩
    · refine R_iload dX7_estimate_49 rfl ?_
      refine R_iload_n dX7_estimate_51 rfl ?_
      refine R_icmp_eqN (tgt := 142) dX7_estimate_52 (by decide) (by omega) (by omega) (fun h_52 => ?_) (fun h_52 => ?_)
      · refine R_iincN (n := 1) (L' := [(0, .ref 0), (1, .int (nI cc)), (2, .int (nI ct)), (3, .long (eSum (sD s) cc ct i)), (5, .int (nI (eNum (sD s) cc ct i))), (6, .int (nI (i + 1)))]) dX7_estimate_142 rfl (by decide) (qs1 rfl (qs1 rfl (qs1 rfl (qs1 rfl (qs1 rfl (qs1 rfl qs0)))))) ?_
        refine R_goto (tgt := 37) dX7_estimate_145 (by decide) ?_
        refine R_ls (L' := [(0, .ref 0), (1, .int (nI cc)), (2, .int (nI ct)), (3, .long (eSum (sD s) cc ct i)), (5, .int (nI (eNum (sD s) cc ct i))), (6, .int (nI (i + 1)))]) (qs1 rfl (qs1 rfl (qs1 rfl (qs1 rfl (qs1 rfl (qs1 rfl qs0)))))) ?_
        exact (by have h := ih (i + 1) _ (by omega) (by omega) hIK; have ee : eOk (sD s) cc ct i = false := (by simp [eOk, h_52]); rw [(eS_f ee).1, (eS_f ee).2] at h; exact h)
      · refine R_aload_n dX7_estimate_55 rfl ?_
        refine R_getR dX7_estimate_56 lg_RX7_19 (by decide) rfl rfl ?_
        refine R_iload dX7_estimate_59 rfl ?_
        refine R_iload_n dX7_estimate_61 rfl ?_
        refine R_callV (mc := mX3_has) (As := [_, _]) (r := 14) dX7_estimate_62 lm_RX7_257 mv_X3_has rfl (by decide) rfl rfl rfl rfl (Nat.le_of_ble_eq_true rfl) (c_has_14 (by omega) (by omega)) ?_
        rintro _ _ ⟨rfl, ⟨rfl, hp⟩ | ⟨rfl, hp⟩⟩
        · obtain ⟨v, ev, mv⟩ := (has_ex hX hB (by omega) hct).1.mp hp
          refine R_if_eqN (tgt := 142) dX7_estimate_65 (by decide) (by omega) (fun h_65 => by exact absurd h_65 (by decide)) (fun h_65 => ?_)
          refine R_aload_n dX7_estimate_68 rfl ?_
          refine R_getR dX7_estimate_69 lg_RX7_19 (by decide) rfl rfl ?_
          refine R_iload_n dX7_estimate_72 rfl ?_
          refine R_iload dX7_estimate_73 rfl ?_
          refine R_callV (mc := mX3_arePair) (As := [_, _]) (r := 14) dX7_estimate_75 lm_RX7_189 mv_X3_arePair rfl (by decide) rfl rfl rfl rfl (Nat.le_of_ble_eq_true rfl) (c_arePair hX hB hcc (by omega)) ?_
          rintro _ _ ⟨rfl, ⟨rfl, hq⟩ | ⟨rfl, hq⟩⟩
          · refine R_if_eqN (tgt := 142) dX7_estimate_78 (by decide) (by omega) (fun h_78 => by exact absurd h_78 (by decide)) (fun h_78 => ?_)
            refine R_aload_n dX7_estimate_81 rfl ?_
            refine R_getR dX7_estimate_82 lg_RX7_26 (by decide) rfl rfl ?_
            refine R_aload_n dX7_estimate_85 rfl ?_
            refine R_getR dX7_estimate_86 lg_RX7_19 (by decide) rfl rfl ?_
            refine R_iload_n dX7_estimate_89 rfl ?_
            refine R_iload dX7_estimate_90 rfl ?_
            refine R_callV (mc := mX6_compare) (As := [_, _, _]) (r := 101) dX7_estimate_92 lm_RX7_192 mv_X6_compare rfl (by decide) rfl rfl rfl rfl (Nat.le_of_ble_eq_true rfl) (c_compare_a hX hB hZ.2.1 hcc (by omega)) ?_
            rintro _ _ ⟨rfl, hS, hO1⟩
            have hI1 := hIK.sa hO1 hS.Z
            have hl16 := hS.2.1
            refine R_aload_n dX7_estimate_95 rfl ?_
            refine R_getR dX7_estimate_96 lg_RX7_26 (by decide) rfl rfl ?_
            refine R_callV (mc := mX6_length) (As := []) (r := 101) dX7_estimate_99 lm_RX7_196 mv_X6_length rfl (by decide) rfl rfl rfl rfl (Nat.le_of_ble_eq_true rfl) (c_slen_a hS) ?_
            rintro _ _ ⟨rfl, rfl⟩
            refine R_if_leN (tgt := 142) dX7_estimate_102 (by decide) (by omega) (fun h_102 => ?_) (fun h_102 => ?_)
            · refine R_iincN (n := 1) (L' := [(0, .ref 0), (1, .int (nI cc)), (2, .int (nI ct)), (3, .long (eSum (sD s) cc ct i)), (5, .int (nI (eNum (sD s) cc ct i))), (6, .int (nI (i + 1)))]) dX7_estimate_142 rfl (by decide) (qs1 rfl (qs1 rfl (qs1 rfl (qs1 rfl (qs1 rfl (qs1 rfl qs0)))))) ?_
              refine R_goto (tgt := 37) dX7_estimate_145 (by decide) ?_
              refine R_ls (L' := [(0, .ref 0), (1, .int (nI cc)), (2, .int (nI ct)), (3, .long (eSum (sD s) cc ct i)), (5, .int (nI (eNum (sD s) cc ct i))), (6, .int (nI (i + 1)))]) (qs1 rfl (qs1 rfl (qs1 rfl (qs1 rfl (qs1 rfl (qs1 rfl qs0)))))) ?_
              exact (by have h := ih (i + 1) _ (by omega) (by omega) hI1; have ee : eOk (sD s) cc ct i = false := (by unfold eOk; rw [decide_eq_false (show ¬ 0 < (ser (sD s) cc i).length by omega)]; simp); rw [(eS_f ee).1, (eS_f ee).2] at h; exact h)
            · refine R_lload_n dX7_estimate_105 rfl ?_
              refine R_ldc2 dX7_estimate_106 lc_RX7_260 ?_
              refine R_aload_n dX7_estimate_109 rfl ?_
              refine R_getR dX7_estimate_110 lg_RX7_19 (by decide) rfl rfl ?_
              refine R_iload dX7_estimate_113 rfl ?_
              refine R_iload_n dX7_estimate_115 rfl ?_
              refine R_callV (mc := mX3_at) (As := [_, _]) (r := 14) dX7_estimate_116 lm_RX7_101 mv_X3_at rfl (by decide) rfl rfl rfl rfl (Nat.le_of_ble_eq_true rfl) (c_at_14 (by omega) (by omega)) ?_
              rintro _ _ ⟨rfl, rfl⟩
              refine R_top (y := v) ((hI1.1.2.2.2.2.1 i ct (by omega) hct).trans (by rw [ev]; rfl)) ?_
              refine R_i2l dX7_estimate_119 ?_
              refine R_lmul dX7_estimate_120 ?_
              refine R_aload_n dX7_estimate_121 rfl ?_
              refine R_getR dX7_estimate_122 lg_RX7_26 (by decide) rfl rfl ?_
              refine R_iconst (v := nI 0) dX7_estimate_125 rfl ?_
              refine R_aload_n dX7_estimate_126 rfl ?_
              refine R_getR dX7_estimate_127 lg_RX7_26 (by decide) rfl rfl ?_
              refine R_callV (mc := mX6_length) (As := []) (r := 101) dX7_estimate_130 lm_RX7_196 mv_X6_length rfl (by decide) rfl rfl rfl rfl (Nat.le_of_ble_eq_true rfl) (c_slen_a hS) ?_
              rintro _ _ ⟨rfl, rfl⟩
              refine R_callV (mc := mX6_scaledMean) (As := [_, _]) (r := 101) dX7_estimate_133 lm_RX7_262 mv_X6_scaledMean rfl (by decide) rfl rfl rfl rfl (Nat.le_of_ble_eq_true rfl) (c_mean_a hS (by omega) (by omega)) ?_
              rintro _ _ ⟨rfl, rfl⟩
              refine R_ladd dX7_estimate_136 ?_
              refine R_ladd dX7_estimate_137 ?_
              refine R_lstore_n (L' := [(0, .ref 0), (1, .int (nI cc)), (2, .int (nI ct)), (3, .long _), (5, .int (nI (eNum (sD s) cc ct i))), (6, .int (nI i))]) dX7_estimate_138 (by decide) (qs1 rfl (qs1 rfl (qs1 rfl (qs1 rfl (qs1 rfl (qs1 rfl qs0)))))) ?_
              refine R_iincN (n := 1) (L' := [(0, .ref 0), (1, .int (nI cc)), (2, .int (nI ct)), (3, .long _), (5, .int (nI ((eNum (sD s) cc ct i) + 1))), (6, .int (nI i))]) dX7_estimate_139 rfl (by decide) (qs1 rfl (qs1 rfl (qs1 rfl (qs1 rfl (qs1 rfl (qs1 rfl qs0)))))) ?_
              refine R_iincN (n := 1) (L' := [(0, .ref 0), (1, .int (nI cc)), (2, .int (nI ct)), (3, .long _), (5, .int (nI ((eNum (sD s) cc ct i) + 1))), (6, .int (nI (i + 1)))]) dX7_estimate_142 rfl (by decide) (qs1 rfl (qs1 rfl (qs1 rfl (qs1 rfl (qs1 rfl (qs1 rfl qs0)))))) ?_
              refine R_goto (tgt := 37) dX7_estimate_145 (by decide) ?_
              refine R_ls (L' := [(0, .ref 0), (1, .int (nI cc)), (2, .int (nI ct)), (3, .long _), (5, .int (nI ((eNum (sD s) cc ct i) + 1))), (6, .int (nI (i + 1)))]) (qs1 rfl (qs1 rfl (qs1 rfl (qs1 rfl (qs1 rfl (qs1 rfl qs0)))))) ?_
              exact (by have h := ih (i + 1) _ (by omega) (by omega) hI1; have ee : eOk (sD s) cc ct i = true := (by simp [eOk, ev, hq]; omega); rw [(eS_t ee ev).1, (eS_t ee ev).2] at h; exact h)
          · refine R_if_eqN (tgt := 142) dX7_estimate_78 (by decide) (by omega) (fun h_78 => ?_) (fun h_78 => by exact absurd h_78 (by decide))
            refine R_iincN (n := 1) (L' := [(0, .ref 0), (1, .int (nI cc)), (2, .int (nI ct)), (3, .long (eSum (sD s) cc ct i)), (5, .int (nI (eNum (sD s) cc ct i))), (6, .int (nI (i + 1)))]) dX7_estimate_142 rfl (by decide) (qs1 rfl (qs1 rfl (qs1 rfl (qs1 rfl (qs1 rfl (qs1 rfl qs0)))))) ?_
            refine R_goto (tgt := 37) dX7_estimate_145 (by decide) ?_
            refine R_ls (L' := [(0, .ref 0), (1, .int (nI cc)), (2, .int (nI ct)), (3, .long (eSum (sD s) cc ct i)), (5, .int (nI (eNum (sD s) cc ct i))), (6, .int (nI (i + 1)))]) (qs1 rfl (qs1 rfl (qs1 rfl (qs1 rfl (qs1 rfl (qs1 rfl qs0)))))) ?_
            exact (by have h := ih (i + 1) _ (by omega) (by omega) hIK; have ee : eOk (sD s) cc ct i = false := (by simp [eOk, hq]); rw [(eS_f ee).1, (eS_f ee).2] at h; exact h)
        · have ev := (has_ex hX hB (by omega) hct).2.mp (Decidable.not_not.mp hp)
          refine R_if_eqN (tgt := 142) dX7_estimate_65 (by decide) (by omega) (fun h_65 => ?_) (fun h_65 => by exact absurd h_65 (by decide))
          refine R_iincN (n := 1) (L' := [(0, .ref 0), (1, .int (nI cc)), (2, .int (nI ct)), (3, .long (eSum (sD s) cc ct i)), (5, .int (nI (eNum (sD s) cc ct i))), (6, .int (nI (i + 1)))]) dX7_estimate_142 rfl (by decide) (qs1 rfl (qs1 rfl (qs1 rfl (qs1 rfl (qs1 rfl (qs1 rfl qs0)))))) ?_
          refine R_goto (tgt := 37) dX7_estimate_145 (by decide) ?_
          refine R_ls (L' := [(0, .ref 0), (1, .int (nI cc)), (2, .int (nI ct)), (3, .long (eSum (sD s) cc ct i)), (5, .int (nI (eNum (sD s) cc ct i))), (6, .int (nI (i + 1)))]) (qs1 rfl (qs1 rfl (qs1 rfl (qs1 rfl (qs1 rfl (qs1 rfl qs0)))))) ?_
          exact (by have h := ih (i + 1) _ (by omega) (by omega) hIK; have ee : eOk (sD s) cc ct i = false := (by simp [eOk, ev]); rw [(eS_f ee).1, (eS_f ee).2] at h; exact h)
set_option maxRecDepth 100000 in
set_option maxHeartbeats 4000000 in
theorem c_est {vb : Nat} {M : qMem} {s : sT} (hI : XI vb M s) {c t : Int32} : qSem 0 mX7_estimate [.ref 0, .int (c), .int (t)] M (fun r N => r = some (.int (aEst (sD s) c t)) ∧ XI vb N s) := by
  have hX := hI.1
  have hB := hI.2.1
  have hK6 := hB.2.1
  have hY16 := hB.1
  have hZ := hI.2.2.2.1
  refine qSem.of (by decide +kernel) (Nat.le_of_ble_eq_true rfl) (fun w => ?_)
  refine R_ls (L' := [(0, .ref 0), (1, .int (c)), (2, .int (t))]) (qs1 rfl (qs1 rfl (qs1 rfl qs0))) ?_
  refine R_aload_n dX7_estimate_0 rfl ?_
  refine R_getR dX7_estimate_1 lg_RX7_19 (by decide) rfl rfl ?_
  refine R_iload_n dX7_estimate_4 rfl ?_
  refine R_iload_n dX7_estimate_5 rfl ?_
  refine R_callV (mc := mX3_knows) (As := [_, _]) (r := 14) dX7_estimate_6 lm_RX7_97 mv_X3_knows rfl (by decide) rfl rfl rfl rfl (Nat.le_of_ble_eq_true rfl) c_knows ?_
  rintro _ _ ⟨rfl, ⟨rfl, hk⟩ | ⟨rfl, hk⟩⟩
  · rw [hX.1, hX.2.1] at hk
    have hk2 : ck (sD s) c t := hk
    obtain ⟨⟨cc, hcc, rfl⟩, ⟨ct, hct, rfl⟩⟩ : (∃ j, j < dK (sD s) ∧ c = nI j) ∧ (∃ j, j < dY (sD s) ∧ t = nI j) := ⟨inN_o (by omega) hk2.1, inN_o (by omega) hk2.2⟩
    refine R_if_neN (tgt := 14) dX7_estimate_9 (by decide) (by omega) (fun h_9 => ?_) (fun h_9 => by exact absurd h_9 (by decide))
    refine R_aload_n dX7_estimate_14 rfl ?_
    refine R_getR dX7_estimate_15 lg_RX7_19 (by decide) rfl rfl ?_
    refine R_iload_n dX7_estimate_18 rfl ?_
    refine R_iload_n dX7_estimate_19 rfl ?_
    refine R_callV (mc := mX3_has) (As := [_, _]) (r := 14) dX7_estimate_20 lm_RX7_257 mv_X3_has rfl (by decide) rfl rfl rfl rfl (Nat.le_of_ble_eq_true rfl) (c_has_14 (by omega) (by omega)) ?_
    rintro _ _ ⟨rfl, ⟨rfl, hp⟩ | ⟨rfl, hp⟩⟩
    · obtain ⟨v, ev, mv⟩ := (has_ex hX hB hcc hct).1.mp hp
      refine R_if_eqN (tgt := 29) dX7_estimate_23 (by decide) (by omega) (fun h_23 => by exact absurd h_23 (by decide)) (fun h_23 => ?_)
      refine R_bipush (v := -2) dX7_estimate_26 rfl ?_
      refine R_ireturn dX7_estimate_28 rfl rfl ?_
      exact ⟨by unfold aEst; rw [if_pos hk2, kn_n (by omega), kn_n (by omega), if_pos (by rw [ev]; rfl)], hI⟩
    · have ev := (has_ex hX hB hcc hct).2.mp (Decidable.not_not.mp hp)
      refine R_if_eqN (tgt := 29) dX7_estimate_23 (by decide) (by omega) (fun h_23 => ?_) (fun h_23 => by exact absurd h_23 (by decide))
      refine R_lconst (v := 0) dX7_estimate_29 rfl ?_
      refine R_lstore_n (L' := [(0, .ref 0), (1, .int (nI cc)), (2, .int (nI ct)), (3, .long (0))]) dX7_estimate_30 (by decide) (qs1 rfl (qs1 rfl (qs1 rfl (qs1 rfl qs0)))) ?_
      refine R_iconst (v := nI 0) dX7_estimate_31 rfl ?_
      refine R_istore (L' := [(0, .ref 0), (1, .int (nI cc)), (2, .int (nI ct)), (3, .long (0)), (5, .int (nI 0))]) dX7_estimate_32 (by decide) (qs1 rfl (qs1 rfl (qs1 rfl (qs1 rfl (qs1 rfl qs0))))) ?_
      refine R_iconst (v := nI 0) dX7_estimate_34 rfl ?_
      refine R_istore (L' := [(0, .ref 0), (1, .int (nI cc)), (2, .int (nI ct)), (3, .long (0)), (5, .int (nI 0)), (6, .int (nI 0))]) dX7_estimate_35 (by decide) (qs1 rfl (qs1 rfl (qs1 rfl (qs1 rfl (qs1 rfl (qs1 rfl qs0)))))) ?_
      rw [show aEst (sD s) (nI cc) (nI ct) = (if eNum (sD s) cc ct (dK (sD s)) = 0 then -4 else eRes (sD s) cc ct + nI 100000) from by unfold aEst; rw [if_pos hk2, kn_n (by omega), kn_n (by omega), if_neg (by rw [ev]; decide)]]
      refine R_ls (L' := [(0, .ref 0), (1, .int (nI cc)), (2, .int (nI ct)), (3, .long (0)), (5, .int (nI 0)), (6, .int (nI 0))]) (qs1 rfl (qs1 rfl (qs1 rfl (qs1 rfl (qs1 rfl (qs1 rfl qs0)))))) ?_
      exact (l_est hI hcc hct (dK (sD s) + 2) 0 M (by omega) (Nat.zero_le _) hI)
  · rw [hX.1, hX.2.1] at hk
    have hk2 : ¬ ck (sD s) c t := hk
    refine R_if_neN (tgt := 14) dX7_estimate_9 (by decide) (by omega) (fun h_9 => by exact absurd h_9 (by decide)) (fun h_9 => ?_)
    refine R_iconst (v := -1) dX7_estimate_12 rfl ?_
    refine R_ireturn dX7_estimate_13 rfl rfl ?_
    exact ⟨by unfold aEst; rw [if_neg hk2], hI⟩
set_option maxRecDepth 100000 in
set_option maxHeartbeats 4000000 in
theorem o_made {vb : Nat} {M : qMem} {s : sT} (hI : XI vb M s) {c t : Int32} : qSem 0 mX7_made [.ref 0, .int (c), .int (t)] M (fun r N => r = some (.int (aEst (sD s) c t)) ∧ XI vb N s) := by
  refine qSem.of (by decide +kernel) (Nat.le_of_ble_eq_true rfl) (fun w => ?_)
  refine R_ls (L' := [(0, .ref 0), (1, .int (c)), (2, .int (t))]) (qs1 rfl (qs1 rfl (qs1 rfl qs0))) ?_
  refine R_aload_n dX7_made_0 rfl ?_
  refine R_iload_n dX7_made_1 rfl ?_
  refine R_iload_n dX7_made_2 rfl ?_
  refine R_callV (mc := mX7_estimate) (As := [_, _]) (r := 0) dX7_made_3 lm_RX7_254 mv_X7_estimate rfl (by decide) rfl rfl rfl rfl (Nat.le_of_ble_eq_true rfl) (c_est hI) ?_
  rintro _ _ ⟨rfl, hI2⟩
  refine R_ireturn dX7_made_6 rfl rfl ?_
  exact ⟨rfl, hI2⟩

theorem aEst_ck {d : dT} {c t : Int32} (h : ¬ aEst d c t < 0) : ck d c t ∧ dV d (kn c) (kn t) = none := by
  unfold aEst at h
  split at h
  · rename_i h1
    split at h
    · exact absurd (by decide) h
    · rename_i h2
      refine ⟨h1, ?_⟩
      cases e : dV d (kn c) (kn t) with
      | none => rfl
      | some v => rw [e] at h2; exact absurd rfl h2
  · exact absurd (by decide) h
set_option maxRecDepth 100000 in
set_option maxHeartbeats 4000000 in
theorem o_make {vb : Nat} {M : qMem} {s : sT} (hI : XI vb M s) (hvb : vb < 2000000000) {c t : Int32} : qSem 0 mX7_make [.ref 0, .int (c), .int (t)] M (fun r N => r = some (.int (rMake s c t).1) ∧ XI (vb + 1) N (rMake s c t).2) := by
  refine qSem.of (by decide +kernel) (Nat.le_of_ble_eq_true rfl) (fun w => ?_)
  refine R_ls (L' := [(0, .ref 0), (1, .int (c)), (2, .int (t))]) (qs1 rfl (qs1 rfl (qs1 rfl qs0))) ?_
  refine R_aload_n dX7_make_0 rfl ?_
  refine R_iload_n dX7_make_1 rfl ?_
  refine R_iload_n dX7_make_2 rfl ?_
  refine R_callV (mc := mX7_estimate) (As := [_, _]) (r := 0) dX7_make_3 lm_RX7_254 mv_X7_estimate rfl (by decide) rfl rfl rfl rfl (Nat.le_of_ble_eq_true rfl) (c_est hI) ?_
  rintro _ _ ⟨rfl, hI2⟩
  refine R_istore_n (L' := [(0, .ref 0), (1, .int (c)), (2, .int (t)), (3, .int (aEst (sD s) c t))]) dX7_make_6 (by decide) (qs1 rfl (qs1 rfl (qs1 rfl (qs1 rfl qs0)))) ?_
  refine R_iload_n dX7_make_7 rfl ?_
  refine R_if_ge (tgt := 13) dX7_make_8 (by decide) (fun h_8 => ?_) (fun h_8 => ?_)
  · have hge : ¬ aEst (sD s) c t < 0 := by first | exact h_8 | exact Int32.not_lt.mpr h_8
    refine R_iload_n dX7_make_13 rfl ?_
    refine R_ldc (v := nI 100000) dX7_make_14 lc_RX7_110 ?_
    refine R_isub dX7_make_16 ?_
    refine R_callS (mc := mX7_isValue) (As := [_]) dX7_make_17 lm_RX7_111 mv_X7_isValue rfl rfl rfl (Nat.le_of_ble_eq_true rfl) c_isValue ?_
    rintro _ _ ⟨rfl, ⟨rfl, hok⟩ | ⟨rfl, hok⟩⟩
    · have hoi := okv_iff.mp hok
      obtain ⟨hk2, hnn⟩ := aEst_ck hge
      have hB := hI.2.1
      have hK6 := hB.2.1
      have hY16 := hB.1
      obtain ⟨⟨cc, hcc, rfl⟩, ⟨ct, hct, rfl⟩⟩ : (∃ j, j < dK (sD s) ∧ c = nI j) ∧ (∃ j, j < dY (sD s) ∧ t = nI j) := ⟨inN_o (by omega) hk2.1, inN_o (by omega) hk2.2⟩
      refine R_if_neN (tgt := 26) dX7_make_20 (by decide) (by omega) (fun h_20 => ?_) (fun h_20 => by exact absurd h_20 (by decide))
      refine R_aload_n dX7_make_26 rfl ?_
      refine R_iload_n dX7_make_27 rfl ?_
      refine R_iload_n dX7_make_28 rfl ?_
      refine R_iload_n dX7_make_29 rfl ?_
      refine R_ldc (v := nI 100000) dX7_make_30 lc_RX7_110 ?_
      refine R_isub dX7_make_32 ?_
      refine R_callV (mc := mX7_changeValue) (As := [_, _, _]) (r := 0) dX7_make_33 lm_RX7_115 mv_X7_changeValue rfl (by decide) rfl rfl rfl rfl (Nat.le_of_ble_eq_true rfl) (c_chv hI2 hvb (v := some (aEst (sD s) (nI cc) (nI ct) - nI 100000)) hcc hct rfl (fun z e => by cases e; exact hok)) ?_
      rintro _ _ (⟨hq, rfl, rfl⟩ | ⟨hq, rfl, hI9⟩)
      · exact absurd hq (fun e => by rw [kn_n (by omega), kn_n (by omega)] at hnn; rw [hnn] at e; exact okv_X hok e.symm)
      · refine R_pop dX7_make_36 rfl ?_
        refine R_iload_n dX7_make_37 rfl ?_
        refine R_ireturn dX7_make_38 rfl rfl ?_
        refine ⟨?_, ?_⟩ <;> unfold rMake <;> rw [if_neg hge, if_pos hoi]
        rw [kn_n (by omega), kn_n (by omega)]
        exact hI9
    · refine R_if_neN (tgt := 26) dX7_make_20 (by decide) (by omega) (fun h_20 => by exact absurd h_20 (by decide)) (fun h_20 => ?_)
      refine R_bipush (v := -3) dX7_make_23 rfl ?_
      refine R_ireturn dX7_make_25 rfl rfl ?_
      refine ⟨?_, ?_⟩ <;> unfold rMake <;> rw [if_neg hge, if_neg (fun h => hok (okv_iff.mpr h))]
      exact hI2.mono (by omega)
  · have hlt : aEst (sD s) c t < 0 := by first | exact h_8 | exact Int32.not_le.mp h_8
    refine R_iload_n dX7_make_11 rfl ?_
    refine R_ireturn dX7_make_12 rfl rfl ?_
    refine ⟨?_, ?_⟩ <;> unfold rMake <;> rw [if_pos hlt]
    exact hI2.mono (by omega)
