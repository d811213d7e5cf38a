
theorem sOk_md {s : sT} (hs : sOk s) (i : Nat) : sOk (rMd s i).2 := by
  unfold rMd
  cases hx : (cuL (sD s))[i]? with
  | none => exact hs
  | some x =>
    have hl := (List.getElem?_eq_some_iff.mp hx).1
    obtain ⟨x2, h1, h2, h3, h4⟩ := cuL_at hl
    rw [hx] at h1
    cases h1
    show sOk (if 10 ≤ (sG s).length then ((-3 : Int32), s) else if x.2.2.2 = 0 ∨ cnS (sD s) x.1 x.2.2.2 x.2.1 = false then (-2, s) else (nI ((sG s).length + 1), chM s x.1 x.2.1 x.2.2.2)).2
    split
    · exact hs
    · rename_i hg
      split
      · exact hs
      · rename_i hc
        have hcs : cnS (sD s) x.1 x.2.2.2 x.2.1 = true := Bool.not_eq_false _ |>.mp (fun z => hc (Or.inr z))
        obtain ⟨q1, q2, q3, q4, q5, q6⟩ := hs
        refine ⟨dB_shV q1 hcs, q2, q3, HV_add (q0 := (sD s, sG s)) (x := (3, x.1, x.2.1, x.2.2.2)) q4 ?_ ?_ q1, ?_, ?_⟩
        · show (shV (shV (sD s) x.1 x.2.1 x.2.2.2) x.1 x.2.1 (-x.2.2.2), (sG s ++ [(nI x.1, nI x.2.1, x.2.2.2)]).dropLast) = (sD s, sG s)
          rw [shV_back, List.dropLast_concat]
        · exact ⟨h3, by show x.2.1 ≤ 16; have := q1.1; omega, by show 0 < (sG s ++ [(nI x.1, nI x.2.1, x.2.2.2)]).length; rw [List.length_append]; exact Nat.succ_pos _⟩
        · show (hA (sA s) _).length ≤ 8
          rw [(hA_trm _ _).2]; have := trm_8 q5; omega
        · show (sG s ++ [(nI x.1, nI x.2.1, x.2.2.2)]).length ≤ 10
          rw [List.length_append]; show (sG s).length + 1 ≤ 10; omega
set_option maxRecDepth 100000 in
set_option maxHeartbeats 4000000 in
theorem m_mends {w : qWT} {s0 : sT} : ∀ (fu : Nat) (i : Nat) (s : sT) (K : qMem), (13 - i) < fu → (i ≤ 12) → (MI K s) → (sOk s) → (rMends 12 s0 = (i + (rMends (12 - i) s).1, (rMends (12 - i) s).2)) → qRW 1 w mX8_mends 2 [(0, .ref 0), (1, .int (nI i))] [] K (fun r N => r = some (.int (nI ((rMends 12 s0).1))) ∧ MI N (rMends 12 s0).2) := by
  intro fu
  induction fu with
  | zero => intro i s K hn; exact absurd hn (Nat.not_lt_zero _)
  | succ fu ih =>
    intro i s K hn hi hIK hsK hr
    refine R_iload_n dX8_mends_2 rfl ?_
    refine R_bipush (v := nI 12) dX8_mends_3 rfl ?_
    refine R_icmp_geN (tgt := 22) dX8_mends_5 (by decide) (by omega) (by omega) (fun h_5 => ?_) (fun h_5 => ?_)
    · refine R_iload_n dX8_mends_22 rfl ?_
      refine R_ireturn dX8_mends_23 rfl rfl ?_
      have e : i = 12 := by omega
      subst e
      have e2 : rMends (12 - 12) s = (0, s) := rfl
      rw [e2] at hr
      rw [hr]
      exact ⟨rfl, hIK⟩
    · refine R_aload_n dX8_mends_8 rfl ?_
      refine R_iconst (v := nI 0) dX8_mends_9 rfl ?_
      refine R_callV (mc := mX8_mend) (As := [_]) (r := 0) dX8_mends_10 lm_RX8_285 mv_X8_mend rfl (by decide) rfl rfl rfl rfl (Nat.le_of_ble_eq_true rfl) (p_md hIK hsK (i := 0) (by decide)) ?_
      rintro _ _ ⟨rfl, hI2⟩
      obtain ⟨m, hm⟩ : ∃ m, 12 - i = m + 1 := ⟨11 - i, by omega⟩
      refine R_if_le (tgt := 22) dX8_mends_13 (by decide) (fun h_13 => ?_) (fun h_13 => ?_)
      · refine R_iload_n dX8_mends_22 rfl ?_
        refine R_ireturn dX8_mends_23 rfl rfl ?_
        have hn0 : ¬ 0 < (rMd s 0).1 := by first | exact h_13 | exact Int32.not_lt.mpr h_13
        rw [hm, rMends_0 hn0] at hr
        rw [hr]
        rw [rMd_keep hn0] at hI2
        exact ⟨rfl, hI2⟩
      · refine R_iincN (n := 1) (L' := [(0, .ref 0), (1, .int (nI (i + 1)))]) dX8_mends_16 rfl (by decide) (qs1 rfl (qs1 rfl qs0)) ?_
        refine R_goto (tgt := 2) dX8_mends_19 (by decide) ?_
        refine R_ls (L' := [(0, .ref 0), (1, .int (nI (i + 1)))]) (qs1 rfl (qs1 rfl qs0)) ?_
        exact (ih (i + 1) _ _ (by omega) (by omega) hI2 (sOk_md hsK 0) (by rw [hr, hm, rMends_1 (by first | exact h_13 | exact Int32.not_le.mp h_13), show 12 - (i + 1) = m by omega]; simp; omega))
set_option maxRecDepth 100000 in
set_option maxHeartbeats 4000000 in
theorem p_mends {M : qMem} {s : sT} (hI : MI M s) (hs : sOk s) : qSem 1 mX8_mends [.ref 0] M (fun r N => r = some (.int (nI ((rMends 12 s).1))) ∧ MI N (rMends 12 s).2) := by
  refine qSem.of (by decide +kernel) (Nat.le_of_ble_eq_true rfl) (fun w => ?_)
  refine R_ls (L' := [(0, .ref 0)]) (qs1 rfl qs0) ?_
  refine R_iconst (v := nI 0) dX8_mends_0 rfl ?_
  refine R_istore_n (L' := [(0, .ref 0), (1, .int (nI 0))]) dX8_mends_1 (by decide) (qs1 rfl (qs1 rfl qs0)) ?_
  refine R_ls (L' := [(0, .ref 0), (1, .int (nI 0))]) (qs1 rfl (qs1 rfl qs0)) ?_
  exact (m_mends 14 0 s M (by omega) (by omega) hI hs (by simp))
