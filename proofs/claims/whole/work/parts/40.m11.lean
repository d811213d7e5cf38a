
theorem qRW_mono {g : Nat} {w : qWT} {mt : qMT} {pc : Nat} {L : List (Nat × Value)} {st : List Value} {M : qMem} {Q Q' : qQ} (h : qRW g w mt pc L st M Q) (hQ : ∀ v N, Q v N → Q' v N) : qRW g w mt pc L st M Q' := by
  intro p e s m args below meth c sz H locs lsA C hP hD hS hL T hT X
  obtain ⟨t, a1, o, b1, b2, ⟨⟨v, M', e1, e2, e3⟩, e4⟩, h5⟩ := h p e s m args below meth c sz H locs lsA C hP hD hS hL T hT X
  exact ⟨t, a1, o, b1, b2, ⟨⟨v, M', e1, hQ v M' e2, e3⟩, e4⟩, h5⟩
theorem BW.off {M N : qMem} {o : Nat} {d : dT} {F : Nat → Nat → Nat → Bool} (h : BW M o d F) (e : N.1 o = M.1 o) : BW N o d F := fun u v t h1 h2 h3 h4 => by rw [e]; exact h u v t h1 h2 h3 h4
set_option maxRecDepth 100000 in
set_option maxHeartbeats 4000000 in
theorem m_fiO {w : qWT} {M K0 : qMem} {d : dT} (hX0 : MR K0 d) (hB : dB d) (hY4 : 4 ≤ dY d) {F : Nat → Nat → Nat → Bool} {c y : Nat} (hc : c < dK d) (hy : y < dY d) : ∀ (fu : Nat) (q : Nat) (K : qMem), (dK d + 1 - q) < fu → (q ≤ dK d) → (mE K0 K) → (BX K d F c y (dR d 3) q y) → qRW 1 w mX8_finds 81 [(0, .ref 0), (1, .int (nI c)), (2, .int (nI y)), (3, .int (nI (dR d 3))), (4, .int (nI q))] [] K (fun v N => v = none ∧ mE K0 N ∧ BW N 15 d (ctF d F c y)) := by
  intro fu
  induction fu with
  | zero => intro q K hn; exact absurd hn (Nat.not_lt_zero _)
  | succ fu ih =>
    intro q K hn hq hE hF
    have hX := hX0.me hE
    have hK6 := hB.2.1
    have hY16 := hB.1
    have hW2 := hB.2.2.2.2.2.2.1
    refine R_iload dX8_finds_81 rfl ?_
    refine R_aload_n dX8_finds_83 rfl ?_
    refine R_getI dX8_finds_84 (lf_RX8_148).get (by decide) rfl rfl ?_
    refine R_top (y := nI (dK d)) hX.1.1 ?_
    refine R_icmp_geN (tgt := 180) dX8_finds_87 (by decide) (by omega) (by omega) (fun h_87 => ?_) (fun h_87 => ?_)
    · refine R_return dX8_finds_180 rfl ?_
      exact ⟨rfl, hE, BX_end hF (by omega)⟩
    · refine R_iload_n dX8_finds_90 rfl ?_
      refine R_iload_n dX8_finds_91 rfl ?_
      refine R_isub dX8_finds_92 ?_
      refine R_istore (L' := [(0, .ref 0), (1, .int (nI c)), (2, .int (nI y)), (3, .int (nI (dR d 3))), (4, .int (nI q)), (5, .int _)]) dX8_finds_93 (by decide) (qs1 rfl (qs1 rfl (qs1 rfl (qs1 rfl (qs1 rfl (qs1 rfl qs0)))))) ?_
      refine R_ls (L' := [(0, .ref 0), (1, .int (nI c)), (2, .int (nI y)), (3, .int (nI (dR d 3))), (4, .int (nI q)), (5, .int (nI y - nI (dR d 3)))]) (qs1 rfl (qs1 rfl (qs1 rfl (qs1 rfl (qs1 rfl (qs1 rfl qs0)))))) ?_
      exact (m_fiJ (M := K0) (w := w) hX0 hB hY4 hc hy (q := q) (by omega) (fun K hE hF => by refine R_iincN (n := 1) (L' := [(0, .ref 0), (1, .int (nI c)), (2, .int (nI y)), (3, .int (nI (dR d 3))), (4, .int (nI (q + 1)))]) dX8_finds_174 rfl (by decide) (qs1 rfl (qs1 rfl (qs1 rfl (qs1 rfl (qs1 rfl qs0))))) ?_; refine R_goto (tgt := 81) dX8_finds_177 (by decide) ?_; exact ih (q + 1) K (by omega) (by omega) hE hF) 101 y K (by omega) (Nat.le_refl _) (by omega) hE hF)

def FD (M N : qMem) (d : dT) (F : Nat → Nat → Nat → Bool) (c y n : Nat) : Prop := BW N 15 d (ctF d F c y) ∧ N.1 14 = M.1 14 ∧ N.1 0 25 = nI (n + 1) ∧ N.1 0 22 = M.1 0 22 ∧ (∀ j, N.1 16 j = if j = n then nI c else M.1 16 j) ∧ (∀ j, N.1 17 j = if j = n then nI y else M.1 17 j) ∧ (∀ j, N.1 18 j = if j = n then nI (pop (wF F c y) (dK d)) else M.1 18 j) ∧ (∀ j, N.1 19 j = if j = n then nI (wm (wF F c y) (dK d)) else M.1 19 j) ∧ cOff sCu M N
set_option maxRecDepth 100000 in
set_option maxHeartbeats 4000000 in
theorem m_finds {M : qMem} {d : dT} (hX : MR M d) (hB : dB d) (hK2 : 2 ≤ dK d) (hY4 : 4 ≤ dY d) {F : Nat → Nat → Nat → Bool} (hF : BW M 15 d F) {c y n : Nat} (hc : c < dK d) (hy : y < dY d) (hn : n < 96) (h25 : M.1 0 25 = nI n) : qSem 1 mX8_finds [.ref 0, .int (nI c), .int (nI y)] M (fun v N => v = none ∧ FD M N d F c y n) := by
  have hK6 := hB.2.1
  have hY16 := hB.1
  have hW6 := wm_lt (wF F c y) (dK d)
  have hp6 : 2 ^ dK d ≤ 2 ^ 6 := Nat.pow_le_pow_right (by decide) hK6
  have hpc := pc_wm (f := wF F c y) hK6
  have hpl := pop_le (wF F c y) (dK d)
  refine qSem.of (by decide +kernel) (Nat.le_of_ble_eq_true rfl) (fun w => ?_)
  refine R_ls (L' := [(0, .ref 0), (1, .int (nI c)), (2, .int (nI y))]) (qs1 rfl (qs1 rfl (qs1 rfl qs0))) ?_
  refine R_aload_n dX8_finds_0 rfl ?_
  refine R_getR dX8_finds_1 lg_RX8_56 (by decide) rfl rfl ?_
  refine R_aload_n dX8_finds_4 rfl ?_
  refine R_getI dX8_finds_5 (lf_RX8_253).get (by decide) rfl rfl ?_
  refine R_top (y := nI n) (by first | exact h25 | (simp only [qIs_no (show (0:Nat) ≠ 16 by decide), qIs_no (show (0:Nat) ≠ 17 by decide), qIs_no (show (0:Nat) ≠ 18 by decide), qIs_no (show (0:Nat) ≠ 19 by decide)]; exact h25)) ?_
  refine R_iload_n dX8_finds_8 rfl ?_
  refine R_iastN dX8_finds_9 (by decide) rfl (by omega) (by decide) ?_
  refine R_aload_n dX8_finds_10 rfl ?_
  refine R_getR dX8_finds_11 lg_RX8_59 (by decide) rfl rfl ?_
  refine R_aload_n dX8_finds_14 rfl ?_
  refine R_getI dX8_finds_15 (lf_RX8_253).get (by decide) rfl rfl ?_
  refine R_top (y := nI n) (by first | exact h25 | (simp only [qIs_no (show (0:Nat) ≠ 16 by decide), qIs_no (show (0:Nat) ≠ 17 by decide), qIs_no (show (0:Nat) ≠ 18 by decide), qIs_no (show (0:Nat) ≠ 19 by decide)]; exact h25)) ?_
  refine R_iload_n dX8_finds_18 rfl ?_
  refine R_iastN dX8_finds_19 (by decide) rfl (by omega) (by decide) ?_
  refine R_aload_n dX8_finds_20 rfl ?_
  refine R_getR dX8_finds_21 lg_RX8_65 (by decide) rfl rfl ?_
  refine R_aload_n dX8_finds_24 rfl ?_
  refine R_getI dX8_finds_25 (lf_RX8_253).get (by decide) rfl rfl ?_
  refine R_top (y := nI n) (by first | exact h25 | (simp only [qIs_no (show (0:Nat) ≠ 16 by decide), qIs_no (show (0:Nat) ≠ 17 by decide), qIs_no (show (0:Nat) ≠ 18 by decide), qIs_no (show (0:Nat) ≠ 19 by decide)]; exact h25)) ?_
  refine R_aload_n dX8_finds_28 rfl ?_
  refine R_aload_n dX8_finds_29 rfl ?_
  refine R_getR dX8_finds_30 lg_RX8_53 (by decide) rfl rfl ?_
  refine R_iload_n dX8_finds_33 rfl ?_
  refine R_iload_n dX8_finds_34 rfl ?_
  refine R_callV (mc := mX8_withWhom) (As := [_, _, _]) (r := 0) dX8_finds_35 lm_RX8_256 mv_X8_withWhom rfl (by decide) rfl rfl rfl rfl (Nat.le_of_ble_eq_true rfl) (m_with15 (M := qIs (qIs M 16 n (nI c)) 17 n (nI y)) (hX.off rfl rfl rfl rfl rfl) hB (hF.off rfl) hc hy) ?_
  rintro _ _ ⟨rfl, rfl⟩
  refine R_iastN dX8_finds_38 (by decide) rfl (by omega) (by decide) ?_
  refine R_aload_n dX8_finds_39 rfl ?_
  refine R_getR dX8_finds_40 lg_RX8_62 (by decide) rfl rfl ?_
  refine R_aload_n dX8_finds_43 rfl ?_
  refine R_getI dX8_finds_44 (lf_RX8_253).get (by decide) rfl rfl ?_
  refine R_top (y := nI n) (by first | exact h25 | (simp only [qIs_no (show (0:Nat) ≠ 16 by decide), qIs_no (show (0:Nat) ≠ 17 by decide), qIs_no (show (0:Nat) ≠ 18 by decide), qIs_no (show (0:Nat) ≠ 19 by decide)]; exact h25)) ?_
  refine R_aload_n dX8_finds_47 rfl ?_
  refine R_getR dX8_finds_48 lg_RX8_65 (by decide) rfl rfl ?_
  refine R_aload_n dX8_finds_51 rfl ?_
  refine R_getI dX8_finds_52 (lf_RX8_253).get (by decide) rfl rfl ?_
  refine R_top (y := nI n) (by first | exact h25 | (simp only [qIs_no (show (0:Nat) ≠ 16 by decide), qIs_no (show (0:Nat) ≠ 17 by decide), qIs_no (show (0:Nat) ≠ 18 by decide), qIs_no (show (0:Nat) ≠ 19 by decide)]; exact h25)) ?_
  refine R_ialdN dX8_finds_55 (by decide) rfl (by omega) (by decide) ?_
  refine R_top (y := nI (wm (wF F c y) (dK d))) (by rw [qIs_eq]) ?_
  refine R_callS (mc := mX8_ones) (As := [_]) dX8_finds_56 lm_RX8_260 mv_X8_ones rfl rfl rfl (Nat.le_of_ble_eq_true rfl) (m_ones (by omega)) ?_
  rintro _ _ ⟨rfl, rfl⟩
  refine R_top (y := nI (pop (wF F c y) (dK d))) (by rw [hpc]) ?_
  refine R_iastN dX8_finds_59 (by decide) rfl (by omega) (by decide) ?_
  refine R_aload_n dX8_finds_60 rfl ?_
  refine R_dup dX8_finds_61 rfl ?_
  refine R_getI dX8_finds_62 (lf_RX8_253).get (by decide) rfl rfl ?_
  refine R_top (y := nI n) (by first | exact h25 | (simp only [qIs_no (show (0:Nat) ≠ 16 by decide), qIs_no (show (0:Nat) ≠ 17 by decide), qIs_no (show (0:Nat) ≠ 18 by decide), qIs_no (show (0:Nat) ≠ 19 by decide)]; exact h25)) ?_
  refine R_iconst (v := nI 1) dX8_finds_65 rfl ?_
  refine R_iaddN dX8_finds_66 ?_
  refine R_putI dX8_finds_67 lf_RX8_253 (by decide) rfl rfl rfl rfl ?_
  refine R_aload_n dX8_finds_70 rfl ?_
  refine R_getR dX8_finds_71 lg_RX8_19 (by decide) rfl rfl ?_
  refine R_bipush (v := nI 100) dX8_finds_74 rfl ?_
  refine R_ialdN dX8_finds_76 (by decide) rfl (by omega) (by decide) ?_
  refine R_top (y := nI (dR d 3)) (hX.r (k := 3) (by omega)) ?_
  refine R_istore_n (L' := [(0, .ref 0), (1, .int (nI c)), (2, .int (nI y)), (3, .int (nI (dR d 3)))]) dX8_finds_77 (by decide) (qs1 rfl (qs1 rfl (qs1 rfl (qs1 rfl qs0)))) ?_
  refine R_iconst (v := nI 0) dX8_finds_78 rfl ?_
  refine R_istore (L' := [(0, .ref 0), (1, .int (nI c)), (2, .int (nI y)), (3, .int (nI (dR d 3))), (4, .int (nI 0))]) dX8_finds_79 (by decide) (qs1 rfl (qs1 rfl (qs1 rfl (qs1 rfl (qs1 rfl qs0))))) ?_
  refine R_ls (L' := [(0, .ref 0), (1, .int (nI c)), (2, .int (nI y)), (3, .int (nI (dR d 3))), (4, .int (nI 0))]) (qs1 rfl (qs1 rfl (qs1 rfl (qs1 rfl (qs1 rfl qs0))))) ?_
  refine qRW_mono (m_fiO (F := F) (M := M) (K0 := qIs (qIs (qIs (qIs (qIs M 16 n (nI c)) 17 n (nI y)) 19 n (nI (wm (wF F c y) (dK d)))) 18 n (nI (pop (wF F c y) (dK d)))) 0 25 (nI (n + 1))) (hX.off rfl rfl rfl rfl rfl) hB hY4 hc hy (dK d + 2) 0 _ (by omega) (Nat.zero_le _) ⟨fun a ha => rfl, rfl⟩ (BX_0 (hF.off rfl))) ?_
  rintro v N ⟨q1, q2, q3⟩
  refine ⟨q1, q3, ?_, ?_, ?_, fun j => ?_, fun j => ?_, fun j => ?_, fun j => ?_, fun a k ha => ⟨?_, ?_⟩⟩
  · rw [q2.1 14 (by decide)]; rfl
  · rw [q2.1 0 (by decide), qIs_eq]
  · rw [q2.1 0 (by decide)]; rfl
  · rw [q2.1 16 (by decide)]; simp [qIs_1]
  · rw [q2.1 17 (by decide)]; simp [qIs_1]
  · rw [q2.1 18 (by decide)]; simp [qIs_1]
  · rw [q2.1 19 (by decide)]; simp [qIs_1]
  · unfold sCu at ha; rw [q2.1 a (by omega), qIs_1, if_neg (by omega), qIs_1, if_neg (by omega), qIs_1, if_neg (by omega), qIs_1, if_neg (by omega), qIs_1, if_neg (by omega)]
  · rw [q2.2]; rfl
