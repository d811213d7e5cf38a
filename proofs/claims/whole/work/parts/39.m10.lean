
-- ===== the model: a culprit found =====
def CVp (y W o j x t : Nat) : Prop := y ≤ t + W ∧ t ≤ y + W ∧ (x < o ∨ (x = o ∧ t + W < j))
/-- the words hold F but for what is struck so far -/
def BX (M : qMem) (d : dT) (F : Nat → Nat → Nat → Bool) (c y W o j : Nat) : Prop := ∀ u v t, u < dK d → v < dK d → u ≠ v → t < dY d → (bit (M.1 15 (6 * u + v)) t = true ↔ F u v t = true ∧ ¬ ((u = c ∧ CVp y W o j v t) ∨ (v = c ∧ CVp y W o j u t)))
theorem BX_0 {M : qMem} {d : dT} {F : Nat → Nat → Nat → Bool} {c y W : Nat} (h : BW M 15 d F) : BX M d F c y W 0 y := fun u v t hu hv hne ht => by
  rw [h u v t hu hv hne ht]; unfold CVp
  constructor
  · intro z; exact ⟨z, by omega⟩
  · exact fun z => z.1
theorem BX_end {M : qMem} {d : dT} {F : Nat → Nat → Nat → Bool} {c y o j : Nat} (h : BX M d F c y (dR d 3) o j) (ho : dK d ≤ o) : BW M 15 d (ctF d F c y) := fun u v t hu hv hne ht => by
  apply Bool.eq_iff_iff.mpr
  rw [h u v t hu hv hne ht]; unfold ctF CVp
  rw [Bool.and_eq_true, Bool.not_eq_true', Bool.eq_false_iff]
  constructor
  · rintro ⟨h1, h2⟩; refine ⟨h1, fun z => h2 ?_⟩
    rw [Bool.and_eq_true, Bool.or_eq_true, Bool.and_eq_true, decide_eq_true_eq, decide_eq_true_eq, decide_eq_true_eq, decide_eq_true_eq] at z; omega
  · rintro ⟨h1, h2⟩; refine ⟨h1, fun z => h2 ?_⟩
    rw [Bool.and_eq_true, Bool.or_eq_true, Bool.and_eq_true, decide_eq_true_eq, decide_eq_true_eq, decide_eq_true_eq, decide_eq_true_eq]; omega
theorem BX_mv {M : qMem} {d : dT} {F : Nat → Nat → Nat → Bool} {c y W o j o' j' : Nat} (h : BX M d F c y W o j) (e : ∀ u v t, u < dK d → v < dK d → u ≠ v → t < dY d → (((u = c ∧ CVp y W o j v t) ∨ (v = c ∧ CVp y W o j u t)) ↔ ((u = c ∧ CVp y W o' j' v t) ∨ (v = c ∧ CVp y W o' j' u t)))) : BX M d F c y W o' j' := fun u v t hu hv hne ht => by rw [h u v t hu hv hne ht, e u v t hu hv hne ht]
theorem BX_next {M : qMem} {d : dT} {F : Nat → Nat → Nat → Bool} {c y W o j : Nat} (h : BX M d F c y W o j) (hj : y + 2 * W < j ∨ o = c) : BX M d F c y W (o + 1) y := BX_mv h (fun u v t hu hv hne ht => by unfold CVp; omega)
theorem BX_skip {M : qMem} {d : dT} {F : Nat → Nat → Nat → Bool} {c y W o j : Nat} (h : BX M d F c y W o j) (hj : j < W ∨ dY d + W ≤ j ∨ o = c) : BX M d F c y W o (j + 1) := BX_mv h (fun u v t hu hv hne ht => by unfold CVp; omega)
theorem BX_clr {K : qMem} {d : dT} {F : Nat → Nat → Nat → Bool} {c y W o j : Nat} (hK : dK d ≤ 6) (hY : dY d ≤ 16) (h : BX K d F c y W o j) (hc : c < dK d) (ho : o < dK d) (hoc : o ≠ c) (h1 : W ≤ j) (h2 : j < dY d + W) (hy : y ≤ j) (hj : j ≤ y + 2 * W) : BX (qIs (qIs K 15 (6 * c + o) (K.1 15 (6 * c + o) &&& ((nI 1 <<< (nI (j - W) &&& 31)) ^^^ -1))) 15 (6 * o + c) (K.1 15 (6 * o + c) &&& ((nI 1 <<< (nI (j - W) &&& 31)) ^^^ -1))) d F c y W o (j + 1) := fun u v t hu hv hne ht => by
  have b := h u v t hu hv hne ht
  rw [qIs_1, qIs_1]
  by_cases e1 : u = o ∧ v = c
  · rw [if_pos ⟨rfl, by rw [e1.1, e1.2]⟩, bit_and, bit_not (by omega) (by omega), Bool.and_eq_true]
    rw [e1.1, e1.2] at b
    rw [b, e1.1, e1.2, Bool.not_eq_true', decide_eq_false_iff_not]
    unfold CVp
    constructor
    · rintro ⟨⟨q1, q2⟩, q3⟩; exact ⟨q1, by omega⟩
    · rintro ⟨q1, q2⟩; exact ⟨⟨q1, by omega⟩, by omega⟩
  · rw [if_neg (by omega)]
    by_cases e2 : u = c ∧ v = o
    · rw [if_pos ⟨rfl, by rw [e2.1, e2.2]⟩, bit_and, bit_not (by omega) (by omega), Bool.and_eq_true]
      rw [e2.1, e2.2] at b
      rw [b, e2.1, e2.2, Bool.not_eq_true', decide_eq_false_iff_not]
      unfold CVp
      constructor
      · rintro ⟨⟨q1, q2⟩, q3⟩; exact ⟨q1, by omega⟩
      · rintro ⟨q1, q2⟩; exact ⟨⟨q1, by omega⟩, by omega⟩
    · rw [if_neg (by omega), b]
      unfold CVp
      constructor
      · rintro ⟨q1, q2⟩; exact ⟨q1, by omega⟩
      · rintro ⟨q1, q2⟩; exact ⟨q1, by omega⟩
theorem q_win {a j W : Nat} (ha : a < 1000) (hj : j < 1000) (hW : W < 1000) : nI a < nI j - nI W ↔ a + W < j := by
  rw [Int32.lt_iff_toInt_lt, pk_sub_toInt (by omega) (by omega), nI_toInt (by omega)]; omega
theorem q_win2 {j W n : Nat} (hj : j < 1000) (hW : W < 1000) (hn : n < 1000) : inN (nI j - nI W) n ↔ W ≤ j ∧ j < n + W := by
  unfold inN
  rw [Int32.lt_iff_toInt_lt, Int32.le_iff_toInt_le, pk_sub_toInt (by omega) (by omega), nI_toInt (by omega)]
  have e0 : (0 : Int32).toInt = 0 := rfl
  omega
def mE (K0 K : qMem) : Prop := (∀ a, a ≠ 15 → K.1 a = K0.1 a) ∧ K.2 = K0.2
theorem mE.is {K0 K : qMem} {k : Nat} {x : Int32} (h : mE K0 K) : mE K0 (qIs K 15 k x) := ⟨fun a ha => by rw [qIs_no ha]; exact h.1 a ha, h.2⟩
theorem MR.me {K0 K : qMem} {d : dT} (h : MR K0 d) (e : mE K0 K) : MR K d := h.off (by rw [e.1 0 (by decide)]) (by rw [e.1 0 (by decide)]) (e.1 2 (by decide)) (e.1 3 (by decide)) (e.1 4 (by decide))

theorem l_ring32 {a b e : Int32} : a + e - b = a - b + e := by
  rw [Int32.sub_eq_add_neg, Int32.sub_eq_add_neg, Int32.add_assoc, Int32.add_comm e, ← Int32.add_assoc]
set_option maxRecDepth 100000 in
set_option maxHeartbeats 4000000 in
theorem m_fiJ {w : qWT} {M K0 : qMem} {d : dT} (hX0 : MR K0 d) (hB : dB d) (hY4 : 4 ≤ dY d) {F : Nat → Nat → Nat → Bool} {c y : Nat} (hc : c < dK d) (hy : y < dY d) {q : Nat} (hq : q < dK d) (hk : ∀ K : qMem, mE K0 K → BX K d F c y (dR d 3) (q + 1) y → qRW 1 w mX8_finds 174 [(0, .ref 0), (1, .int (nI c)), (2, .int (nI y)), (3, .int (nI (dR d 3))), (4, .int (nI q))] [] K (fun v N => v = none ∧ mE K0 N ∧ BW N 15 d (ctF d F c y))) : ∀ (fu : Nat) (j : Nat) (K : qMem), (100 - j) < fu → (y ≤ j) → (j ≤ y + 2 * (dR d 3) + 1) → (mE K0 K) → (BX K d F c y (dR d 3) q j) → qRW 1 w mX8_finds 95 [(0, .ref 0), (1, .int (nI c)), (2, .int (nI y)), (3, .int (nI (dR d 3))), (4, .int (nI q)), (5, .int (nI j - nI (dR d 3)))] [] K (fun v N => v = none ∧ mE K0 N ∧ BW N 15 d (ctF d F c y)) := by
  intro fu
  induction fu with
  | zero => intro j K hn; exact absurd hn (Nat.not_lt_zero _)
  | succ fu ih =>
    intro j K hn hj1 hj2 hE hF
    have hX := hX0.me hE
    have hK6 := hB.2.1
    have hY16 := hB.1
    have hW2 := hB.2.2.2.2.2.2.1
    refine R_iload dX8_finds_95 rfl ?_
    refine R_iload_n dX8_finds_97 rfl ?_
    refine R_iload_n dX8_finds_98 rfl ?_
    refine R_iaddN dX8_finds_99 ?_
    refine R_icmp_gt (tgt := 174) dX8_finds_100 (by decide) (fun h_100 => ?_) (fun h_100 => ?_)
    · rw [q_win (by omega) (by omega) (by omega)] at h_100
      refine R_ls (L' := [(0, .ref 0), (1, .int (nI c)), (2, .int (nI y)), (3, .int (nI (dR d 3))), (4, .int (nI q))]) (qs1 rfl (qs1 rfl (qs1 rfl (qs1 rfl (qs1 rfl qs0))))) ?_
      exact hk K hE (BX_next hF (Or.inl (by omega)))
    · rw [q_win (by omega) (by omega) (by omega)] at h_100
      refine R_iload dX8_finds_103 rfl ?_
      refine R_iload_n dX8_finds_105 rfl ?_
      refine R_icmp_eqN (tgt := 174) dX8_finds_106 (by decide) (by omega) (by omega) (fun h_106 => ?_) (fun h_106 => ?_)
      · refine R_ls (L' := [(0, .ref 0), (1, .int (nI c)), (2, .int (nI y)), (3, .int (nI (dR d 3))), (4, .int (nI q))]) (qs1 rfl (qs1 rfl (qs1 rfl (qs1 rfl (qs1 rfl qs0))))) ?_
        exact hk K hE (BX_next hF (Or.inr h_106))
      · refine R_iload dX8_finds_109 rfl ?_
        refine R_i2l dX8_finds_111 ?_
        refine R_lconst (v := 0) dX8_finds_112 rfl ?_
        refine R_aload_n dX8_finds_113 rfl ?_
        refine R_getI dX8_finds_114 (lf_RX8_151).get (by decide) rfl rfl ?_
        refine R_top (y := nI (dY d)) hX.1.2.1 ?_
        refine R_iconst (v := nI 1) dX8_finds_117 rfl ?_
        refine R_isubN dX8_finds_118 (by omega) ?_
        refine R_i2l dX8_finds_119 ?_
        refine R_callS (mc := mX8_in) (As := [_, _, _]) dX8_finds_120 lm_RX8_98 mv_X8_in rfl rfl rfl (Nat.le_of_ble_eq_true rfl) m_in ?_
        rintro _ _ ⟨rfl, ⟨rfl, hin⟩ | ⟨rfl, hin⟩⟩
        · rw [in_sta (c := nI j - nI (dR d 3)) (n := dY d) (by omega) (by omega), q_win2 (by omega) (by omega) (by omega)] at hin
          refine R_if_eqN (tgt := 168) dX8_finds_123 (by decide) (by omega) (fun h_123 => by exact absurd h_123 (by decide)) (fun h_123 => ?_)
          refine R_aload_n dX8_finds_126 rfl ?_
          refine R_getR dX8_finds_127 lg_RX8_53 (by decide) rfl rfl ?_
          refine R_bipush (v := nI 6) dX8_finds_130 rfl ?_
          refine R_iload_n dX8_finds_132 rfl ?_
          refine R_imulN dX8_finds_133 ?_
          refine R_iload dX8_finds_134 rfl ?_
          refine R_iaddN dX8_finds_136 ?_
          refine R_dup2 dX8_finds_137 rfl rfl ?_
          refine R_ialdN dX8_finds_138 (by decide) rfl (by omega) (by decide) ?_
          refine R_iconst (v := nI 1) dX8_finds_139 rfl ?_
          refine R_iload dX8_finds_140 rfl ?_
          refine R_top (y := nI (j - dR d 3)) (pk_sub (by omega)) ?_
          refine R_ishl dX8_finds_142 ?_
          refine R_iconst (v := -1) dX8_finds_143 rfl ?_
          refine R_ixor dX8_finds_144 ?_
          refine R_iand dX8_finds_145 ?_
          refine R_iastN dX8_finds_146 (by decide) rfl (by omega) (by decide) ?_
          refine R_aload_n dX8_finds_147 rfl ?_
          refine R_getR dX8_finds_148 lg_RX8_53 (by decide) rfl rfl ?_
          refine R_bipush (v := nI 6) dX8_finds_151 rfl ?_
          refine R_iload dX8_finds_153 rfl ?_
          refine R_imulN dX8_finds_155 ?_
          refine R_iload_n dX8_finds_156 rfl ?_
          refine R_iaddN dX8_finds_157 ?_
          refine R_dup2 dX8_finds_158 rfl rfl ?_
          refine R_ialdN dX8_finds_159 (by decide) rfl (by omega) (by decide) ?_
          refine R_top (y := K.1 15 (6 * q + c)) (qIs_nk (by omega)) ?_
          refine R_iconst (v := nI 1) dX8_finds_160 rfl ?_
          refine R_iload dX8_finds_161 rfl ?_
          refine R_top (y := nI (j - dR d 3)) (pk_sub (by omega)) ?_
          refine R_ishl dX8_finds_163 ?_
          refine R_iconst (v := -1) dX8_finds_164 rfl ?_
          refine R_ixor dX8_finds_165 ?_
          refine R_iand dX8_finds_166 ?_
          refine R_iastN dX8_finds_167 (by decide) rfl (by omega) (by decide) ?_
          refine R_iinc (v := nI j - nI (dR d 3) + nI 1) (L' := [(0, .ref 0), (1, .int (nI c)), (2, .int (nI y)), (3, .int (nI (dR d 3))), (4, .int (nI q)), (5, .int (nI j - nI (dR d 3) + nI 1))]) dX8_finds_168 rfl rfl (by decide) (qs1 rfl (qs1 rfl (qs1 rfl (qs1 rfl (qs1 rfl (qs1 rfl qs0)))))) ?_
          refine R_goto (tgt := 95) dX8_finds_171 (by decide) ?_
          refine R_ls (L' := [(0, .ref 0), (1, .int (nI c)), (2, .int (nI y)), (3, .int (nI (dR d 3))), (4, .int (nI q)), (5, .int (nI j - nI (dR d 3) + nI 1))]) (qs1 rfl (qs1 rfl (qs1 rfl (qs1 rfl (qs1 rfl (qs1 rfl qs0)))))) ?_
          exact (by have h := ih (j + 1) _ (by omega) (by omega) (by omega) hE.is.is (by have h := BX_clr hK6 hY16 hF hc hq h_106 hin.1 hin.2 hj1 (by omega); exact h); rw [show nI (j + 1) - nI (dR d 3) = nI j - nI (dR d 3) + nI 1 by rw [← nI_add, l_ring32]] at h; exact h)
        · rw [in_sta (c := nI j - nI (dR d 3)) (n := dY d) (by omega) (by omega), q_win2 (by omega) (by omega) (by omega)] at hin
          refine R_if_eqN (tgt := 168) dX8_finds_123 (by decide) (by omega) (fun h_123 => ?_) (fun h_123 => by exact absurd h_123 (by decide))
          refine R_iinc (v := nI j - nI (dR d 3) + nI 1) (L' := [(0, .ref 0), (1, .int (nI c)), (2, .int (nI y)), (3, .int (nI (dR d 3))), (4, .int (nI q)), (5, .int (nI j - nI (dR d 3) + nI 1))]) dX8_finds_168 rfl rfl (by decide) (qs1 rfl (qs1 rfl (qs1 rfl (qs1 rfl (qs1 rfl (qs1 rfl qs0)))))) ?_
          refine R_goto (tgt := 95) dX8_finds_171 (by decide) ?_
          refine R_ls (L' := [(0, .ref 0), (1, .int (nI c)), (2, .int (nI y)), (3, .int (nI (dR d 3))), (4, .int (nI q)), (5, .int (nI j - nI (dR d 3) + nI 1))]) (qs1 rfl (qs1 rfl (qs1 rfl (qs1 rfl (qs1 rfl (qs1 rfl qs0)))))) ?_
          exact (by have h := ih (j + 1) _ (by omega) (by omega) (by omega) hE (BX_skip hF (by omega)); rw [show nI (j + 1) - nI (dR d 3) = nI j - nI (dR d 3) + nI 1 by rw [← nI_add, l_ring32]] at h; exact h)
