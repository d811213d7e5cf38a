
-- ===== the model: the breaks of all pairs =====
def brkS (d : dT) (u v t : Nat) : Bool := brk d (min u v) (max u v) t
def Fb (d : dT) (u v t : Nat) : Bool := prb d u v && brkS d u v t
theorem Fb_comm (d : dT) (u v t : Nat) : Fb d u v t = Fb d v u t := by unfold Fb brkS; rw [prb_comm, Nat.min_comm, Nat.max_comm]
theorem Fb_lt (d : dT) {u v t : Nat} (h : u < v) : Fb d u v t = (prb d u v && brk d u v t) := by unfold Fb brkS; rw [Nat.min_eq_left (by omega), Nat.max_eq_right (by omega)]
/-- the cells that finding breaks and culprits touches -/
def sCu (o k : Nat) : Prop := (10 ≤ o ∧ o < 20) ∨ (o = 0 ∧ (k = 16 ∨ k = 20 ∨ k = 22 ∨ k = 25))
theorem MR.cu {M N : qMem} {d : dT} (h : MR M d) (hO : cOff sCu M N) : MR N d := h.co hO (fun o k z => by unfold sCu at z; omega)
def sBr (o k : Nat) : Prop := (10 ≤ o ∧ o < 16) ∨ (o = 0 ∧ (k = 16 ∨ k = 20))
theorem MR.br {M N : qMem} {d : dT} (h : MR M d) (hO : cOff sBr M N) : MR N d := h.co hO (fun o k z => by unfold sBr at z; omega)
theorem cOff.sb {M N : qMem} (h : cOff sSc M N) : cOff sBr M N := h.mono (fun o k z => by unfold sSc at z; unfold sBr; omega)
theorem cOff.br {M N : qMem} (h : cOff sBr M N) : cOff sCu M N := h.mono (fun o k z => by unfold sBr at z; unfold sCu; omega)
theorem cOff.sc {M N : qMem} (h : cOff sSc M N) : cOff sCu M N := h.mono (fun o k z => by unfold sSc at z; unfold sCu; omega)
def PW (K : qMem) (o : Nat) (d : dT) (u v : Nat) : Prop := ∀ a b t, a < b → b < dK d → (a < u ∨ (a = u ∧ b < v)) → t < dY d → bit (K.1 o (6 * a + b)) t = Fb d a b t ∧ bit (K.1 o (6 * b + a)) t = Fb d a b t
theorem PW.off {K N : qMem} {o : Nat} {d : dT} {u v : Nat} (h : PW K o d u v) (e : N.1 o = K.1 o) : PW N o d u v := fun a b t h1 h2 h3 h4 => by rw [e]; exact h a b t h1 h2 h3 h4
theorem PW_put {K N : qMem} {o : Nat} {d : dT} {u v : Nat} {W : Int32} (hK : dK d ≤ 6) (h : PW K o d u v) (huv : u < v) (hv : v < dK d) (hW : ∀ t, t < dY d → bit W t = Fb d u v t) (e : ∀ k, N.1 o k = if k = 6 * v + u then W else if k = 6 * u + v then W else K.1 o k) : PW N o d u (v + 1) := fun a b t h1 h2 h3 h4 => by
  rw [e, e]
  by_cases q : a = u ∧ b = v
  · rw [q.1, q.2, if_neg (by omega), if_pos rfl, if_pos rfl]; exact ⟨hW t h4, hW t h4⟩
  · rw [if_neg (by omega), if_neg (by omega), if_neg (by omega), if_neg (by omega)]
    exact h a b t h1 h2 (by omega) h4
theorem PW_next {K : qMem} {o : Nat} {d : dT} {u v : Nat} (h : PW K o d u v) (hv : dK d ≤ v) : PW K o d (u + 1) (u + 1 + 1) := fun a b t h1 h2 h3 h4 => h a b t h1 h2 (by omega) h4
theorem PW_BW {K : qMem} {o : Nat} {d : dT} {u v : Nat} (h : PW K o d u v) (hu : dK d ≤ u) : BW K o d (Fb d) := fun a b t ha hb hne ht => by
  rcases Nat.lt_or_ge a b with q | q
  · exact (h a b t q hb (by omega) ht).1
  · rw [Fb_comm]; exact (h b a t (by omega) ha (by omega) ht).2
set_option maxRecDepth 100000 in
set_option maxHeartbeats 4000000 in
theorem m_brW {w : qWT} {K : qMem} {Q : qQ} {d : dT} (hB : dB d) {u v_ : Nat} (hF : FB K (ser d u v_) (dR d 0) (dR d 4)) (hk : ∀ W : Int32, (∀ t, t < 16 → bit W t = brk d u v_ t) → qRW 1 w mX8_findBreaks 74 [(0, .ref 0), (1, .int (nI u)), (2, .int (nI v_)), (3, .int W)] [] K Q) : ∀ (fu : Nat) (k : Nat) (W : Int32), (bN d u v_ + 1 - k) < fu → (k ≤ bN d u v_) → (∀ t, t < 16 → bit W t = brT d u v_ t k) → qRW 1 w mX8_findBreaks 42 [(0, .ref 0), (1, .int (nI u)), (2, .int (nI v_)), (3, .int (W)), (4, .int (nI k))] [] K Q := by
  intro fu
  induction fu with
  | zero => intro k W hn; exact absurd hn (Nat.not_lt_zero _)
  | succ fu ih =>
    intro k W hn hk1 hW
    obtain ⟨hS, hA, h20, h13⟩ := hF
    have hl16 := hS.2.1
    have hb15 := bN_le d u v_
    have hY16 := hB.1
    refine R_iload dX8_findBreaks_42 rfl ?_
    refine R_aload_n dX8_findBreaks_44 rfl ?_
    refine R_getI dX8_findBreaks_45 (lf_RX8_240).get (by decide) rfl rfl ?_
    refine R_top (y := nI (bN d u v_)) h20 ?_
    refine R_icmp_geN (tgt := 74) dX8_findBreaks_48 (by decide) (by omega) (by omega) (fun h_48 => ?_) (fun h_48 => ?_)
    · refine R_ls (L' := [(0, .ref 0), (1, .int (nI u)), (2, .int (nI v_)), (3, .int W)]) (qs1 rfl (qs1 rfl (qs1 rfl (qs1 rfl qs0)))) ?_
      have e : k = bN d u v_ := by omega
      subst e
      exact hk W hW
    · have hsp := stN_pos (l := ser d u v_) (R := dR d 0) (p := dR d 4) (m := k) hB.2.2.2.1.1 hl16 h_48
      have hby := bY_lt hB h_48
      refine R_iload_n dX8_findBreaks_51 rfl ?_
      refine R_iconst (v := nI 1) dX8_findBreaks_52 rfl ?_
      refine R_aload_n dX8_findBreaks_53 rfl ?_
      refine R_getR dX8_findBreaks_54 lg_RX8_41 (by decide) rfl rfl ?_
      refine R_aload_n dX8_findBreaks_57 rfl ?_
      refine R_getR dX8_findBreaks_58 lg_RX8_47 (by decide) rfl rfl ?_
      refine R_iload dX8_findBreaks_61 rfl ?_
      refine R_ialdN dX8_findBreaks_63 (by decide) rfl (by omega) (by decide) ?_
      refine R_top (y := nI (stN (ser d u v_) (dR d 0) (dR d 4) (k + 1))) (h13 k h_48) ?_
      refine R_ialdN dX8_findBreaks_64 (by decide) rfl (by omega) (by decide) ?_
      refine R_top (y := nI (bY d u v_ k)) (hS.2.2 _ hsp).2 ?_
      refine R_ishl dX8_findBreaks_65 ?_
      refine R_top (y := nI 1 <<< (nI (bY d u v_ k) &&& 31)) rfl ?_
      refine R_ior dX8_findBreaks_66 ?_
      refine R_top (y := W ||| (nI 1 <<< (nI (bY d u v_ k) &&& 31))) rfl ?_
      refine R_istore_n (L' := [(0, .ref 0), (1, .int (nI u)), (2, .int (nI v_)), (3, .int (W ||| (nI 1 <<< (nI (bY d u v_ k) &&& 31)))), (4, .int (nI k))]) dX8_findBreaks_67 (by decide) (qs1 rfl (qs1 rfl (qs1 rfl (qs1 rfl (qs1 rfl qs0))))) ?_
      refine R_iincN (n := 1) (L' := [(0, .ref 0), (1, .int (nI u)), (2, .int (nI v_)), (3, .int (W ||| (nI 1 <<< (nI (bY d u v_ k) &&& 31)))), (4, .int (nI (k + 1)))]) dX8_findBreaks_68 rfl (by decide) (qs1 rfl (qs1 rfl (qs1 rfl (qs1 rfl (qs1 rfl qs0))))) ?_
      refine R_goto (tgt := 42) dX8_findBreaks_71 (by decide) ?_
      refine R_ls (L' := [(0, .ref 0), (1, .int (nI u)), (2, .int (nI v_)), (3, .int (W ||| (nI 1 <<< (nI (bY d u v_ k) &&& 31)))), (4, .int (nI (k + 1)))]) (qs1 rfl (qs1 rfl (qs1 rfl (qs1 rfl (qs1 rfl qs0))))) ?_
      exact (ih (k + 1) _ (by omega) (by omega) (fun t ht => by rw [bit_or, hW t ht, bit_one (by omega) ht]; show _ = (brT d u v_ t k || decide (bY d u v_ k = t)); rw [decide_eq_decide.mpr (eq_comm (a := t))]))
set_option maxRecDepth 100000 in
set_option maxHeartbeats 4000000 in
theorem m_br74 {w : qWT} {M K : qMem} {d : dT} (hK6 : dK d ≤ 6) {u v_ : Nat} (huv : u < v_) (hv : v_ < dK d) {W : Int32} (hW : ∀ t, t < dY d → bit W t = Fb d u v_ t) (hO : cOff sBr M K) (h14 : PW K 14 d u v_) (h15 : PW K 15 d u v_) (hk : ∀ K : qMem, cOff sBr M K → PW K 14 d u (v_ + 1) → PW K 15 d u (v_ + 1) → qRW 1 w mX8_findBreaks 14 [(0, .ref 0), (1, .int (nI u)), (2, .int (nI (v_ + 1)))] [] K (fun v N => v = none ∧ BW N 14 d (Fb d) ∧ BW N 15 d (Fb d) ∧ cOff sBr M N)) : qRW 1 w mX8_findBreaks 74 [(0, .ref 0), (1, .int (nI u)), (2, .int (nI v_)), (3, .int (W))] [] K (fun v N => v = none ∧ BW N 14 d (Fb d) ∧ BW N 15 d (Fb d) ∧ cOff sBr M N) := by
  refine R_aload_n dX8_findBreaks_74 rfl ?_
  refine R_getR dX8_findBreaks_75 lg_RX8_50 (by decide) rfl rfl ?_
  refine R_bipush (v := nI 6) dX8_findBreaks_78 rfl ?_
  refine R_iload_n dX8_findBreaks_80 rfl ?_
  refine R_imulN dX8_findBreaks_81 ?_
  refine R_iload_n dX8_findBreaks_82 rfl ?_
  refine R_iaddN dX8_findBreaks_83 ?_
  refine R_iload_n dX8_findBreaks_84 rfl ?_
  refine R_iastN dX8_findBreaks_85 (by decide) rfl (by omega) (by decide) ?_
  refine R_aload_n dX8_findBreaks_86 rfl ?_
  refine R_getR dX8_findBreaks_87 lg_RX8_50 (by decide) rfl rfl ?_
  refine R_bipush (v := nI 6) dX8_findBreaks_90 rfl ?_
  refine R_iload_n dX8_findBreaks_92 rfl ?_
  refine R_imulN dX8_findBreaks_93 ?_
  refine R_iload_n dX8_findBreaks_94 rfl ?_
  refine R_iaddN dX8_findBreaks_95 ?_
  refine R_iload_n dX8_findBreaks_96 rfl ?_
  refine R_iastN dX8_findBreaks_97 (by decide) rfl (by omega) (by decide) ?_
  refine R_aload_n dX8_findBreaks_98 rfl ?_
  refine R_getR dX8_findBreaks_99 lg_RX8_53 (by decide) rfl rfl ?_
  refine R_bipush (v := nI 6) dX8_findBreaks_102 rfl ?_
  refine R_iload_n dX8_findBreaks_104 rfl ?_
  refine R_imulN dX8_findBreaks_105 ?_
  refine R_iload_n dX8_findBreaks_106 rfl ?_
  refine R_iaddN dX8_findBreaks_107 ?_
  refine R_iload_n dX8_findBreaks_108 rfl ?_
  refine R_iastN dX8_findBreaks_109 (by decide) rfl (by omega) (by decide) ?_
  refine R_aload_n dX8_findBreaks_110 rfl ?_
  refine R_getR dX8_findBreaks_111 lg_RX8_53 (by decide) rfl rfl ?_
  refine R_bipush (v := nI 6) dX8_findBreaks_114 rfl ?_
  refine R_iload_n dX8_findBreaks_116 rfl ?_
  refine R_imulN dX8_findBreaks_117 ?_
  refine R_iload_n dX8_findBreaks_118 rfl ?_
  refine R_iaddN dX8_findBreaks_119 ?_
  refine R_iload_n dX8_findBreaks_120 rfl ?_
  refine R_iastN dX8_findBreaks_121 (by decide) rfl (by omega) (by decide) ?_
  refine R_iincN (n := 1) (L' := [(0, .ref 0), (1, .int (nI u)), (2, .int (nI (v_ + 1))), (3, .int (W))]) dX8_findBreaks_122 rfl (by decide) (qs1 rfl (qs1 rfl (qs1 rfl (qs1 rfl qs0)))) ?_
  refine R_goto (tgt := 14) dX8_findBreaks_125 (by decide) ?_
  refine R_ls (L' := [(0, .ref 0), (1, .int (nI u)), (2, .int (nI (v_ + 1)))]) (qs1 rfl (qs1 rfl (qs1 rfl qs0))) ?_
  exact hk _ ((((hO.is (by unfold sBr; omega)).is (by unfold sBr; omega)).is (by unfold sBr; omega)).is (by unfold sBr; omega)) (PW_put hK6 h14 huv hv hW (fun k => by rw [qIs_no (by omega), qIs_no (by omega), qIs_1, qIs_1]; simp)) (PW_put hK6 h15 huv hv hW (fun k => by rw [qIs_1, qIs_1]; simp [qIs_no]))
set_option maxRecDepth 100000 in
set_option maxHeartbeats 4000000 in
theorem m_brV {w : qWT} {M : qMem} {d : dT} (hX : MR M d) (hB : dB d) (hK2 : 2 ≤ dK d) (hY4 : 4 ≤ dY d) {u : Nat} (hu : u < dK d) (hk : ∀ K : qMem, cOff sBr M K → PW K 14 d (u + 1) (u + 1 + 1) → PW K 15 d (u + 1) (u + 1 + 1) → qRW 1 w mX8_findBreaks 128 [(0, .ref 0), (1, .int (nI u))] [] K (fun v N => v = none ∧ BW N 14 d (Fb d) ∧ BW N 15 d (Fb d) ∧ cOff sBr M N)) : ∀ (fu : Nat) (v_ : Nat) (K : qMem), (dK d + 2 - v_) < fu → (u < v_) → (v_ ≤ dK d ∨ v_ = u + 1) → (cOff sBr M K) → (PW K 14 d u v_) → (PW K 15 d u v_) → qRW 1 w mX8_findBreaks 14 [(0, .ref 0), (1, .int (nI u)), (2, .int (nI v_))] [] K (fun v N => v = none ∧ BW N 14 d (Fb d) ∧ BW N 15 d (Fb d) ∧ cOff sBr M N) := by
  intro fu
  induction fu with
  | zero => intro v_ K hn; exact absurd hn (Nat.not_lt_zero _)
  | succ fu ih =>
    intro v_ K hn hv1 hv2 hO h14 h15
    have hK6 := hB.2.1
    have hY16 := hB.1
    have hXK := hX.br hO
    refine R_iload_n dX8_findBreaks_14 rfl ?_
    refine R_aload_n dX8_findBreaks_15 rfl ?_
    refine R_getI dX8_findBreaks_16 (lf_RX8_148).get (by decide) rfl rfl ?_
    refine R_top (y := nI (dK d)) hXK.1.1 ?_
    refine R_icmp_geN (tgt := 128) dX8_findBreaks_19 (by decide) (by omega) (by omega) (fun h_19 => ?_) (fun h_19 => ?_)
    · refine R_ls (L' := [(0, .ref 0), (1, .int (nI u))]) (qs1 rfl (qs1 rfl qs0)) ?_
      exact hk K hO (PW_next h14 (by omega)) (PW_next h15 (by omega))
    · refine R_iconst (v := nI 0) dX8_findBreaks_22 rfl ?_
      refine R_istore_n (L' := [(0, .ref 0), (1, .int (nI u)), (2, .int (nI v_)), (3, .int (nI 0))]) dX8_findBreaks_23 (by decide) (qs1 rfl (qs1 rfl (qs1 rfl (qs1 rfl qs0)))) ?_
      refine R_aload_n dX8_findBreaks_24 rfl ?_
      refine R_iload_n dX8_findBreaks_25 rfl ?_
      refine R_iload_n dX8_findBreaks_26 rfl ?_
      refine R_callV (mc := mX8_isPair) (As := [_, _]) (r := 0) dX8_findBreaks_27 lm_RX8_213 mv_X8_isPair rfl (by decide) rfl rfl rfl rfl (Nat.le_of_ble_eq_true rfl) (m_pair hXK hB hu (by omega)) ?_
      rintro _ _ ⟨rfl, ⟨rfl, hp⟩ | ⟨rfl, hp⟩⟩
      · refine R_if_eqN (tgt := 74) dX8_findBreaks_30 (by decide) (by omega) (fun h_30 => by exact absurd h_30 (by decide)) (fun h_30 => ?_)
        refine R_aload_n dX8_findBreaks_33 rfl ?_
        refine R_iload_n dX8_findBreaks_34 rfl ?_
        refine R_iload_n dX8_findBreaks_35 rfl ?_
        refine R_callV (mc := mX8_findBest) (As := [_, _]) (r := 0) dX8_findBreaks_36 lm_RX8_245 mv_X8_findBest rfl (by decide) rfl rfl rfl rfl (Nat.le_of_ble_eq_true rfl) (m_best hXK hB hK2 hY4 hu (by omega)) ?_
        rintro _ _ ⟨rfl, hF, hO1⟩
        have hO2 := hO.tr hO1.sb
        have e14 : _ = K.1 14 := funext fun k => (hO1 14 k (by unfold sSc; omega)).1
        have e15 : _ = K.1 15 := funext fun k => (hO1 15 k (by unfold sSc; omega)).1
        refine R_iconst (v := nI 0) dX8_findBreaks_39 rfl ?_
        refine R_istore (L' := [(0, .ref 0), (1, .int (nI u)), (2, .int (nI v_)), (3, .int (nI 0)), (4, .int (nI 0))]) dX8_findBreaks_40 (by decide) (qs1 rfl (qs1 rfl (qs1 rfl (qs1 rfl (qs1 rfl qs0))))) ?_
        refine R_ls (L' := [(0, .ref 0), (1, .int (nI u)), (2, .int (nI v_)), (3, .int (nI 0)), (4, .int (nI 0))]) (qs1 rfl (qs1 rfl (qs1 rfl (qs1 rfl (qs1 rfl qs0))))) ?_
        exact (m_brW (w := w) hB hF (fun W hW => m_br74 hK6 hv1 (by omega) (fun t ht => by rw [Fb_lt d hv1, hp, Bool.true_and]; exact hW t (by omega)) hO2 (h14.off e14) (h15.off e15) (fun K hO h14 h15 => ih (v_ + 1) K (by omega) (by omega) (by omega) hO h14 h15)) (bN d u v_ + 2) 0 (nI 0) (by omega) (Nat.zero_le _) (fun t ht => bit_zero t))
      · refine R_if_eqN (tgt := 74) dX8_findBreaks_30 (by decide) (by omega) (fun h_30 => ?_) (fun h_30 => by exact absurd h_30 (by decide))
        refine R_ls (L' := [(0, .ref 0), (1, .int (nI u)), (2, .int (nI v_)), (3, .int (nI 0))]) (qs1 rfl (qs1 rfl (qs1 rfl (qs1 rfl qs0)))) ?_
        exact (m_br74 hK6 hv1 (by omega) (fun t ht => by rw [Fb_lt d hv1, bit_zero, Bool.eq_false_iff.mpr hp]; rfl) hO h14 h15 (fun K hO h14 h15 => ih (v_ + 1) K (by omega) (by omega) (by omega) hO h14 h15))
set_option maxRecDepth 100000 in
set_option maxHeartbeats 4000000 in
theorem m_brU {w : qWT} {M : qMem} {d : dT} (hX : MR M d) (hB : dB d) (hK2 : 2 ≤ dK d) (hY4 : 4 ≤ dY d) : ∀ (fu : Nat) (u : Nat) (K : qMem), (dK d + 1 - u) < fu → (u ≤ dK d) → (cOff sBr M K) → (PW K 14 d u (u + 1)) → (PW K 15 d u (u + 1)) → qRW 1 w mX8_findBreaks 2 [(0, .ref 0), (1, .int (nI u))] [] K (fun v N => v = none ∧ BW N 14 d (Fb d) ∧ BW N 15 d (Fb d) ∧ cOff sBr M N) := by
  intro fu
  induction fu with
  | zero => intro u K hn; exact absurd hn (Nat.not_lt_zero _)
  | succ fu ih =>
    intro u K hn hu hO h14 h15
    have hK6 := hB.2.1
    have hY16 := hB.1
    have hXK := hX.br hO
    refine R_iload_n dX8_findBreaks_2 rfl ?_
    refine R_aload_n dX8_findBreaks_3 rfl ?_
    refine R_getI dX8_findBreaks_4 (lf_RX8_148).get (by decide) rfl rfl ?_
    refine R_top (y := nI (dK d)) hXK.1.1 ?_
    refine R_icmp_geN (tgt := 134) dX8_findBreaks_7 (by decide) (by omega) (by omega) (fun h_7 => ?_) (fun h_7 => ?_)
    · refine R_return dX8_findBreaks_134 rfl ?_
      exact ⟨rfl, PW_BW h14 (by omega), PW_BW h15 (by omega), hO⟩
    · refine R_iload_n dX8_findBreaks_10 rfl ?_
      refine R_iconst (v := nI 1) dX8_findBreaks_11 rfl ?_
      refine R_iaddN dX8_findBreaks_12 ?_
      refine R_istore_n (L' := [(0, .ref 0), (1, .int (nI u)), (2, .int (nI (u + 1)))]) dX8_findBreaks_13 (by decide) (qs1 rfl (qs1 rfl (qs1 rfl qs0))) ?_
      refine R_ls (L' := [(0, .ref 0), (1, .int (nI u)), (2, .int (nI (u + 1)))]) (qs1 rfl (qs1 rfl (qs1 rfl qs0))) ?_
      exact (m_brV (w := w) hX hB hK2 hY4 (by omega) (fun K hO h14 h15 => by refine R_iincN (n := 1) (L' := [(0, .ref 0), (1, .int (nI (u + 1)))]) dX8_findBreaks_128 rfl (by decide) (qs1 rfl (qs1 rfl qs0)) ?_; refine R_goto (tgt := 2) dX8_findBreaks_131 (by decide) ?_; exact ih (u + 1) K (by omega) (by omega) hO h14 h15) 20 (u + 1) K (by omega) (by omega) (Or.inr rfl) hO h14 h15)
set_option maxRecDepth 100000 in
set_option maxHeartbeats 4000000 in
theorem m_breaks {M : qMem} {d : dT} (hX : MR M d) (hB : dB d) (hK2 : 2 ≤ dK d) (hY4 : 4 ≤ dY d) : qSem 1 mX8_findBreaks [.ref 0] M (fun v N => v = none ∧ BW N 14 d (Fb d) ∧ BW N 15 d (Fb d) ∧ cOff sBr M N) := by
  have hK6 := hB.2.1
  refine qSem.of (by decide +kernel) (Nat.le_of_ble_eq_true rfl) (fun w => ?_)
  refine R_ls (L' := [(0, .ref 0)]) (qs1 rfl qs0) ?_
  refine R_iconst (v := nI 0) dX8_findBreaks_0 rfl ?_
  refine R_istore_n (L' := [(0, .ref 0), (1, .int (nI 0))]) dX8_findBreaks_1 (by decide) (qs1 rfl (qs1 rfl qs0)) ?_
  refine R_ls (L' := [(0, .ref 0), (1, .int (nI 0))]) (qs1 rfl (qs1 rfl qs0)) ?_
  exact (m_brU hX hB hK2 hY4 (dK d + 2) 0 M (by omega) (Nat.zero_le _) cOff.rf (fun a b t h1 h2 h3 => by omega) (fun a b t h1 h2 h3 => by omega))
