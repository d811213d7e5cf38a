
theorem XG_c.off {M N : qMem} {l : List (Nat × Int32)} {R p : Nat} (h : XG_c M l R p) (e : ∀ o, 112 ≤ o → o ≤ 116 → N.1 o = M.1 o ∧ N.2 o = M.2 o) : XG_c N l R p :=
  ⟨by rw [(e 112 (by omega) (by omega)).2]; exact h.1, by rw [(e 113 (by omega) (by omega)).1]; exact h.2.1, fun m hm => by rw [(e 116 (by omega) (by omega)).1]; exact h.2.2 m hm⟩
def CA (N : qMem) (d : dT) (P : pT) (B : Nat → Nat → Bool) : Prop := CB N P ∧ CO N P B ∧ CZ N P.length ∧ CH N P d ∧ CV 74 N P B ∧ CV 80 N P B
/-- a pair is being added: k of its breaks -/
def APi (M K : qMem) (d : dT) (P : pT) (B : Nat → Nat → Bool) (u v k : Nat) : Prop := XS_c K (ser d u v) ∧ XG_c K (ser d u v) (dR d 0) (dR d 4) ∧ K.1 36 2 = nI P.length ∧ K.1 37 = upd (M.1 37) P.length (nI u) ∧ K.1 38 = upd (M.1 38) P.length (nI v) ∧
  (∀ p, p < 15 → p ≠ P.length → K.1 (44 + p) = M.1 (44 + p) ∧ K.2 (59 + p) = M.2 (59 + p)) ∧ (∀ t, t < 16 → K.1 (44 + P.length) t = (if brT d u v t k then nI 1 else nI 0)) ∧ (∀ t, t < 16 → brT d u v t k = true → K.2 (59 + P.length) t = shT d u v t k) ∧
  (∀ c t, c < 6 → t < 16 → K.1 (74 + c) t = nI (cnt P B c t + (if (decide (u = c) || decide (v = c)) && brT d u v t k then 1 else 0)) ∧ K.1 (80 + c) t = nI (cnt P B c t + (if (decide (u = c) || decide (v = c)) && brT d u v t k then 1 else 0))) ∧ qOff oCu M K ∧ K.1 36 1 = M.1 36 1 ∧ K.1 36 9 = M.1 36 9
theorem nI_if (n : Nat) (b : Bool) : nI (n + (if b then 1 else 0)) = nI (n + (if b then 1 else 0)) := rfl
theorem APi_step {M K : qMem} {d : dT} {P : pT} {B : Nat → Nat → Bool} {u v k : Nat} (h : APi M K d P B u v k) (hB : dB d) (hu : u < 6) (hv : v < 6) (huv : u < v) (hP : P.length < 15) (hk : k < bN d u v) :
    APi M (qIs (qIs (qIs (qIs (qLs (qIs K (44 + P.length) (bY d u v k) (nI 1)) (59 + P.length) (bY d u v k) (bSh d u v k)) (74 + u) (bY d u v k) (nI (cnt P B u (bY d u v k) + 1))) (74 + v) (bY d u v k) (nI (cnt P B v (bY d u v k) + 1))) (80 + u) (bY d u v k) (nI (cnt P B u (bY d u v k) + 1))) (80 + v) (bY d u v k) (nI (cnt P B v (bY d u v k) + 1))) d P B u v (k + 1) := by
  obtain ⟨h1, h2, h3, h4, h5, h6, h7, h8, h9, h10, h11, h12⟩ := h
  have hf := brT_new hB hk k (Nat.le_refl k)
  have hy : bY d u v k < 16 := Nat.lt_of_lt_of_le (bY_lt hB hk) hB.1
  have e1 : ∀ t, brT d u v t (k + 1) = (brT d u v t k || decide (bY d u v k = t)) := fun t => rfl
  have e2 : ∀ t, shT d u v t (k + 1) = if bY d u v k = t then bSh d u v k else shT d u v t k := fun t => rfl
  generalize bY d u v k = y at *
  refine ⟨h1.off (fun o a b => ⟨by rw [qIs_no (by omega), qIs_no (by omega), qIs_no (by omega), qIs_no (by omega), qLs_1, qIs_no (by omega)], by rw [qIs_2, qIs_2, qIs_2, qIs_2, qLs_no (by omega), qIs_2]⟩), h2.off (fun o a b => ⟨by rw [qIs_no (by omega), qIs_no (by omega), qIs_no (by omega), qIs_no (by omega), qLs_1, qIs_no (by omega)], by rw [qIs_2, qIs_2, qIs_2, qIs_2, qLs_no (by omega), qIs_2]⟩), ?_, ?_, ?_, fun p hp hne => ⟨?_, ?_⟩, fun t ht => ?_, fun t ht hb => ?_, fun c t hc ht => ⟨?_, ?_⟩, ?_, ?_, ?_⟩
  · rw [qIs_no (by omega), qIs_no (by omega), qIs_no (by omega), qIs_no (by omega), qLs_1, qIs_no (by omega)]; exact h3
  · rw [qIs_no (by omega), qIs_no (by omega), qIs_no (by omega), qIs_no (by omega), qLs_1, qIs_no (by omega)]; exact h4
  · rw [qIs_no (by omega), qIs_no (by omega), qIs_no (by omega), qIs_no (by omega), qLs_1, qIs_no (by omega)]; exact h5
  · rw [qIs_no (by omega), qIs_no (by omega), qIs_no (by omega), qIs_no (by omega), qLs_1, qIs_no (by omega)]; exact (h6 p hp hne).1
  · rw [qIs_2, qIs_2, qIs_2, qIs_2, qLs_no (by omega), qIs_2]; exact (h6 p hp hne).2
  · rw [qIs_no (by omega), qIs_no (by omega), qIs_no (by omega), qIs_no (by omega), qLs_1, e1]
    by_cases e : t = y
    · subst e; rw [qIs_eq]; simp
    · rw [qIs_nk e, h7 t ht, decide_eq_false (Ne.symm e), Bool.or_false]
  · rw [qIs_2, qIs_2, qIs_2, qIs_2, e2]
    rw [e1] at hb
    by_cases e : t = y
    · subst e; rw [qLs_eq, if_pos rfl]
    · rw [qLs_nk e, if_neg (Ne.symm e), qIs_2]
      rw [decide_eq_false (Ne.symm e), Bool.or_false] at hb
      exact h8 t ht hb
  · rw [qIs_no (by omega), qIs_no (by omega), e1]
    by_cases e : t = y
    · subst e
      rw [hf, Bool.false_or, decide_eq_true rfl, Bool.and_true]
      by_cases e5 : c = v
      · subst e5; rw [qIs_eq]; simp
      · rw [qIs_no (by omega)]
        by_cases e6 : c = u
        · subst e6; rw [qIs_eq]; simp
        · rw [qIs_no (by omega), qLs_1, qIs_no (by omega), (h9 c t hc ht).1, hf, decide_eq_false (Ne.symm e5), decide_eq_false (Ne.symm e6)]; simp
    · rw [qIs_nk e, qIs_nk e, qLs_1, qIs_no (by omega), (h9 c t hc ht).1, decide_eq_false (Ne.symm e), Bool.or_false]
  · rw [e1]
    by_cases e : t = y
    · subst e
      rw [hf, Bool.false_or, decide_eq_true rfl, Bool.and_true]
      by_cases e5 : c = v
      · subst e5; rw [qIs_eq]; simp
      · rw [qIs_no (by omega)]
        by_cases e6 : c = u
        · subst e6; rw [qIs_eq]; simp
        · rw [qIs_no (by omega), qIs_no (by omega), qIs_no (by omega), qLs_1, qIs_no (by omega), (h9 c t hc ht).2, hf, decide_eq_false (Ne.symm e5), decide_eq_false (Ne.symm e6)]; simp
    · rw [qIs_nk e, qIs_nk e, qIs_no (by omega), qIs_no (by omega), qLs_1, qIs_no (by omega), (h9 c t hc ht).2, decide_eq_false (Ne.symm e), Bool.or_false]
  · exact qOff.is (qOff.is (qOff.is (qOff.is (qOff.ls (qOff.is h10 (by unfold oCu; omega)) (by unfold oCu; omega)) (by unfold oCu; omega)) (by unfold oCu; omega)) (by unfold oCu; omega)) (by unfold oCu; omega)
  · rw [qIs_no (by omega), qIs_no (by omega), qIs_no (by omega), qIs_no (by omega), qLs_1, qIs_no (by omega)]; exact h11
  · rw [qIs_no (by omega), qIs_no (by omega), qIs_no (by omega), qIs_no (by omega), qLs_1, qIs_no (by omega)]; exact h12
theorem APi_end {M K : qMem} {d : dT} {P : pT} {B : Nat → Nat → Bool} {u v : Nat} (h : APi M K d P B u v (bN d u v)) (hu : u < 6) (hv : v < 6) (hP : P.length < 15) (hA : CA M d P B) : CA (qIs K 36 2 (nI (P.length + 1))) d (P ++ [(u, v)]) (addB P B (brk d u v)) := by
  obtain ⟨h1, h2, h3, h4, h5, h6, h7, h8, h9, h10, h11, h12⟩ := h
  obtain ⟨a1, a2, a3, a4, a5, a6⟩ := hA
  have hl : (P ++ [(u, v)]).length = P.length + 1 := by simp
  refine ⟨⟨by rw [qIs_eq, hl], by omega, fun p hp => ?_⟩, fun p t hp ht => ?_, fun p t hp hp2 ht => ?_, fun p t hp ht hb => ?_, fun c t hc ht => ?_, fun c t hc ht => ?_⟩
  · rw [qIs_no (by omega), qIs_no (by omega), h4, h5]
    rcases Nat.lt_or_ge p P.length with q | q
    · rw [pk_un (show p ≠ P.length by omega), pk_un (show p ≠ P.length by omega), (pf_app q).1, (pf_app q).2]; exact a1.2.2 p q
    · have e : p = P.length := by omega
      subst e; rw [pk_us, pk_us, pf_last.1, pf_last.2]; exact ⟨rfl, rfl, hu, hv⟩
  · rw [qIs_no (by omega)]
    rcases Nat.lt_or_ge p P.length with q | q
    · rw [(h6 p (by omega) (by omega)).1, a2 p t q ht, show addB P B (brk d u v) p t = B p t from if_neg (by omega)]
    · have e : p = P.length := by omega
      subst e; rw [h7 t ht, show addB P B (brk d u v) P.length t = brk d u v t from if_pos rfl]; rfl
  · rw [qIs_no (by omega), (h6 p hp2 (by omega)).1]; exact a3 p t (by omega) hp2 ht
  · rw [qIs_2]
    rcases Nat.lt_or_ge p P.length with q | q
    · rw [(pf_app q).1, (pf_app q).2] at hb ⊢
      rw [(h6 p (by omega) (by omega)).2]; exact a4 p t q ht hb
    · have e : p = P.length := by omega
      subst e; rw [pf_last.1, pf_last.2] at hb ⊢; exact h8 t ht hb
  · rw [qIs_no (by omega), (h9 c t hc ht).1, cnt_add]; rfl
  · rw [qIs_no (by omega), (h9 c t hc ht).2, cnt_add]; rfl
theorem APi_0 {M K : qMem} {d : dT} {P : pT} {B : Nat → Nat → Bool} {u v : Nat} (hP : P.length < 15) (hA : CA M d P B) (hS : XS_c K (ser d u v)) (hG : XG_c K (ser d u v) (dR d 0) (dR d 4))
    (e : ∀ o, o < 106 ∨ 117 ≤ o → K.1 o = (qIs (qIs M 37 P.length (nI u)) 38 P.length (nI v)).1 o ∧ K.2 o = M.2 o) : APi M K d P B u v 0 := by
  refine ⟨hS, hG, ?_, ?_, ?_, fun p hp hne => ⟨?_, ?_⟩, fun t ht => ?_, fun t ht hb => (by cases hb), fun c t hc ht => ⟨?_, ?_⟩, fun o ho => ?_, ?_, ?_⟩
  · rw [(e 36 (by omega)).1, qIs_no (by omega), qIs_no (by omega)]; exact hA.1.1
  · rw [(e 37 (by omega)).1, qIs_no (by omega), qIs_u]
  · rw [(e 38 (by omega)).1, qIs_u, qIs_no (by omega)]
  · rw [(e (44 + p) (by omega)).1, qIs_no (by omega), qIs_no (by omega)]
  · rw [(e (59 + p) (by omega)).2]
  · rw [(e (44 + P.length) (by omega)).1, qIs_no (by omega), qIs_no (by omega)]; exact hA.2.2.1 _ t (Nat.le_refl _) hP ht
  · rw [(e (74 + c) (by omega)).1, qIs_no (by omega), qIs_no (by omega), show brT d u v t 0 = false from rfl, Bool.and_false]; exact hA.2.2.2.2.1 c t hc ht
  · rw [(e (80 + c) (by omega)).1, qIs_no (by omega), qIs_no (by omega), show brT d u v t 0 = false from rfl, Bool.and_false]; exact hA.2.2.2.2.2 c t hc ht
  · have ho : ¬ ((36 ≤ o ∧ o < 90) ∨ (106 ≤ o ∧ o < 117)) := ho
    exact ⟨by rw [(e o (by omega)).1, qIs_no (by omega), qIs_no (by omega)], (e o (by omega)).2⟩
  · rw [(e 36 (by omega)).1, qIs_no (by omega), qIs_no (by omega)]
  · rw [(e 36 (by omega)).1, qIs_no (by omega), qIs_no (by omega)]
set_option maxRecDepth 100000 in
set_option maxHeartbeats 4000000 in
theorem l_addP {w : qWT} {M : qMem} {d : dT} {P : pT} {B : Nat → Nat → Bool} (hX : XR 14 M d) (hB : dB d) {u v_ : Nat} (hu : u < dK d) (hv : v_ < dK d) (huv : u < v_) (hP : P.length < 15) (hA : CA M d P B) : ∀ (fu : Nat) (k : Nat) (K : qMem), (17 - k) < fu → (k ≤ bN d u v_) → (APi M K d P B u v_ k) → qRW 0 w mX0_addPair 59 [(0, .ref 36), (1, .ref 14), (2, .int (nI u)), (3, .int (nI v_)), (4, .int (nI k))] [] K (fun v N => v = none ∧ CA N d (P ++ [(u, v_)]) (addB P B (brk d u v_)) ∧ XZ_c N ∧ qOff oCu M N ∧ N.1 36 1 = M.1 36 1 ∧ N.1 36 9 = M.1 36 9) := by
  intro fu
  induction fu with
  | zero => intro k K hn; exact absurd hn (Nat.not_lt_zero _)
  | succ fu ih =>
    intro k K hn hk hI
    have hK6 := hB.2.1
    have h15 := bN_le d u v_
    have hXK : XR 14 K d := hX.off hK6 (fun o h1 h2 => (hI.2.2.2.2.2.2.2.2.2.1 o (by unfold oCu; omega)).1)
    refine R_iload dX0_addPair_59 rfl ?_
    refine R_aload_n dX0_addPair_61 rfl ?_
    refine R_getR dX0_addPair_62 lg_RX0_12 (by decide) rfl rfl ?_
    refine R_callV (mc := mX5_breakCount) (As := []) (r := 111) dX0_addPair_65 lm_RX0_94 mv_X5_breakCount rfl (by decide) rfl rfl rfl rfl (Nat.le_of_ble_eq_true rfl) (c_bcount_c hI.2.1) ?_
    rintro _ _ ⟨rfl, rfl⟩
    refine R_top (y := nI (bN d u v_)) rfl ?_
    refine R_icmp_geN (tgt := 174) dX0_addPair_68 (by decide) (by omega) (by omega) (fun h_75 => ?_) (fun h_75 => ?_)
    · refine R_aload_n dX0_addPair_174 rfl ?_
      refine R_dup dX0_addPair_175 rfl ?_
      refine R_getI dX0_addPair_176 (lf_RX0_77).get (by decide) rfl rfl ?_
      refine R_top (y := nI P.length) hI.2.2.1 ?_
      refine R_iconst (v := nI 1) dX0_addPair_179 rfl ?_
      refine R_iaddN dX0_addPair_180 ?_
      refine R_putI dX0_addPair_181 lf_RX0_77 (by decide) rfl rfl rfl rfl ?_
      refine R_return dX0_addPair_184 rfl ?_
      have e : k = bN d u v_ := by omega
      subst e
      exact ⟨rfl, APi_end hI (by omega) (by omega) hP hA, hI.1.Z, qOff.is hI.2.2.2.2.2.2.2.2.2.1 (by unfold oCu; omega), by rw [qIs_nk (by decide)]; exact hI.2.2.2.2.2.2.2.2.2.2.1, by rw [qIs_nk (by decide)]; exact hI.2.2.2.2.2.2.2.2.2.2.2⟩
    · refine R_aload_n dX0_addPair_71 rfl ?_
      refine R_getR dX0_addPair_72 lg_RX0_12 (by decide) rfl rfl ?_
      refine R_iload dX0_addPair_75 rfl ?_
      refine R_callV (mc := mX5_breakYear) (As := [_]) (r := 111) dX0_addPair_77 lm_RX0_97 mv_X5_breakYear rfl (by decide) rfl rfl rfl rfl (Nat.le_of_ble_eq_true rfl) (c_byear_c hI.2.1 hI.1 hB.2.2.2.1.1 h_75) ?_
      rintro _ _ ⟨rfl, rfl⟩
      refine R_top (y := nI (bY d u v_ k)) rfl ?_
      have hy : bY d u v_ k < 16 := Nat.lt_of_lt_of_le (bY_lt hB h_75) hB.1
      have hf := brT_new hB h_75 k (Nat.le_refl k)
      have hcu := hI.2.2.2.2.2.2.2.2.1 u (bY d u v_ k) (by omega) hy
      have hcv := hI.2.2.2.2.2.2.2.2.1 v_ (bY d u v_ k) (by omega) hy
      rw [hf, Bool.and_false] at hcu hcv
      have hn1 := cnI_le P B u (bY d u v_ k) P.length
      have hn2 := cnI_le P B v_ (bY d u v_ k) P.length
      refine R_istore (L' := [(0, .ref 36), (1, .ref 14), (2, .int (nI u)), (3, .int (nI v_)), (4, .int (nI k)), (5, .int (nI (bY d u v_ k)))]) dX0_addPair_80 (by decide) (qs1 rfl (qs1 rfl (qs1 rfl (qs1 rfl (qs1 rfl (qs1 rfl qs0)))))) ?_
      refine R_aload_n dX0_addPair_82 rfl ?_
      refine R_getR dX0_addPair_83 lg_RX0_31 (by decide) rfl rfl ?_
      refine R_aload_n dX0_addPair_86 rfl ?_
      refine R_getI dX0_addPair_87 (lf_RX0_77).get (by decide) rfl rfl ?_
      refine R_top (y := nI P.length) hI.2.2.1 ?_
      refine R_aald3N dX0_addPair_90 (by decide) rfl (by omega) (by decide) ?_
      refine R_iload dX0_addPair_91 rfl ?_
      refine R_iconst (v := nI 1) dX0_addPair_93 rfl ?_
      refine R_iastN dX0_addPair_94 (show 44 + P.length < 117 by have := ((by omega) : P.length < 15); omega) (sh_opn (by omega)) (by omega) (by decide) ?_
      refine R_aload_n dX0_addPair_95 rfl ?_
      refine R_getR dX0_addPair_96 lg_RX0_36 (by decide) rfl rfl ?_
      refine R_aload_n dX0_addPair_99 rfl ?_
      refine R_getI dX0_addPair_100 (lf_RX0_77).get (by decide) rfl rfl ?_
      refine R_top (y := nI P.length) (by rw [qIs_no (by omega)]; exact hI.2.2.1) ?_
      refine R_aald4N dX0_addPair_103 (by decide) rfl (by omega) (by decide) ?_
      refine R_iload dX0_addPair_104 rfl ?_
      refine R_aload_n dX0_addPair_106 rfl ?_
      refine R_getR dX0_addPair_107 lg_RX0_12 (by decide) rfl rfl ?_
      refine R_iload dX0_addPair_110 rfl ?_
      refine R_callV (mc := mX5_scaledShift) (As := [_]) (r := 111) dX0_addPair_112 lm_RX0_100 mv_X5_scaledShift rfl (by decide) rfl rfl rfl rfl (Nat.le_of_ble_eq_true rfl) (c_shN_c (hI.2.1.off (fun o h1 h2 => ⟨qIs_no (by omega), rfl⟩)) (hI.1.off (fun o h1 h2 => ⟨qIs_no (by omega), rfl⟩)) hB.2.2.2.1.1 h_75) ?_
      rintro _ _ ⟨rfl, rfl⟩
      refine R_lastN dX0_addPair_115 (show 59 + P.length < 117 by have := ((by omega) : P.length < 15); omega) (sh_shf (by omega)) (by omega) (by decide) ?_
      refine R_aload_n dX0_addPair_116 rfl ?_
      refine R_getR dX0_addPair_117 lg_RX0_39 (by decide) rfl rfl ?_
      refine R_iload_n dX0_addPair_120 rfl ?_
      refine R_aald3N dX0_addPair_121 (by decide) rfl (by omega) (by decide) ?_
      refine R_iload dX0_addPair_122 rfl ?_
      refine R_dup2 dX0_addPair_124 rfl rfl ?_
      refine R_ialdN dX0_addPair_125 (show 74 + u < 117 by have := ((by omega) : u < 6); omega) (sh_cas (by omega)) (by omega) (by decide) ?_
      refine R_top (y := nI (cnt P B u (bY d u v_ k))) (by rw [qLs_1, qIs_no (by omega)]; exact hcu.1) ?_
      refine R_iconst (v := nI 1) dX0_addPair_126 rfl ?_
      refine R_iaddN dX0_addPair_127 ?_
      refine R_iastN dX0_addPair_128 (show 74 + u < 117 by have := ((by omega) : u < 6); omega) (sh_cas (by omega)) (by omega) (by decide) ?_
      refine R_aload_n dX0_addPair_129 rfl ?_
      refine R_getR dX0_addPair_130 lg_RX0_39 (by decide) rfl rfl ?_
      refine R_iload_n dX0_addPair_133 rfl ?_
      refine R_aald3N dX0_addPair_134 (by decide) rfl (by omega) (by decide) ?_
      refine R_iload dX0_addPair_135 rfl ?_
      refine R_dup2 dX0_addPair_137 rfl rfl ?_
      refine R_ialdN dX0_addPair_138 (show 74 + v_ < 117 by have := ((by omega) : v_ < 6); omega) (sh_cas (by omega)) (by omega) (by decide) ?_
      refine R_top (y := nI (cnt P B v_ (bY d u v_ k))) (by rw [qIs_no (by omega), qLs_1, qIs_no (by omega)]; exact hcv.1) ?_
      refine R_iconst (v := nI 1) dX0_addPair_139 rfl ?_
      refine R_iaddN dX0_addPair_140 ?_
      refine R_iastN dX0_addPair_141 (show 74 + v_ < 117 by have := ((by omega) : v_ < 6); omega) (sh_cas (by omega)) (by omega) (by decide) ?_
      refine R_aload_n dX0_addPair_142 rfl ?_
      refine R_getR dX0_addPair_143 lg_RX0_42 (by decide) rfl rfl ?_
      refine R_iload_n dX0_addPair_146 rfl ?_
      refine R_aald3N dX0_addPair_147 (by decide) rfl (by omega) (by decide) ?_
      refine R_iload dX0_addPair_148 rfl ?_
      refine R_dup2 dX0_addPair_150 rfl rfl ?_
      refine R_ialdN dX0_addPair_151 (show 80 + u < 117 by have := ((by omega) : u < 6); omega) (sh_lef (by omega)) (by omega) (by decide) ?_
      refine R_top (y := nI (cnt P B u (bY d u v_ k))) (by rw [qIs_no (by omega), qIs_no (by omega), qLs_1, qIs_no (by omega)]; exact hcu.2) ?_
      refine R_iconst (v := nI 1) dX0_addPair_152 rfl ?_
      refine R_iaddN dX0_addPair_153 ?_
      refine R_iastN dX0_addPair_154 (show 80 + u < 117 by have := ((by omega) : u < 6); omega) (sh_lef (by omega)) (by omega) (by decide) ?_
      refine R_aload_n dX0_addPair_155 rfl ?_
      refine R_getR dX0_addPair_156 lg_RX0_42 (by decide) rfl rfl ?_
      refine R_iload_n dX0_addPair_159 rfl ?_
      refine R_aald3N dX0_addPair_160 (by decide) rfl (by omega) (by decide) ?_
      refine R_iload dX0_addPair_161 rfl ?_
      refine R_dup2 dX0_addPair_163 rfl rfl ?_
      refine R_ialdN dX0_addPair_164 (show 80 + v_ < 117 by have := ((by omega) : v_ < 6); omega) (sh_lef (by omega)) (by omega) (by decide) ?_
      refine R_top (y := nI (cnt P B v_ (bY d u v_ k))) (by rw [qIs_no (by omega), qIs_no (by omega), qIs_no (by omega), qLs_1, qIs_no (by omega)]; exact hcv.2) ?_
      refine R_iconst (v := nI 1) dX0_addPair_165 rfl ?_
      refine R_iaddN dX0_addPair_166 ?_
      refine R_iastN dX0_addPair_167 (show 80 + v_ < 117 by have := ((by omega) : v_ < 6); omega) (sh_lef (by omega)) (by omega) (by decide) ?_
      refine R_iincN (n := 1) (L' := [(0, .ref 36), (1, .ref 14), (2, .int (nI u)), (3, .int (nI v_)), (4, .int (nI (k + 1))), (5, .int (nI (bY d u v_ k)))]) dX0_addPair_168 rfl (by decide) (qs1 rfl (qs1 rfl (qs1 rfl (qs1 rfl (qs1 rfl (qs1 rfl qs0)))))) ?_
      refine R_goto (tgt := 59) dX0_addPair_171 (by decide) ?_
      refine R_ls (L' := [(0, .ref 36), (1, .ref 14), (2, .int (nI u)), (3, .int (nI v_)), (4, .int (nI (k + 1)))]) (qs1 rfl (qs1 rfl (qs1 rfl (qs1 rfl (qs1 rfl qs0))))) ?_
      exact (ih (k + 1) _ (by omega) h_75 (APi_step hI hB (by omega) (by omega) huv hP h_75))
set_option maxRecDepth 100000 in
set_option maxHeartbeats 4000000 in
theorem c_addPair {M : qMem} {d : dT} {P : pT} {B : Nat → Nat → Bool} (hX : XR 14 M d) (hB : dB d) {u v_ : Nat} (hu : u < dK d) (hv : v_ < dK d) (huv : u < v_) (hP : P.length < 15) (hA : CA M d P B) (hZ : XZ_c M) : qSem 0 mX0_addPair [.ref 36, .ref 14, .int (nI u), .int (nI v_)] M (fun v N => v = none ∧ CA N d (P ++ [(u, v_)]) (addB P B (brk d u v_)) ∧ XZ_c N ∧ qOff oCu M N ∧ N.1 36 1 = M.1 36 1 ∧ N.1 36 9 = M.1 36 9) := by
  have hK6 := hB.2.1
  have hR1 := hB.2.2.2.1.1
  have hR4 := hB.2.2.2.1.2
  have hp5 := hB.2.2.2.2.2.2.2
  refine qSem.of (by decide +kernel) (Nat.le_of_ble_eq_true rfl) (fun w => ?_)
  refine R_ls (L' := [(0, .ref 36), (1, .ref 14), (2, .int (nI u)), (3, .int (nI v_))]) (qs1 rfl (qs1 rfl (qs1 rfl (qs1 rfl qs0)))) ?_
  refine R_aload_n dX0_addPair_0 rfl ?_
  refine R_getI dX0_addPair_1 (lf_RX0_77).get (by decide) rfl rfl ?_
  refine R_top (y := nI P.length) hA.1.1 ?_
  refine R_bipush (v := nI 15) dX0_addPair_4 rfl ?_
  refine R_icmp_ltN (tgt := 10) dX0_addPair_6 (by decide) (by omega) (by omega) (fun h_6 => ?_) (fun h_6 => by omega)
  refine R_aload_n dX0_addPair_10 rfl ?_
  refine R_getR dX0_addPair_11 lg_RX0_22 (by decide) rfl rfl ?_
  refine R_aload_n dX0_addPair_14 rfl ?_
  refine R_getI dX0_addPair_15 (lf_RX0_77).get (by decide) rfl rfl ?_
  refine R_top (y := nI P.length) hA.1.1 ?_
  refine R_iload_n dX0_addPair_18 rfl ?_
  refine R_iastN dX0_addPair_19 (by decide) rfl (by omega) (by decide) ?_
  refine R_aload_n dX0_addPair_20 rfl ?_
  refine R_getR dX0_addPair_21 lg_RX0_26 (by decide) rfl rfl ?_
  refine R_aload_n dX0_addPair_24 rfl ?_
  refine R_getI dX0_addPair_25 (lf_RX0_77).get (by decide) rfl rfl ?_
  refine R_top (y := nI P.length) (by rw [qIs_no (by omega)]; exact hA.1.1) ?_
  refine R_iload_n dX0_addPair_28 rfl ?_
  refine R_iastN dX0_addPair_29 (by decide) rfl (by omega) (by decide) ?_
  refine R_aload_n dX0_addPair_30 rfl ?_
  refine R_getR dX0_addPair_31 lg_RX0_12 (by decide) rfl rfl ?_
  refine R_aload_n dX0_addPair_34 rfl ?_
  refine R_iload_n dX0_addPair_35 rfl ?_
  refine R_iload_n dX0_addPair_36 rfl ?_
  refine R_callV (mc := mX5_compare) (As := [_, _, _]) (r := 111) dX0_addPair_37 lm_RX0_80 mv_X5_compare rfl (by decide) rfl rfl rfl rfl (Nat.le_of_ble_eq_true rfl) (c_gcompare_c (M := qIs (qIs M 37 P.length (nI u)) 38 P.length (nI v_)) (hX.off hK6 (fun o h1 h2 => by rw [qIs_no (by omega), qIs_no (by omega)])) hB hZ hu hv) ?_
  rintro _ _ ⟨rfl, hS, hO1⟩
  refine R_aload_n dX0_addPair_40 rfl ?_
  refine R_getR dX0_addPair_41 lg_RX0_12 (by decide) rfl rfl ?_
  refine R_aload_n dX0_addPair_44 rfl ?_
  refine R_iconst (v := nI 0) dX0_addPair_45 rfl ?_
  refine R_callV (mc := mX3_ruleOf) (As := [_]) (r := 14) dX0_addPair_46 lm_RX0_83 mv_X3_ruleOf rfl (by decide) rfl rfl rfl rfl (Nat.le_of_ble_eq_true rfl) (c_ruleOf_14 (by omega)) ?_
  rintro _ _ ⟨rfl, rfl⟩
  refine R_top (y := nI (dR d 0)) (by rw [(hO1 18 (by unfold oSe_c; omega)).1, qIs_no (by omega), qIs_no (by omega)]; exact hX.2.2.2.2.2.2 0 (by omega)) ?_
  refine R_aload_n dX0_addPair_49 rfl ?_
  refine R_callV (mc := mX3_breakPenalty) (As := []) (r := 14) dX0_addPair_50 lm_RX0_87 mv_X3_breakPenalty rfl (by decide) rfl rfl rfl rfl (Nat.le_of_ble_eq_true rfl) c_breakPenalty_14 ?_
  rintro _ _ ⟨rfl, rfl⟩
  refine R_top (y := nI (dR d 4)) (by rw [(hO1 14 (by unfold oSe_c; omega)).1, qIs_no (by omega), qIs_no (by omega)]; exact hX.2.2.2.2.2.1) ?_
  refine R_callV (mc := mX5_fit) (As := [_, _]) (r := 111) dX0_addPair_53 lm_RX0_90 mv_X5_fit rfl (by decide) rfl rfl rfl rfl (Nat.le_of_ble_eq_true rfl) (c_fit_c hS (ser_b hB u v_) hR1 hR4 hp5) ?_
  rintro _ _ ⟨rfl, hG, hO2⟩
  refine R_iconst (v := nI 0) dX0_addPair_56 rfl ?_
  refine R_istore (L' := [(0, .ref 36), (1, .ref 14), (2, .int (nI u)), (3, .int (nI v_)), (4, .int (nI 0))]) dX0_addPair_57 (by decide) (qs1 rfl (qs1 rfl (qs1 rfl (qs1 rfl (qs1 rfl qs0))))) ?_
  refine R_ls (L' := [(0, .ref 36), (1, .ref 14), (2, .int (nI u)), (3, .int (nI v_)), (4, .int (nI 0))]) (qs1 rfl (qs1 rfl (qs1 rfl (qs1 rfl (qs1 rfl qs0))))) ?_
  exact (l_addP hX hB hu hv huv hP hA 18 0 _ (by omega) (Nat.zero_le _) (APi_0 hP hA (hS.off (fun o h1 h2 => hO2 o (by unfold oSg_c; omega))) hG (fun o ho => ⟨(hO2 o (by unfold oSg_c; omega)).1.trans (hO1 o (by unfold oSe_c; omega)).1, (hO2 o (by unfold oSg_c; omega)).2.trans (hO1 o (by unfold oSe_c; omega)).2⟩)))
