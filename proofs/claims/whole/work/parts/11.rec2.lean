set_option maxRecDepth 100000 in
set_option maxHeartbeats 4000000 in
theorem l_cpIn {w : qWT} {M : qMem} {d : dT} (hX : XR 14 M d) (hB : dB d) {u : Nat} (hu : u < dK d) (hk : qRW 0 w mX3_countPairs 42 [(0, .ref 14), (1, .int (nI (cpTo d u + cpIn d u (dK d)))), (2, .int (nI u))] [] M (qr (nI (cpTo d (dK d))) M)) : ∀ (fu : Nat) (v : Nat), (dK d + 1 - v) < fu → (v ≤ dK d) → (u < v) → qRW 0 w mX3_countPairs 16 [(0, .ref 14), (1, .int (nI (cpTo d u + cpIn d u v))), (2, .int (nI u)), (3, .int (nI v))] [] M (qr (nI (cpTo d (dK d))) M) := by
  intro fu
  induction fu with
  | zero => intro v hn; exact absurd hn (Nat.not_lt_zero _)
  | succ fu ih =>
    intro v hn hv hu2
    have hK6 := hB.2.1
    have hT := cpTo_le d u
    have h1 := cpIn_le d u v
    have h2 : cpTo d u ≤ 36 := Nat.le_trans hT (Nat.le_trans (Nat.mul_le_mul (Nat.le_of_lt (Nat.lt_of_lt_of_le hu hK6)) hK6) (by decide))
    refine R_iload_n dX3_countPairs_16 rfl ?_
    refine R_aload_n dX3_countPairs_17 rfl ?_
    refine R_getI dX3_countPairs_18 (lf_RX3_30).get (by decide) rfl rfl ?_
    refine R_top (y := nI (dK d)) hX.2.1 ?_
    refine R_icmp_geN (tgt := 42) dX3_countPairs_21 (by decide) (by omega) (by omega) (fun h_21 => ?_) (fun h_21 => ?_)
    · have e : v = dK d := by omega
      subst e
      refine R_ls (L' := [(0, .ref 14), (1, .int (nI (cpTo d u + cpIn d u (dK d)))), (2, .int (nI u))]) (qs1 rfl (qs1 rfl (qs1 rfl qs0))) ?_
      exact hk
    · refine R_aload_n dX3_countPairs_24 rfl ?_
      refine R_iload_n dX3_countPairs_25 rfl ?_
      refine R_iload_n dX3_countPairs_26 rfl ?_
      refine R_callV (mc := mX3_arePair) (As := [_, _]) (r := 14) dX3_countPairs_27 lm_RX3_61 mv_X3_arePair rfl (by decide) rfl rfl rfl rfl (Nat.le_of_ble_eq_true rfl) (c_arePair hX hB (by omega) (by omega)) ?_
      rintro _ _ ⟨rfl, ⟨rfl, hp⟩ | ⟨rfl, hp⟩⟩
      · refine R_if_eqN (tgt := 36) dX3_countPairs_30 (by decide) (by omega) (fun h_30 => by exact absurd h_30 (by decide)) (fun h_30 => ?_)
        refine R_iincN (n := 1) (L' := [(0, .ref 14), (1, .int (nI ((cpTo d u + cpIn d u v) + 1))), (2, .int (nI u)), (3, .int (nI v))]) dX3_countPairs_33 rfl (by decide) (qs1 rfl (qs1 rfl (qs1 rfl (qs1 rfl qs0)))) ?_
        refine R_iincN (n := 1) (L' := [(0, .ref 14), (1, .int (nI ((cpTo d u + cpIn d u v) + 1))), (2, .int (nI u)), (3, .int (nI (v + 1)))]) dX3_countPairs_36 rfl (by decide) (qs1 rfl (qs1 rfl (qs1 rfl (qs1 rfl qs0)))) ?_
        refine R_goto (tgt := 16) dX3_countPairs_39 (by decide) ?_
        refine R_ls (L' := [(0, .ref 14), (1, .int (nI ((cpTo d u + cpIn d u v) + 1))), (2, .int (nI u)), (3, .int (nI (v + 1)))]) (qs1 rfl (qs1 rfl (qs1 rfl (qs1 rfl qs0)))) ?_
        exact (by have h := ih (v + 1) (by omega) (by omega) (by omega); rw [show cpIn d u (v + 1) = cpIn d u v + (if decide (u < v) && prb d u v then 1 else 0) from rfl] at h; first | (rw [if_pos (by simp [hp, hu2])] at h; exact h) | (rw [if_neg (by simp [hp])] at h; exact h))
      · refine R_if_eqN (tgt := 36) dX3_countPairs_30 (by decide) (by omega) (fun h_30 => ?_) (fun h_30 => by exact absurd h_30 (by decide))
        refine R_iincN (n := 1) (L' := [(0, .ref 14), (1, .int (nI (cpTo d u + cpIn d u v))), (2, .int (nI u)), (3, .int (nI (v + 1)))]) dX3_countPairs_36 rfl (by decide) (qs1 rfl (qs1 rfl (qs1 rfl (qs1 rfl qs0)))) ?_
        refine R_goto (tgt := 16) dX3_countPairs_39 (by decide) ?_
        refine R_ls (L' := [(0, .ref 14), (1, .int (nI (cpTo d u + cpIn d u v))), (2, .int (nI u)), (3, .int (nI (v + 1)))]) (qs1 rfl (qs1 rfl (qs1 rfl (qs1 rfl qs0)))) ?_
        exact (by have h := ih (v + 1) (by omega) (by omega) (by omega); rw [show cpIn d u (v + 1) = cpIn d u v + (if decide (u < v) && prb d u v then 1 else 0) from rfl] at h; first | (rw [if_pos (by simp [hp, hu2])] at h; exact h) | (rw [if_neg (by simp [hp])] at h; exact h))
set_option maxRecDepth 100000 in
set_option maxHeartbeats 4000000 in
theorem l_cpOut {w : qWT} {M : qMem} {d : dT} (hX : XR 14 M d) (hB : dB d) : ∀ (fu : Nat) (u : Nat), (dK d + 1 - u) < fu → (u ≤ dK d) → qRW 0 w mX3_countPairs 4 [(0, .ref 14), (1, .int (nI (cpTo d u))), (2, .int (nI u))] [] M (qr (nI (cpTo d (dK d))) M) := by
  intro fu
  induction fu with
  | zero => intro u hn; exact absurd hn (Nat.not_lt_zero _)
  | succ fu ih =>
    intro u hn hu
    have hK6 := hB.2.1
    have hT := cpTo_le d u
    have hT2 : dK d ≤ 6 := hK6
    refine R_iload_n dX3_countPairs_4 rfl ?_
    refine R_aload_n dX3_countPairs_5 rfl ?_
    refine R_getI dX3_countPairs_6 (lf_RX3_30).get (by decide) rfl rfl ?_
    refine R_top (y := nI (dK d)) hX.2.1 ?_
    refine R_icmp_geN (tgt := 48) dX3_countPairs_9 (by decide) (by omega) (by omega) (fun h_9 => ?_) (fun h_9 => ?_)
    · refine R_iload_n dX3_countPairs_48 rfl ?_
      refine R_ireturn dX3_countPairs_49 rfl rfl ?_
      have e : u = dK d := by omega
      subst e
      exact ⟨rfl, rfl⟩
    · refine R_iload_n dX3_countPairs_12 rfl ?_
      refine R_iconst (v := nI 1) dX3_countPairs_13 rfl ?_
      refine R_iaddN dX3_countPairs_14 ?_
      refine R_istore_n (L' := [(0, .ref 14), (1, .int (nI (cpTo d u))), (2, .int (nI u)), (3, .int (nI (u + 1)))]) dX3_countPairs_15 (by decide) (qs1 rfl (qs1 rfl (qs1 rfl (qs1 rfl qs0)))) ?_
      refine R_ls (L' := [(0, .ref 14), (1, .int (nI (cpTo d u))), (2, .int (nI u)), (3, .int (nI (u + 1)))]) (qs1 rfl (qs1 rfl (qs1 rfl (qs1 rfl qs0)))) ?_
      exact (by have h := l_cpIn (w := w) hX hB (u := u) (by omega) (by have h := ih (u + 1) (by omega) (by omega); refine R_iincN (n := 1) (L' := [(0, .ref 14), (1, .int (nI (cpTo d (u + 1)))), (2, .int (nI (u + 1)))]) dX3_countPairs_42 rfl (by decide) (qs1 rfl (qs1 rfl (qs1 rfl qs0))) ?_; exact R_goto (tgt := 4) dX3_countPairs_45 (by decide) h) (dK d + 2) (u + 1) (by omega) (by omega) (by omega); rw [cpIn_0 d u (u + 1) (Nat.le_refl _)] at h; exact h)
set_option maxRecDepth 100000 in
set_option maxHeartbeats 4000000 in
theorem c_countPairs {M : qMem} {d : dT} (hX : XR 14 M d) (hB : dB d) : qSem 0 mX3_countPairs [.ref 14] M (qr (nI (cpTo d (dK d))) M) := by
  refine qSem.of (by decide +kernel) (Nat.le_of_ble_eq_true rfl) (fun w => ?_)
  refine R_ls (L' := [(0, .ref 14)]) (qs1 rfl qs0) ?_
  refine R_iconst (v := nI 0) dX3_countPairs_0 rfl ?_
  refine R_istore_n (L' := [(0, .ref 14), (1, .int (nI 0))]) dX3_countPairs_1 (by decide) (qs1 rfl (qs1 rfl qs0)) ?_
  refine R_iconst (v := nI 0) dX3_countPairs_2 rfl ?_
  refine R_istore_n (L' := [(0, .ref 14), (1, .int (nI 0)), (2, .int (nI 0))]) dX3_countPairs_3 (by decide) (qs1 rfl (qs1 rfl (qs1 rfl qs0))) ?_
  refine R_ls (L' := [(0, .ref 14), (1, .int (nI 0)), (2, .int (nI 0))]) (qs1 rfl (qs1 rfl (qs1 rfl qs0))) ?_
  exact l_cpOut hX hB (dK d + 2) 0 (by omega) (by omega)
set_option maxRecDepth 100000 in
set_option maxHeartbeats 4000000 in
theorem l_msIn {w : qWT} {M : qMem} {d : dT} (hX : XR 14 M d) (hB : dB d) {c : Nat} (hc : c < dK d) (hk : qRW 0 w mX3_countMissing 40 [(0, .ref 14), (1, .int (nI (msTo d c + msIn d c (dY d)))), (2, .int (nI c))] [] M (qr (nI (msTo d (dK d))) M)) : ∀ (fu : Nat) (t : Nat), (dY d + 1 - t) < fu → (t ≤ dY d) → qRW 0 w mX3_countMissing 14 [(0, .ref 14), (1, .int (nI (msTo d c + msIn d c t))), (2, .int (nI c)), (3, .int (nI t))] [] M (qr (nI (msTo d (dK d))) M) := by
  intro fu
  induction fu with
  | zero => intro t hn; exact absurd hn (Nat.not_lt_zero _)
  | succ fu ih =>
    intro t hn ht
    have hK6 := hB.2.1
    have hY := hB.1
    refine R_iload_n dX3_countMissing_14 rfl ?_
    refine R_aload_n dX3_countMissing_15 rfl ?_
    refine R_getI dX3_countMissing_16 (lf_RX3_26).get (by decide) rfl rfl ?_
    refine R_top (y := nI (dY d)) hX.1 ?_
    refine R_icmp_geN (tgt := 40) dX3_countMissing_19 (by decide) (by omega) (by omega) (fun h_19 => ?_) (fun h_19 => ?_)
    · have e : t = dY d := by omega
      subst e
      refine R_ls (L' := [(0, .ref 14), (1, .int (nI (msTo d c + msIn d c (dY d)))), (2, .int (nI c))]) (qs1 rfl (qs1 rfl (qs1 rfl qs0))) ?_
      exact hk
    · refine R_aload_n dX3_countMissing_22 rfl ?_
      refine R_iload_n dX3_countMissing_23 rfl ?_
      refine R_iload_n dX3_countMissing_24 rfl ?_
      refine R_callV (mc := mX3_has) (As := [_, _]) (r := 14) dX3_countMissing_25 lm_RX3_47 mv_X3_has rfl (by decide) rfl rfl rfl rfl (Nat.le_of_ble_eq_true rfl) (c_has_14 (by omega) (by omega)) ?_
      rintro _ _ ⟨rfl, ⟨rfl, hp⟩ | ⟨rfl, hp⟩⟩
      · refine R_if_neN (tgt := 34) dX3_countMissing_28 (by decide) (by omega) (fun h_28 => ?_) (fun h_28 => by exact absurd h_28 (by decide))
        refine R_iincN (n := 1) (L' := [(0, .ref 14), (1, .int (nI (msTo d c + msIn d c t))), (2, .int (nI c)), (3, .int (nI (t + 1)))]) dX3_countMissing_34 rfl (by decide) (qs1 rfl (qs1 rfl (qs1 rfl (qs1 rfl qs0)))) ?_
        refine R_goto (tgt := 14) dX3_countMissing_37 (by decide) ?_
        refine R_ls (L' := [(0, .ref 14), (1, .int (nI (msTo d c + msIn d c t))), (2, .int (nI c)), (3, .int (nI (t + 1)))]) (qs1 rfl (qs1 rfl (qs1 rfl (qs1 rfl qs0)))) ?_
        exact (by have h := ih (t + 1) (by omega) (by omega); rw [show msIn d c (t + 1) = msIn d c t + (if (dV d c t).isSome then 0 else 1) from rfl] at h; first | (rw [if_pos ((encX_ne (fun v e => hB.2.2.1 _ _ v e)).mp (by rw [← hX.2.2.2.2.1 c t (by omega) (by omega)]; exact hp))] at h; exact h) | (rw [if_neg (fun e => hp (by rw [hX.2.2.2.2.1 c t (by omega) (by omega)]; exact (encX_ne (fun v e => hB.2.2.1 _ _ v e)).mpr e))] at h; exact h))
      · refine R_if_neN (tgt := 34) dX3_countMissing_28 (by decide) (by omega) (fun h_28 => by exact absurd h_28 (by decide)) (fun h_28 => ?_)
        refine R_iincN (n := 1) (L' := [(0, .ref 14), (1, .int (nI ((msTo d c + msIn d c t) + 1))), (2, .int (nI c)), (3, .int (nI t))]) dX3_countMissing_31 rfl (by decide) (qs1 rfl (qs1 rfl (qs1 rfl (qs1 rfl qs0)))) ?_
        refine R_iincN (n := 1) (L' := [(0, .ref 14), (1, .int (nI ((msTo d c + msIn d c t) + 1))), (2, .int (nI c)), (3, .int (nI (t + 1)))]) dX3_countMissing_34 rfl (by decide) (qs1 rfl (qs1 rfl (qs1 rfl (qs1 rfl qs0)))) ?_
        refine R_goto (tgt := 14) dX3_countMissing_37 (by decide) ?_
        refine R_ls (L' := [(0, .ref 14), (1, .int (nI ((msTo d c + msIn d c t) + 1))), (2, .int (nI c)), (3, .int (nI (t + 1)))]) (qs1 rfl (qs1 rfl (qs1 rfl (qs1 rfl qs0)))) ?_
        exact (by have h := ih (t + 1) (by omega) (by omega); rw [show msIn d c (t + 1) = msIn d c t + (if (dV d c t).isSome then 0 else 1) from rfl] at h; first | (rw [if_pos ((encX_ne (fun v e => hB.2.2.1 _ _ v e)).mp (by rw [← hX.2.2.2.2.1 c t (by omega) (by omega)]; exact hp))] at h; exact h) | (rw [if_neg (fun e => hp (by rw [hX.2.2.2.2.1 c t (by omega) (by omega)]; exact (encX_ne (fun v e => hB.2.2.1 _ _ v e)).mpr e))] at h; exact h))
set_option maxRecDepth 100000 in
set_option maxHeartbeats 4000000 in
theorem l_msOut {w : qWT} {M : qMem} {d : dT} (hX : XR 14 M d) (hB : dB d) : ∀ (fu : Nat) (c : Nat), (dK d + 1 - c) < fu → (c ≤ dK d) → qRW 0 w mX3_countMissing 4 [(0, .ref 14), (1, .int (nI (msTo d c))), (2, .int (nI c))] [] M (qr (nI (msTo d (dK d))) M) := by
  intro fu
  induction fu with
  | zero => intro c hn; exact absurd hn (Nat.not_lt_zero _)
  | succ fu ih =>
    intro c hn hc
    have hK6 := hB.2.1
    have hY := hB.1
    refine R_iload_n dX3_countMissing_4 rfl ?_
    refine R_aload_n dX3_countMissing_5 rfl ?_
    refine R_getI dX3_countMissing_6 (lf_RX3_30).get (by decide) rfl rfl ?_
    refine R_top (y := nI (dK d)) hX.2.1 ?_
    refine R_icmp_geN (tgt := 46) dX3_countMissing_9 (by decide) (by omega) (by omega) (fun h_9 => ?_) (fun h_9 => ?_)
    · refine R_iload_n dX3_countMissing_46 rfl ?_
      refine R_ireturn dX3_countMissing_47 rfl rfl ?_
      have e : c = dK d := by omega
      subst e
      exact ⟨rfl, rfl⟩
    · refine R_iconst (v := nI 0) dX3_countMissing_12 rfl ?_
      refine R_istore_n (L' := [(0, .ref 14), (1, .int (nI (msTo d c))), (2, .int (nI c)), (3, .int (nI 0))]) dX3_countMissing_13 (by decide) (qs1 rfl (qs1 rfl (qs1 rfl (qs1 rfl qs0)))) ?_
      refine R_ls (L' := [(0, .ref 14), (1, .int (nI (msTo d c))), (2, .int (nI c)), (3, .int (nI 0))]) (qs1 rfl (qs1 rfl (qs1 rfl (qs1 rfl qs0)))) ?_
      exact (by have h := l_msIn (w := w) hX hB (c := c) (by omega) (by have h := ih (c + 1) (by omega) (by omega); refine R_iincN (n := 1) (L' := [(0, .ref 14), (1, .int (nI (msTo d (c + 1)))), (2, .int (nI (c + 1)))]) dX3_countMissing_40 rfl (by decide) (qs1 rfl (qs1 rfl (qs1 rfl qs0))) ?_; exact R_goto (tgt := 4) dX3_countMissing_43 (by decide) h) (dY d + 2) 0 (by omega) (by omega); exact h)
set_option maxRecDepth 100000 in
set_option maxHeartbeats 4000000 in
theorem c_countMissing {M : qMem} {d : dT} (hX : XR 14 M d) (hB : dB d) : qSem 0 mX3_countMissing [.ref 14] M (qr (nI (msTo d (dK d))) M) := by
  refine qSem.of (by decide +kernel) (Nat.le_of_ble_eq_true rfl) (fun w => ?_)
  refine R_ls (L' := [(0, .ref 14)]) (qs1 rfl qs0) ?_
  refine R_iconst (v := nI 0) dX3_countMissing_0 rfl ?_
  refine R_istore_n (L' := [(0, .ref 14), (1, .int (nI 0))]) dX3_countMissing_1 (by decide) (qs1 rfl (qs1 rfl qs0)) ?_
  refine R_iconst (v := nI 0) dX3_countMissing_2 rfl ?_
  refine R_istore_n (L' := [(0, .ref 14), (1, .int (nI 0)), (2, .int (nI 0))]) dX3_countMissing_3 (by decide) (qs1 rfl (qs1 rfl (qs1 rfl qs0))) ?_
  refine R_ls (L' := [(0, .ref 14), (1, .int (nI 0)), (2, .int (nI 0))]) (qs1 rfl (qs1 rfl (qs1 rfl qs0))) ?_
  exact l_msOut hX hB (dK d + 2) 0 (by omega) (by omega)

def dFresh : dT := (0, 0, fun _ => 0, fun _ => 0, fun _ _ => none, fun k => if k = 4 then 20 else (qtab 2 k).toNatClampNeg)
/-- the draft's own cells -/
def oDr (o : Nat) : Prop := 3 ≤ o ∧ o < 14
def oRe (o : Nat) : Prop := 14 ≤ o ∧ o < 25
set_option maxRecDepth 100000 in
set_option maxHeartbeats 4000000 in
theorem l_afresh {w : qWT} {M : qMem} : ∀ (fu : Nat) (i : Nat) (K : qMem), (5 - i) < fu → (i ≤ 4) → (K.1 3 0 = nI 0) → (K.1 3 1 = nI 0) → (K.1 3 5 = nI 20) → (∀ k, k < i → K.1 7 k = qtab 2 k) → (qOff oDr M K) → qRW 0 w mX3_startAfresh 18 [(0, .ref 3), (1, .int (nI i))] [] K (fun v N => v = none ∧ XR 3 N dFresh ∧ qOff oDr M N) := by
  intro fu
  induction fu with
  | zero => intro i K hn; exact absurd hn (Nat.not_lt_zero _)
  | succ fu ih =>
    intro i K hn hi h0 h1 h5 hk ho
    refine R_iload_n dX3_startAfresh_18 rfl ?_
    refine R_iconst (v := nI 4) dX3_startAfresh_19 rfl ?_
    refine R_icmp_geN (tgt := 40) dX3_startAfresh_20 (by decide) (by omega) (by omega) (fun h_20 => ?_) (fun h_20 => ?_)
    · refine R_aload_n dX3_startAfresh_40 rfl ?_
      refine R_dup dX3_startAfresh_41 rfl ?_
      refine R_getI dX3_startAfresh_42 (lf_RX3_39).get (by decide) rfl rfl ?_
      refine R_iconst (v := nI 1) dX3_startAfresh_45 rfl ?_
      refine R_iadd dX3_startAfresh_46 ?_
      refine R_putI dX3_startAfresh_47 lf_RX3_39 (by decide) rfl rfl rfl rfl ?_
      refine R_return dX3_startAfresh_50 rfl ?_
      refine ⟨rfl, ⟨?_, ?_, fun c hc => absurd hc (Nat.not_lt_zero c), fun c hc => absurd hc (Nat.not_lt_zero c), fun c t hc => absurd hc (Nat.not_lt_zero c), ?_, fun k hk4 => ?_⟩, qOff.is ho (by unfold oDr; omega)⟩
      · rw [qIs_nk (by decide)]; exact h0
      · rw [qIs_nk (by decide)]; exact h1
      · rw [qIs_nk (by decide)]; exact h5
      · rw [qIs_no (by decide)]; rw [hk k (by omega)]; rcases (show k = 0 ∨ k = 1 ∨ k = 2 ∨ k = 3 by omega) with rfl | rfl | rfl | rfl <;> rfl
    · refine R_aload_n dX3_startAfresh_23 rfl ?_
      refine R_getR dX3_startAfresh_24 lg_RX3_23 (by decide) rfl rfl ?_
      refine R_iload_n dX3_startAfresh_27 rfl ?_
      refine R_getsN dX3_startAfresh_28 (by decide) ls_RX3_36 ?_
      refine R_iload_n dX3_startAfresh_31 rfl ?_
      refine R_taldN dX3_startAfresh_32 (by decide) (by omega) ?_
      refine R_iastN dX3_startAfresh_33 (by decide) rfl (by omega) (by decide) ?_
      refine R_iincN (n := 1) (L' := [(0, .ref 3), (1, .int (nI (i + 1)))]) dX3_startAfresh_34 rfl (by decide) (qs1 rfl (qs1 rfl qs0)) ?_
      refine R_goto (tgt := 18) dX3_startAfresh_37 (by decide) ?_
      refine R_ls (L' := [(0, .ref 3), (1, .int (nI (i + 1)))]) (qs1 rfl (qs1 rfl qs0)) ?_
      exact (ih (i + 1) _ (by omega) (by omega) (by rw [qIs_no (by decide)]; exact h0) (by rw [qIs_no (by decide)]; exact h1) (by rw [qIs_no (by decide)]; exact h5) (fun k hk2 => by simp only [qIs_1, true_and]; split <;> rename_i hh <;> first | (have e : k = i := (by first | exact hh | exact hh.2); subst e; rfl) | exact hk k (by omega)) (qOff.is ho (by unfold oDr; omega)))
set_option maxRecDepth 100000 in
set_option maxHeartbeats 4000000 in
theorem c_startAfresh {M : qMem} : qSem 0 mX3_startAfresh [.ref 3] M (fun v N => v = none ∧ XR 3 N dFresh ∧ qOff oDr M N) := by
  refine qSem.of (by decide +kernel) (Nat.le_of_ble_eq_true rfl) (fun w => ?_)
  refine R_ls (L' := [(0, .ref 3)]) (qs1 rfl qs0) ?_
  refine R_aload_n dX3_startAfresh_0 rfl ?_
  refine R_iconst (v := nI 0) dX3_startAfresh_1 rfl ?_
  refine R_putI dX3_startAfresh_2 lf_RX3_26 (by decide) rfl rfl rfl rfl ?_
  refine R_aload_n dX3_startAfresh_5 rfl ?_
  refine R_iconst (v := nI 0) dX3_startAfresh_6 rfl ?_
  refine R_putI dX3_startAfresh_7 lf_RX3_30 (by decide) rfl rfl rfl rfl ?_
  refine R_aload_n dX3_startAfresh_10 rfl ?_
  refine R_bipush (v := nI 20) dX3_startAfresh_11 rfl ?_
  refine R_putI dX3_startAfresh_13 lf_RX3_33 (by decide) rfl rfl rfl rfl ?_
  refine R_iconst (v := nI 0) dX3_startAfresh_16 rfl ?_
  refine R_istore_n (L' := [(0, .ref 3), (1, .int (nI 0))]) dX3_startAfresh_17 (by decide) (qs1 rfl (qs1 rfl qs0)) ?_
  refine R_ls (L' := [(0, .ref 3), (1, .int (nI 0))]) (qs1 rfl (qs1 rfl qs0)) ?_
  exact l_afresh 6 0 _ (by omega) (by omega) (by rfl) (by rfl) (by rfl) (fun k hk => absurd hk (Nat.not_lt_zero k)) (qOff.is (qOff.is (qOff.is qOff.rf (by unfold oDr; omega)) (by unfold oDr; omega)) (by unfold oDr; omega))

def dAdd (d : dT) (x y : Int32) : dT := (dY d, dK d + 1, fun c => if c = dK d then x else dX d c, fun c => if c = dK d then y else dZ d c, fun c t => if c = dK d then none else dV d c t, dR d)
set_option maxRecDepth 100000 in
set_option maxHeartbeats 4000000 in
theorem c_addStation {M : qMem} {x y : Int32} {K : Nat} (hK : M.1 3 1 = nI K) (hK6 : K ≤ 6) : qSem 0 mX3_addStation [.ref 3, .int (x), .int (y)] M (fun v N => (K < 6 ∧ v = some (.int (nI 1)) ∧ N.1 3 1 = nI (K + 1) ∧ N.1 4 = upd (M.1 4) K x ∧ N.1 5 = upd (M.1 5) K y ∧ (∀ k, k ≠ 1 → k ≠ 7 → N.1 3 k = M.1 3 k) ∧ (∀ o, o ≠ 3 → o ≠ 4 → o ≠ 5 → N.1 o = M.1 o) ∧ N.2 = M.2) ∨ (K = 6 ∧ v = some (.int (nI 0)) ∧ N = M)) := by
  refine qSem.of (by decide +kernel) (Nat.le_of_ble_eq_true rfl) (fun w => ?_)
  refine R_ls (L' := [(0, .ref 3), (1, .int (x)), (2, .int (y))]) (qs1 rfl (qs1 rfl (qs1 rfl qs0))) ?_
  refine R_aload_n dX3_addStation_0 rfl ?_
  refine R_getI dX3_addStation_1 (lf_RX3_30).get (by decide) rfl rfl ?_
  refine R_top (y := nI K) hK ?_
  refine R_bipush (v := nI 6) dX3_addStation_4 rfl ?_
  refine R_icmp_ltN (tgt := 11) dX3_addStation_6 (by decide) (by omega) (by omega) (fun h_6 => ?_) (fun h_6 => ?_)
  · refine R_aload_n dX3_addStation_11 rfl ?_
    refine R_getR dX3_addStation_12 lg_RX3_9 (by decide) rfl rfl ?_
    refine R_aload_n dX3_addStation_15 rfl ?_
    refine R_getI dX3_addStation_16 (lf_RX3_30).get (by decide) rfl rfl ?_
    refine R_top (y := nI K) hK ?_
    refine R_iload_n dX3_addStation_19 rfl ?_
    refine R_iastN dX3_addStation_20 (by decide) rfl (by omega) (by decide) ?_
    refine R_aload_n dX3_addStation_21 rfl ?_
    refine R_getR dX3_addStation_22 lg_RX3_15 (by decide) rfl rfl ?_
    refine R_aload_n dX3_addStation_25 rfl ?_
    refine R_getI dX3_addStation_26 (lf_RX3_30).get (by decide) rfl rfl ?_
    refine R_top (y := nI K) (by rw [qIs_no (by decide)]; exact hK) ?_
    refine R_iload_n dX3_addStation_29 rfl ?_
    refine R_iastN dX3_addStation_30 (by decide) rfl (by omega) (by decide) ?_
    refine R_aload_n dX3_addStation_31 rfl ?_
    refine R_dup dX3_addStation_32 rfl ?_
    refine R_getI dX3_addStation_33 (lf_RX3_30).get (by decide) rfl rfl ?_
    refine R_top (y := nI K) (by rw [qIs_no (by decide), qIs_no (by decide)]; exact hK) ?_
    refine R_iconst (v := nI 1) dX3_addStation_36 rfl ?_
    refine R_iaddN dX3_addStation_37 ?_
    refine R_putI dX3_addStation_38 lf_RX3_30 (by decide) rfl rfl rfl rfl ?_
    refine R_aload_n dX3_addStation_41 rfl ?_
    refine R_dup dX3_addStation_42 rfl ?_
    refine R_getI dX3_addStation_43 (lf_RX3_39).get (by decide) rfl rfl ?_
    refine R_iconst (v := nI 1) dX3_addStation_46 rfl ?_
    refine R_iadd dX3_addStation_47 ?_
    refine R_putI dX3_addStation_48 lf_RX3_39 (by decide) rfl rfl rfl rfl ?_
    refine R_iconst (v := nI 1) dX3_addStation_51 rfl ?_
    refine R_ireturn dX3_addStation_52 rfl rfl ?_
    refine Or.inl ⟨h_6, rfl, ?_, ?_, ?_, ?_, ?_, rfl⟩
    · rw [qIs_nk (by decide), qIs_eq]
    · rw [qIs_no (by decide), qIs_no (by decide), qIs_no (by decide), qIs_u]
    · rw [qIs_no (by decide), qIs_no (by decide), qIs_u, qIs_no (by decide)]
    · intro k h1 h7; rw [qIs_nk h7, qIs_nk h1, qIs_no (by decide), qIs_no (by decide)]
    · intro o h3 h4 h5; rw [qIs_no h3, qIs_no h3, qIs_no h5, qIs_no h4]
  · refine R_iconst (v := nI 0) dX3_addStation_9 rfl ?_
    refine R_ireturn dX3_addStation_10 rfl rfl ?_
    exact Or.inr ⟨by omega, rfl, rfl⟩

/-- the copy so far: the plain numbers, i of the rules, c stations -/
def cpA (M K : qMem) : Prop := qOff oRe M K ∧ K.1 14 0 = M.1 3 0 ∧ K.1 14 1 = M.1 3 1 ∧ K.1 14 5 = M.1 3 5 ∧ K.1 14 7 = M.1 14 7
def cpB (M K : qMem) (Y c : Nat) : Prop := ∀ a, a < c → K.1 15 a = M.1 4 a ∧ K.1 16 a = M.1 5 a ∧ ∀ t, t < Y → K.1 (19 + a) t = M.1 (8 + a) t
theorem cpA.old {M K : qMem} (h : cpA M K) {o : Nat} (ho : o < 14) : K.1 o = M.1 o := (h.1 o (by unfold oRe; omega)).1
theorem cpA.put {M K : qMem} (h : cpA M K) {o k : Nat} {x : Int32} (h1 : 14 < o) (h2 : o < 25) : cpA M (qIs K o k x) := ⟨qOff.is h.1 (by unfold oRe; omega), by rw [qIs_no (by omega)]; exact h.2.1, by rw [qIs_no (by omega)]; exact h.2.2.1, by rw [qIs_no (by omega)]; exact h.2.2.2.1, by rw [qIs_no (by omega)]; exact h.2.2.2.2⟩
set_option maxRecDepth 100000 in
set_option maxHeartbeats 4000000 in
theorem l_cp3 {w : qWT} {M : qMem} {d : dT} (hX : XR 3 M d) (hB : dB d) {c : Nat} (hc : c < dK d) (hk : ∀ K : qMem, cpA M K → (∀ k, k < 4 → K.1 18 k = M.1 7 k) → cpB M K (dY d) (c + 1) → qRW 0 w mX3_copyFrom 115 [(0, .ref 14), (1, .ref 3), (2, .int (nI c))] [] K (fun v N => v = none ∧ XR 14 N d ∧ qOff oRe M N ∧ N.1 14 7 = M.1 14 7 + nI 1)) : ∀ (fu : Nat) (t : Nat) (K : qMem), (dY d + 1 - t) < fu → (t ≤ dY d) → (cpA M K) → (∀ k, k < 4 → K.1 18 k = M.1 7 k) → (cpB M K (dY d) c) → (K.1 15 c = M.1 4 c) → (K.1 16 c = M.1 5 c) → (∀ j, j < t → K.1 (19 + c) j = M.1 (8 + c) j) → qRW 0 w mX3_copyFrom 85 [(0, .ref 14), (1, .ref 3), (2, .int (nI c)), (3, .int (nI t))] [] K (fun v N => v = none ∧ XR 14 N d ∧ qOff oRe M N ∧ N.1 14 7 = M.1 14 7 + nI 1) := by
  intro fu
  induction fu with
  | zero => intro t K hn; exact absurd hn (Nat.not_lt_zero _)
  | succ fu ih =>
    intro t K hn ht hA hR hC e15 e16 hT
    have hK6 := hB.2.1
    have hY := hB.1
    refine R_iload_n dX3_copyFrom_85 rfl ?_
    refine R_aload_n dX3_copyFrom_86 rfl ?_
    refine R_getI dX3_copyFrom_87 (lf_RX3_26).get (by decide) rfl rfl ?_
    refine R_top (y := nI (dY d)) (hA.2.1.trans hX.1) ?_
    refine R_icmp_geN (tgt := 115) dX3_copyFrom_90 (by decide) (by omega) (by omega) (fun h_90 => ?_) (fun h_90 => ?_)
    · refine R_ls (L' := [(0, .ref 14), (1, .ref 3), (2, .int (nI c))]) (qs1 rfl (qs1 rfl (qs1 rfl qs0))) ?_
      exact hk K hA hR (fun a ha => by rcases Nat.lt_succ_iff_lt_or_eq.mp ha with h | h <;> first | exact hC a h | (subst h; exact ⟨e15, e16, fun j hj => hT j (by omega)⟩))
    · refine R_aload_n dX3_copyFrom_93 rfl ?_
      refine R_getR dX3_copyFrom_94 lg_RX3_20 (by decide) rfl rfl ?_
      refine R_iload_n dX3_copyFrom_97 rfl ?_
      refine R_aald3N dX3_copyFrom_98 (by decide) rfl (by omega) (by decide) ?_
      refine R_iload_n dX3_copyFrom_99 rfl ?_
      refine R_aload_n dX3_copyFrom_100 rfl ?_
      refine R_getR dX3_copyFrom_101 lg_RX3_20 (by decide) rfl rfl ?_
      refine R_iload_n dX3_copyFrom_104 rfl ?_
      refine R_aald3N dX3_copyFrom_105 (by decide) rfl (by omega) (by decide) ?_
      refine R_iload_n dX3_copyFrom_106 rfl ?_
      refine R_ialdN dX3_copyFrom_107 (show 8 + c < 117 by have := ((by omega) : c < 6); omega) (sh_val3 (by omega)) (by omega) (by decide) ?_
      refine R_iastN dX3_copyFrom_108 (show 19 + c < 117 by have := ((by omega) : c < 6); omega) (sh_val14 (by omega)) (by omega) (by decide) ?_
      refine R_iincN (n := 1) (L' := [(0, .ref 14), (1, .ref 3), (2, .int (nI c)), (3, .int (nI (t + 1)))]) dX3_copyFrom_109 rfl (by decide) (qs1 rfl (qs1 rfl (qs1 rfl (qs1 rfl qs0)))) ?_
      refine R_goto (tgt := 85) dX3_copyFrom_112 (by decide) ?_
      refine R_ls (L' := [(0, .ref 14), (1, .ref 3), (2, .int (nI c)), (3, .int (nI (t + 1)))]) (qs1 rfl (qs1 rfl (qs1 rfl (qs1 rfl qs0)))) ?_
      exact (ih (t + 1) _ (by omega) (by omega) (hA.put (by omega) (by omega)) (fun k h => by rw [qIs_no (by omega)]; exact hR k h) (fun a ha => ⟨by rw [qIs_no (by omega)]; exact (hC a ha).1, by rw [qIs_no (by omega)]; exact (hC a ha).2.1, fun j hj => by rw [qIs_no (by omega)]; exact (hC a ha).2.2 j hj⟩) (by rw [qIs_no (by omega)]; exact e15) (by rw [qIs_no (by omega)]; exact e16) (fun j hj => by simp only [qIs_1, true_and]; split <;> rename_i hh <;> first | (have e : j = t := (by first | exact hh | exact hh.2); subst e; rw [hA.old (o := 8 + c) (by omega)]) | exact hT j (by omega)))
set_option maxRecDepth 100000 in
set_option maxHeartbeats 4000000 in
theorem l_cp2 {w : qWT} {M : qMem} {d : dT} (hX : XR 3 M d) (hB : dB d) : ∀ (fu : Nat) (c : Nat) (K : qMem), (dK d + 1 - c) < fu → (c ≤ dK d) → (cpA M K) → (∀ k, k < 4 → K.1 18 k = M.1 7 k) → (cpB M K (dY d) c) → qRW 0 w mX3_copyFrom 51 [(0, .ref 14), (1, .ref 3), (2, .int (nI c))] [] K (fun v N => v = none ∧ XR 14 N d ∧ qOff oRe M N ∧ N.1 14 7 = M.1 14 7 + nI 1) := by
  intro fu
  induction fu with
  | zero => intro c K hn; exact absurd hn (Nat.not_lt_zero _)
  | succ fu ih =>
    intro c K hn hc hA hR hC
    have hK6 := hB.2.1
    have hY := hB.1
    refine R_iload_n dX3_copyFrom_51 rfl ?_
    refine R_aload_n dX3_copyFrom_52 rfl ?_
    refine R_getI dX3_copyFrom_53 (lf_RX3_30).get (by decide) rfl rfl ?_
    refine R_top (y := nI (dK d)) (hA.2.2.1.trans hX.2.1) ?_
    refine R_icmp_geN (tgt := 121) dX3_copyFrom_56 (by decide) (by omega) (by omega) (fun h_56 => ?_) (fun h_56 => ?_)
    · refine R_aload_n dX3_copyFrom_121 rfl ?_
      refine R_dup dX3_copyFrom_122 rfl ?_
      refine R_getI dX3_copyFrom_123 (lf_RX3_39).get (by decide) rfl rfl ?_
      refine R_iconst (v := nI 1) dX3_copyFrom_126 rfl ?_
      refine R_iadd dX3_copyFrom_127 ?_
      refine R_putI dX3_copyFrom_128 lf_RX3_39 (by decide) rfl rfl rfl rfl ?_
      refine R_return dX3_copyFrom_131 rfl ?_
      have e : c = dK d := by omega
      subst e
      refine ⟨rfl, ⟨?_, ?_, fun a ha => ?_, fun a ha => ?_, fun a t ha ht => ?_, ?_, fun k hk4 => ?_⟩, qOff.is hA.1 (by unfold oRe; omega), ?_⟩
      · rw [qIs_nk (by decide), hA.2.1]; exact hX.1
      · rw [qIs_nk (by decide), hA.2.2.1]; exact hX.2.1
      · rw [qIs_no (by decide), (hC a (by omega)).1]; exact hX.2.2.1 a ha
      · rw [qIs_no (by decide), (hC a (by omega)).2.1]; exact hX.2.2.2.1 a ha
      · rw [show 14 + 5 + a = 19 + a by omega, qIs_no (by omega), (hC a (by omega)).2.2 t ht]; exact hX.2.2.2.2.1 a t ha ht
      · rw [qIs_nk (by decide), hA.2.2.2.1]; exact hX.2.2.2.2.2.1
      · rw [qIs_no (by decide), hR k hk4]; exact hX.2.2.2.2.2.2 k hk4
      · rw [qIs_eq, hA.2.2.2.2]
    · refine R_aload_n dX3_copyFrom_59 rfl ?_
      refine R_getR dX3_copyFrom_60 lg_RX3_9 (by decide) rfl rfl ?_
      refine R_iload_n dX3_copyFrom_63 rfl ?_
      refine R_aload_n dX3_copyFrom_64 rfl ?_
      refine R_getR dX3_copyFrom_65 lg_RX3_9 (by decide) rfl rfl ?_
      refine R_iload_n dX3_copyFrom_68 rfl ?_
      refine R_ialdN dX3_copyFrom_69 (by decide) rfl (by omega) (by decide) ?_
      refine R_iastN dX3_copyFrom_70 (by decide) rfl (by omega) (by decide) ?_
      refine R_aload_n dX3_copyFrom_71 rfl ?_
      refine R_getR dX3_copyFrom_72 lg_RX3_15 (by decide) rfl rfl ?_
      refine R_iload_n dX3_copyFrom_75 rfl ?_
      refine R_aload_n dX3_copyFrom_76 rfl ?_
      refine R_getR dX3_copyFrom_77 lg_RX3_15 (by decide) rfl rfl ?_
      refine R_iload_n dX3_copyFrom_80 rfl ?_
      refine R_ialdN dX3_copyFrom_81 (by decide) rfl (by omega) (by decide) ?_
      refine R_iastN dX3_copyFrom_82 (by decide) rfl (by omega) (by decide) ?_
      refine R_iconst (v := nI 0) dX3_copyFrom_83 rfl ?_
      refine R_istore_n (L' := [(0, .ref 14), (1, .ref 3), (2, .int (nI c)), (3, .int (nI 0))]) dX3_copyFrom_84 (by decide) (qs1 rfl (qs1 rfl (qs1 rfl (qs1 rfl qs0)))) ?_
      refine R_ls (L' := [(0, .ref 14), (1, .ref 3), (2, .int (nI c)), (3, .int (nI 0))]) (qs1 rfl (qs1 rfl (qs1 rfl (qs1 rfl qs0)))) ?_
      exact (l_cp3 (w := w) hX hB (c := c) (by omega) (fun K hA hR hC => by have h := ih (c + 1) K (by omega) (by omega) hA hR hC; refine R_iincN (n := 1) (L' := [(0, .ref 14), (1, .ref 3), (2, .int (nI (c + 1)))]) dX3_copyFrom_115 rfl (by decide) (qs1 rfl (qs1 rfl (qs1 rfl qs0))) ?_; exact R_goto (tgt := 51) dX3_copyFrom_118 (by decide) h) (dY d + 2) 0 _ (by omega) (by omega) ((hA.put (by omega) (by omega)).put (by omega) (by omega)) (fun k h => by rw [qIs_no (by omega), qIs_no (by omega)]; exact hR k h) (fun a ha => ⟨by rw [qIs_no (by omega), qIs_nk (by omega)]; exact (hC a ha).1, by rw [qIs_nk (by omega), qIs_no (by omega)]; exact (hC a ha).2.1, fun j hj => by rw [qIs_no (by omega), qIs_no (by omega)]; exact (hC a ha).2.2 j hj⟩) (by rw [qIs_no (by omega), qIs_eq, hA.old (by omega)]) (by rw [qIs_eq, qIs_no (by omega), hA.old (by omega)]) (fun j hj => absurd hj (Nat.not_lt_zero j)))
set_option maxRecDepth 100000 in
set_option maxHeartbeats 4000000 in
theorem l_cp1 {w : qWT} {M : qMem} {d : dT} (hX : XR 3 M d) (hB : dB d) : ∀ (fu : Nat) (i : Nat) (K : qMem), (5 - i) < fu → (i ≤ 4) → (cpA M K) → (∀ k, k < i → K.1 18 k = M.1 7 k) → qRW 0 w mX3_copyFrom 26 [(0, .ref 14), (1, .ref 3), (2, .int (nI i))] [] K (fun v N => v = none ∧ XR 14 N d ∧ qOff oRe M N ∧ N.1 14 7 = M.1 14 7 + nI 1) := by
  intro fu
  induction fu with
  | zero => intro i K hn; exact absurd hn (Nat.not_lt_zero _)
  | succ fu ih =>
    intro i K hn hi hA hR
    refine R_iload_n dX3_copyFrom_26 rfl ?_
    refine R_iconst (v := nI 4) dX3_copyFrom_27 rfl ?_
    refine R_icmp_geN (tgt := 49) dX3_copyFrom_28 (by decide) (by omega) (by omega) (fun h_28 => ?_) (fun h_28 => ?_)
    · refine R_iconst (v := nI 0) dX3_copyFrom_49 rfl ?_
      refine R_istore_n (L' := [(0, .ref 14), (1, .ref 3), (2, .int (nI 0))]) dX3_copyFrom_50 (by decide) (qs1 rfl (qs1 rfl (qs1 rfl qs0))) ?_
      refine R_ls (L' := [(0, .ref 14), (1, .ref 3), (2, .int (nI 0))]) (qs1 rfl (qs1 rfl (qs1 rfl qs0))) ?_
      exact l_cp2 hX hB (dK d + 2) 0 K (by omega) (by omega) hA (fun k hk => hR k (by omega)) (fun a ha => absurd ha (Nat.not_lt_zero a))
    · refine R_aload_n dX3_copyFrom_31 rfl ?_
      refine R_getR dX3_copyFrom_32 lg_RX3_23 (by decide) rfl rfl ?_
      refine R_iload_n dX3_copyFrom_35 rfl ?_
      refine R_aload_n dX3_copyFrom_36 rfl ?_
      refine R_getR dX3_copyFrom_37 lg_RX3_23 (by decide) rfl rfl ?_
      refine R_iload_n dX3_copyFrom_40 rfl ?_
      refine R_ialdN dX3_copyFrom_41 (by decide) rfl (by omega) (by decide) ?_
      refine R_iastN dX3_copyFrom_42 (by decide) rfl (by omega) (by decide) ?_
      refine R_iincN (n := 1) (L' := [(0, .ref 14), (1, .ref 3), (2, .int (nI (i + 1)))]) dX3_copyFrom_43 rfl (by decide) (qs1 rfl (qs1 rfl (qs1 rfl qs0))) ?_
      refine R_goto (tgt := 26) dX3_copyFrom_46 (by decide) ?_
      refine R_ls (L' := [(0, .ref 14), (1, .ref 3), (2, .int (nI (i + 1)))]) (qs1 rfl (qs1 rfl (qs1 rfl qs0))) ?_
      exact (ih (i + 1) _ (by omega) (by omega) (hA.put (by omega) (by omega)) (fun k hk => by simp only [qIs_1, true_and]; split <;> rename_i hh <;> first | (have e : k = i := (by first | exact hh | exact hh.2); subst e; rw [hA.old (o := 7) (by omega)]) | exact hR k (by omega)))
set_option maxRecDepth 100000 in
set_option maxHeartbeats 4000000 in
theorem c_copyFrom {M : qMem} {d : dT} (hX : XR 3 M d) (hB : dB d) : qSem 0 mX3_copyFrom [.ref 14, .ref 3] M (fun v N => v = none ∧ XR 14 N d ∧ qOff oRe M N ∧ N.1 14 7 = M.1 14 7 + nI 1) := by
  refine qSem.of (by decide +kernel) (Nat.le_of_ble_eq_true rfl) (fun w => ?_)
  refine R_ls (L' := [(0, .ref 14), (1, .ref 3)]) (qs1 rfl (qs1 rfl qs0)) ?_
  refine R_aload_n dX3_copyFrom_0 rfl ?_
  refine R_aload_n dX3_copyFrom_1 rfl ?_
  refine R_getI dX3_copyFrom_2 (lf_RX3_26).get (by decide) rfl rfl ?_
  refine R_putI dX3_copyFrom_5 lf_RX3_26 (by decide) rfl rfl rfl rfl ?_
  refine R_aload_n dX3_copyFrom_8 rfl ?_
  refine R_aload_n dX3_copyFrom_9 rfl ?_
  refine R_getI dX3_copyFrom_10 (lf_RX3_30).get (by decide) rfl rfl ?_
  refine R_putI dX3_copyFrom_13 lf_RX3_30 (by decide) rfl rfl rfl rfl ?_
  refine R_aload_n dX3_copyFrom_16 rfl ?_
  refine R_aload_n dX3_copyFrom_17 rfl ?_
  refine R_getI dX3_copyFrom_18 (lf_RX3_33).get (by decide) rfl rfl ?_
  refine R_putI dX3_copyFrom_21 lf_RX3_33 (by decide) rfl rfl rfl rfl ?_
  refine R_iconst (v := nI 0) dX3_copyFrom_24 rfl ?_
  refine R_istore_n (L' := [(0, .ref 14), (1, .ref 3), (2, .int (nI 0))]) dX3_copyFrom_25 (by decide) (qs1 rfl (qs1 rfl (qs1 rfl qs0))) ?_
  refine R_ls (L' := [(0, .ref 14), (1, .ref 3), (2, .int (nI 0))]) (qs1 rfl (qs1 rfl (qs1 rfl qs0))) ?_
  exact l_cp1 hX hB 6 0 _ (by omega) (by omega) ⟨qOff.is (qOff.is (qOff.is qOff.rf (by unfold oRe; omega)) (by unfold oRe; omega)) (by unfold oRe; omega), by rfl, by rfl, by rfl, by rfl⟩ (fun k hk => absurd hk (Nat.not_lt_zero k))
