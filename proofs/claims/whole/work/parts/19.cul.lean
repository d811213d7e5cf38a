
-- ===== years grow along a series =====
theorem ser_yr {d : dT} {u v : Nat} : ∀ n, (∀ i, i < (serTo d u v n).length → yr (serTo d u v n) i < n) ∧ ∀ i j, i < j → j < (serTo d u v n).length → yr (serTo d u v n) i < yr (serTo d u v n) j
  | 0 => ⟨fun i hi => absurd hi (by simp [serTo]), fun i j _ hj => absurd hj (by simp [serTo])⟩
  | n + 1 => by
    obtain ⟨h1, h2⟩ := ser_yr (d := d) (u := u) (v := v) n
    rw [serTo_succ]
    cases h : serAt d u v n with
    | none =>
      rw [show (none : Option (Nat × Int32)).toList = [] from rfl, List.append_nil]
      exact ⟨fun i hi => Nat.lt_succ_of_lt (h1 i hi), h2⟩
    | some x =>
      have hx : x.1 = n := by
        unfold serAt at h
        split at h
        · cases h; rfl
        · cases h
      rw [show (some x).toList = [x] from rfl]
      have hl : (serTo d u v n ++ [x]).length = (serTo d u v n).length + 1 := by simp
      refine ⟨fun i hi => ?_, fun i j hij hj => ?_⟩
      · rw [hl] at hi
        rcases Nat.lt_or_ge i (serTo d u v n).length with q | q
        · rw [yr_app q]; exact Nat.lt_succ_of_lt (h1 i q)
        · have e : i = (serTo d u v n).length := by omega
          subst e; rw [yr_last, hx]; omega
      · rw [hl] at hj
        rw [yr_app (show i < (serTo d u v n).length by omega)]
        rcases Nat.lt_or_ge j (serTo d u v n).length with q | q
        · rw [yr_app q]; exact h2 i j hij q
        · have e : j = (serTo d u v n).length := by omega
          subst e; rw [yr_last, hx]; exact h1 i hij
-- ===== the breaks of a pair =====
def bN (d : dT) (u v : Nat) : Nat := bkN (ser d u v) (dR d 0) (dR d 4)
def bY (d : dT) (u v k : Nat) : Nat := yr (ser d u v) (stN (ser d u v) (dR d 0) (dR d 4) (k + 1))
def bSh (d : dT) (u v k : Nat) : Int64 := shN (ser d u v) (dR d 0) (dR d 4) k
def brT (d : dT) (u v t : Nat) : Nat → Bool
  | 0 => false
  | k + 1 => brT d u v t k || decide (bY d u v k = t)
def shT (d : dT) (u v t : Nat) : Nat → Int64
  | 0 => 0
  | k + 1 => if bY d u v k = t then bSh d u v k else shT d u v t k
def brk (d : dT) (u v t : Nat) : Bool := brT d u v t (bN d u v)
def shf (d : dT) (u v t : Nat) : Int64 := shT d u v t (bN d u v)
theorem bN_le (d : dT) (u v : Nat) : bN d u v ≤ 15 := bkN_le _ _ _
theorem bY_lt {d : dT} (hB : dB d) {u v k : Nat} (hk : k < bN d u v) : bY d u v k < dY d := by
  have h := stN_pos (l := ser d u v) (R := dR d 0) (p := dR d 4) (m := k) hB.2.2.2.1.1 (ser_16 hB u v) hk
  exact (ser_yr (dY d)).1 _ h
theorem stN_mono {d : dT} (hB : dB d) {u v : Nat} : ∀ {k j : Nat}, k < j → j ≤ bN d u v → stN (ser d u v) (dR d 0) (dR d 4) k < stN (ser d u v) (dR d 0) (dR d 4) j
  | k, 0, h, _ => absurd h (Nat.not_lt_zero k)
  | k, j + 1, h, hj => by
    have h1 := stN_lt (l := ser d u v) (R := dR d 0) (p := dR d 4) (m := j) hB.2.2.2.1.1 (ser_16 hB u v) hj
    rcases Nat.lt_or_ge k j with q | q
    · exact Nat.lt_trans (stN_mono hB q (by omega)) h1
    · have e : k = j := by omega
      subst e; exact h1
theorem bY_mono {d : dT} (hB : dB d) {u v k j : Nat} (h : k < j) (hj : j < bN d u v) : bY d u v k < bY d u v j :=
  (ser_yr (dY d)).2 _ _ (stN_mono hB (by omega) (by omega)) (stN_pos (l := ser d u v) (R := dR d 0) (p := dR d 4) (m := j) hB.2.2.2.1.1 (ser_16 hB u v) hj)
theorem brT_new {d : dT} (hB : dB d) {u v : Nat} {j : Nat} (hj : j < bN d u v) : ∀ k, k ≤ j → brT d u v (bY d u v j) k = false
  | 0, _ => rfl
  | k + 1, h => by
    unfold brT
    rw [brT_new hB hj k (by omega)]
    have := bY_mono hB (u := u) (v := v) (k := k) (j := j) (by omega) hj
    simp; omega
-- ===== pairs in a row, votes by the pairs' places =====
abbrev pT : Type := List (Nat × Nat)
def pf (P : pT) (p : Nat) : Nat := (P.getD p (0, 0)).1
def ps (P : pT) (p : Nat) : Nat := (P.getD p (0, 0)).2
def isO (P : pT) (p c : Nat) : Bool := decide (pf P p = c) || decide (ps P p = c)
def cnI (P : pT) (B : Nat → Nat → Bool) (c t : Nat) : Nat → Nat
  | 0 => 0
  | p + 1 => cnI P B c t p + (if isO P p c && B p t then 1 else 0)
def cnt (P : pT) (B : Nat → Nat → Bool) (c t : Nat) : Nat := cnI P B c t P.length
theorem cnI_le (P : pT) (B : Nat → Nat → Bool) (c t : Nat) : ∀ n, cnI P B c t n ≤ n
  | 0 => Nat.le_refl 0
  | n + 1 => by
    have := cnI_le P B c t n
    unfold cnI; split <;> omega
theorem cnI_cong {P Q : pT} {B D : Nat → Nat → Bool} {c t : Nat} : ∀ {n : Nat}, (∀ p, p < n → isO P p c = isO Q p c ∧ B p t = D p t) → cnI P B c t n = cnI Q D c t n
  | 0, _ => rfl
  | n + 1, h => by
    unfold cnI
    rw [cnI_cong (fun p hp => h p (by omega)), (h n (by omega)).1, (h n (by omega)).2]
theorem pf_app {P : pT} {x : Nat × Nat} {p : Nat} (h : p < P.length) : pf (P ++ [x]) p = pf P p ∧ ps (P ++ [x]) p = ps P p := by
  simp [pf, ps, List.getD_eq_getElem?_getD, List.getElem?_append_left h]
theorem pf_last {P : pT} {x : Nat × Nat} : pf (P ++ [x]) P.length = x.1 ∧ ps (P ++ [x]) P.length = x.2 := by
  simp [pf, ps, List.getD_eq_getElem?_getD]
theorem isO_app {P : pT} {x : Nat × Nat} {p c : Nat} (h : p < P.length) : isO (P ++ [x]) p c = isO P p c := by
  unfold isO; rw [(pf_app h).1, (pf_app h).2]
/-- one vote less -/
theorem cnI_off {P : pT} {B D : Nat → Nat → Bool} {c t p0 : Nat} (h0 : B p0 t = true) (h1 : D p0 t = false) (h : ∀ p, p ≠ p0 → D p t = B p t) : ∀ n, p0 < n → cnI P D c t n + (if isO P p0 c then 1 else 0) = cnI P B c t n
  | 0, hn => absurd hn (Nat.not_lt_zero _)
  | n + 1, hn => by
    unfold cnI
    rcases Nat.lt_or_ge p0 n with q | q
    · have := cnI_off (c := c) (P := P) h0 h1 h n q
      rw [h n (by omega)]; omega
    · have e : p0 = n := by omega
      subst e
      rw [cnI_cong (Q := P) (D := B) (fun p hp => ⟨rfl, h p (by omega)⟩), h0, h1]
      simp
def addB (P : pT) (B : Nat → Nat → Bool) (f : Nat → Bool) : Nat → Nat → Bool := fun p t => if p = P.length then f t else B p t
theorem cnt_add {P : pT} {B : Nat → Nat → Bool} {f : Nat → Bool} {u v c t : Nat} : cnt (P ++ [(u, v)]) (addB P B f) c t = cnt P B c t + (if (decide (u = c) || decide (v = c)) && f t then 1 else 0) := by
  unfold cnt
  rw [List.length_append]
  show cnI (P ++ [(u, v)]) (addB P B f) c t P.length + (if isO (P ++ [(u, v)]) P.length c && addB P B f P.length t then 1 else 0) = _
  rw [cnI_cong (Q := P) (D := B) (fun p hp => ⟨isO_app hp, by unfold addB; rw [if_neg (by omega)]⟩)]
  have e : isO (P ++ [(u, v)]) P.length c = (decide (u = c) || decide (v = c)) := by unfold isO; rw [pf_last.1, pf_last.2]
  rw [e, show addB P B f P.length t = f t from if_pos rfl]
-- ===== the memory of the culprits =====
def CB (M : qMem) (P : pT) : Prop := M.1 36 2 = nI P.length ∧ P.length ≤ 15 ∧ ∀ p, p < P.length → M.1 37 p = nI (pf P p) ∧ M.1 38 p = nI (ps P p) ∧ pf P p < 6 ∧ ps P p < 6
def CO (M : qMem) (P : pT) (B : Nat → Nat → Bool) : Prop := ∀ p t, p < P.length → t < 16 → M.1 (44 + p) t = (if B p t then nI 1 else nI 0)
def CZ (M : qMem) (n : Nat) : Prop := ∀ p t, n ≤ p → p < 15 → t < 16 → M.1 (44 + p) t = nI 0
def CH (M : qMem) (P : pT) (d : dT) : Prop := ∀ p t, p < P.length → t < 16 → brk d (pf P p) (ps P p) t = true → M.2 (59 + p) t = shf d (pf P p) (ps P p) t
def CV (b : Nat) (M : qMem) (P : pT) (B : Nat → Nat → Bool) : Prop := ∀ c t, c < 6 → t < 16 → M.1 (b + c) t = nI (cnt P B c t)
def oCu (o : Nat) : Prop := (36 ≤ o ∧ o < 90) ∨ (106 ≤ o ∧ o < 117)
def XZ (M : qMem) : Prop := M.2 28 0 = 0 ∧ M.2 29 0 = 0
theorem XS.Z {M : qMem} {l : List (Nat × Int32)} (h : XS M l) : XZ M := h.2.2.2 0 (Nat.zero_le _)
-- ===== the mean, rounded =====
def fdv (x y : Int64) : Int64 := if 0 ≤ x ^^^ y then x / y else if (x / y) * y = x then x / y else x / y - 1
def rmean (s : Int64) (n : Nat) : Int32 := if n < 1 then 0 else (fdv (2 * s + 720720 * (nI n).toInt64) (2 * (720720 * (nI n).toInt64))).toInt32
theorem h_ne {n : Nat} (h1 : 1 ≤ n) (h : n < 1000) : ¬ (2 * (720720 * (nI n).toInt64) : Int64) = 0 := by
  intro e
  have e2 := congrArg Int64.toInt e
  rw [j_n (by omega), show (2 : Int64) = Int64.ofInt 2 from rfl, show (720720 : Int64) = Int64.ofInt 720720 from rfl, ← Int64.ofInt_mul, ← Int64.ofInt_mul, j_ofI (by omega) (by omega)] at e2
  have e3 : (2 : Int) * (720720 * (n : Int)) = 0 := e2
  omega
set_option maxRecDepth 100000 in
set_option maxHeartbeats 4000000 in
theorem c_floorDiv {M : qMem} {x y : Int64} (hy : ¬ y = 0) : qSem 0 mJ9_floorDiv_f86c9 [.long (x), .long (y)] M (ql (fdv x y) M) := by
  refine qSem.ofF (by decide +kernel) (Nat.le_of_ble_eq_true rfl) (fun w => ?_)
  refine R_ls (L' := [(0, .long (x)), (2, .long (y))]) (qs1 rfl (qs1 rfl qs0)) ?_
  refine R_lload_n dJ9_floorDiv_f86c9_0 rfl ?_
  refine R_lload_n dJ9_floorDiv_f86c9_1 rfl ?_
  refine R_ldiv dJ9_floorDiv_f86c9_2 hy ?_
  refine R_lstore (L' := [(0, .long (x)), (2, .long (y)), (4, .long _)]) dJ9_floorDiv_f86c9_3 (by decide) (qs1 rfl (qs1 rfl (qs1 rfl qs0))) ?_
  refine R_lload_n dJ9_floorDiv_f86c9_5 rfl ?_
  refine R_lload_n dJ9_floorDiv_f86c9_6 rfl ?_
  refine R_lxor dJ9_floorDiv_f86c9_7 ?_
  refine R_lconst (v := 0) dJ9_floorDiv_f86c9_8 rfl ?_
  refine R_lc_ge (tgt := 27) dJ9_floorDiv_f86c9_9 dJ9_floorDiv_f86c9_10 (by decide) (fun h_9 => ?_) (fun h_9 => ?_)
  · refine R_lload dJ9_floorDiv_f86c9_27 rfl ?_
    refine R_lreturn dJ9_floorDiv_f86c9_29 rfl ?_
    exact ⟨by unfold fdv; first | rw [if_pos (by assumption)] | rw [if_neg (by assumption), if_pos (by assumption)] | rw [if_neg (by assumption), if_neg (by assumption)], rfl⟩
  · refine R_lload dJ9_floorDiv_f86c9_13 rfl ?_
    refine R_lload_n dJ9_floorDiv_f86c9_15 rfl ?_
    refine R_lmul dJ9_floorDiv_f86c9_16 ?_
    refine R_lload_n dJ9_floorDiv_f86c9_17 rfl ?_
    refine R_lc_eq (tgt := 27) dJ9_floorDiv_f86c9_18 dJ9_floorDiv_f86c9_19 (by decide) (fun h_18 => ?_) (fun h_18 => ?_)
    · refine R_lload dJ9_floorDiv_f86c9_27 rfl ?_
      refine R_lreturn dJ9_floorDiv_f86c9_29 rfl ?_
      exact ⟨by unfold fdv; first | rw [if_pos (by assumption)] | rw [if_neg (by assumption), if_pos (by assumption)] | rw [if_neg (by assumption), if_neg (by assumption)], rfl⟩
    · refine R_lload dJ9_floorDiv_f86c9_22 rfl ?_
      refine R_lconst (v := 1) dJ9_floorDiv_f86c9_24 rfl ?_
      refine R_lsub dJ9_floorDiv_f86c9_25 ?_
      refine R_lreturn dJ9_floorDiv_f86c9_26 rfl ?_
      exact ⟨by unfold fdv; first | rw [if_pos (by assumption)] | rw [if_neg (by assumption), if_pos (by assumption)] | rw [if_neg (by assumption), if_neg (by assumption)], rfl⟩
set_option maxRecDepth 100000 in
set_option maxHeartbeats 4000000 in
theorem c_rmean {M : qMem} {s : Int64} {n : Nat} (hn : n < 1000) : qSem 0 mX7_roundedMean [.long (s), .int (nI n)] M (qr (rmean s n) M) := by
  refine qSem.of (by decide +kernel) (Nat.le_of_ble_eq_true rfl) (fun w => ?_)
  refine R_ls (L' := [(0, .long (s)), (2, .int (nI n))]) (qs1 rfl (qs1 rfl qs0)) ?_
  refine R_iload_n dX7_roundedMean_0 rfl ?_
  refine R_iconst (v := nI 1) dX7_roundedMean_1 rfl ?_
  refine R_icmp_geN (tgt := 7) dX7_roundedMean_2 (by decide) (by omega) (by omega) (fun h_2 => ?_) (fun h_2 => ?_)
  · refine R_ldc2 dX7_roundedMean_7 lc_RX7_260 ?_
    refine R_iload_n dX7_roundedMean_10 rfl ?_
    refine R_i2l dX7_roundedMean_11 ?_
    refine R_lmul dX7_roundedMean_12 ?_
    refine R_lstore_n (L' := [(0, .long (s)), (2, .int (nI n)), (3, .long _)]) dX7_roundedMean_13 (by decide) (qs1 rfl (qs1 rfl (qs1 rfl qs0))) ?_
    refine R_ldc2 dX7_roundedMean_14 lc_RX7_269 ?_
    refine R_lload_n dX7_roundedMean_17 rfl ?_
    refine R_lmul dX7_roundedMean_18 ?_
    refine R_lload_n dX7_roundedMean_19 rfl ?_
    refine R_ladd dX7_roundedMean_20 ?_
    refine R_ldc2 dX7_roundedMean_21 lc_RX7_269 ?_
    refine R_lload_n dX7_roundedMean_24 rfl ?_
    refine R_lmul dX7_roundedMean_25 ?_
    refine R_callS (mc := mJ9_floorDiv_f86c9) (As := [_, _]) dX7_roundedMean_26 lm_RX7_271 mv_J9_floorDiv_f86c9 rfl rfl rfl (Nat.le_of_ble_eq_true rfl) (c_floorDiv (h_ne (by omega) hn)) ?_
    rintro _ _ ⟨rfl, rfl⟩
    refine R_l2i dX7_roundedMean_29 ?_
    refine R_ireturn dX7_roundedMean_30 rfl rfl ?_
    exact ⟨by unfold rmean; first | (rw [if_neg (by omega)]; done) | (rw [if_pos (by omega)]; rfl), rfl⟩
  · refine R_iconst (v := nI 0) dX7_roundedMean_5 rfl ?_
    refine R_ireturn dX7_roundedMean_6 rfl rfl ?_
    exact ⟨by unfold rmean; first | (rw [if_neg (by omega)]; done) | (rw [if_pos (by omega)]; rfl), rfl⟩
set_option maxRecDepth 100000 in
set_option maxHeartbeats 4000000 in
theorem c_clen {M : qMem} : qSem 0 mX0_length [.ref 36] M (qr (M.1 36 9) M) := by
  refine qSem.of (by decide +kernel) (Nat.le_of_ble_eq_true rfl) (fun w => ?_)
  refine R_ls (L' := [(0, .ref 36)]) (qs1 rfl qs0) ?_
  refine R_aload_n dX0_length_0 rfl ?_
  refine R_getI dX0_length_1 (lf_RX0_67).get (by decide) rfl rfl ?_
  refine R_ireturn dX0_length_4 rfl rfl ?_
  exact ⟨rfl, rfl⟩
set_option maxRecDepth 100000 in
set_option maxHeartbeats 4000000 in
theorem c_cast {M : qMem} {c t : Nat} (hc : c < 6) (ht : t < 16) : qSem 0 mX0_votesCast [.ref 36, .int (nI c), .int (nI t)] M (qr (M.1 (74 + c) t) M) := by
  refine qSem.of (by decide +kernel) (Nat.le_of_ble_eq_true rfl) (fun w => ?_)
  refine R_ls (L' := [(0, .ref 36), (1, .int (nI c)), (2, .int (nI t))]) (qs1 rfl (qs1 rfl (qs1 rfl qs0))) ?_
  refine R_aload_n dX0_votesCast_0 rfl ?_
  refine R_getR dX0_votesCast_1 lg_RX0_39 (by decide) rfl rfl ?_
  refine R_iload_n dX0_votesCast_4 rfl ?_
  refine R_aald3N dX0_votesCast_5 (by decide) rfl (by omega) (by decide) ?_
  refine R_iload_n dX0_votesCast_6 rfl ?_
  refine R_ialdN dX0_votesCast_7 (show 74 + c < 117 by have := ((by omega) : c < 6); omega) (sh_cas (by omega)) (by omega) (by decide) ?_
  refine R_ireturn dX0_votesCast_8 rfl rfl ?_
  exact ⟨rfl, rfl⟩
set_option maxRecDepth 100000 in
set_option maxHeartbeats 4000000 in
theorem c_prop {M : qMem} {i k : Nat} (hi : i < 96) (hk : k < 4) : qSem 0 mX0_property [.ref 36, .int (nI i), .int (nI k)] M (qr (M.1 (86 + k) i) M) := by
  refine qSem.of (by decide +kernel) (Nat.le_of_ble_eq_true rfl) (fun w => ?_)
  refine R_ls (L' := [(0, .ref 36), (1, .int (nI i)), (2, .int (nI k))]) (qs1 rfl (qs1 rfl (qs1 rfl qs0))) ?_
  refine R_aload_n dX0_property_0 rfl ?_
  refine R_getR dX0_property_1 lg_RX0_45 (by decide) rfl rfl ?_
  refine R_iload_n dX0_property_4 rfl ?_
  refine R_aald3N dX0_property_5 (by decide) rfl (by omega) (by decide) ?_
  refine R_iload_n dX0_property_6 rfl ?_
  refine R_ialdN dX0_property_7 (show 86 + k < 117 by have := ((by omega) : k < 4); omega) (sh_fnd (by omega)) (by omega) (by decide) ?_
  refine R_ireturn dX0_property_8 rfl rfl ?_
  exact ⟨rfl, rfl⟩
set_option maxRecDepth 100000 in
set_option maxHeartbeats 4000000 in
theorem c_isOf {M : qMem} {P : pT} (hC : CB M P) {p c : Nat} (hp : p < P.length) (hc : c < 6) : qSem 0 mX0_isOf [.ref 36, .int (nI p), .int (nI c)] M (qb (isO P p c = true) M) := by
  have hP := hC.2.1
  obtain ⟨q1, q2, q3, q4⟩ := hC.2.2 p hp
  refine qSem.of (by decide +kernel) (Nat.le_of_ble_eq_true rfl) (fun w => ?_)
  refine R_ls (L' := [(0, .ref 36), (1, .int (nI p)), (2, .int (nI c))]) (qs1 rfl (qs1 rfl (qs1 rfl qs0))) ?_
  refine R_aload_n dX0_isOf_0 rfl ?_
  refine R_getR dX0_isOf_1 lg_RX0_22 (by decide) rfl rfl ?_
  refine R_iload_n dX0_isOf_4 rfl ?_
  refine R_ialdN dX0_isOf_5 (by decide) rfl (by omega) (by decide) ?_
  refine R_top (y := nI (pf P p)) q1 ?_
  refine R_iload_n dX0_isOf_6 rfl ?_
  refine R_icmp_eqN (tgt := 20) dX0_isOf_7 (by decide) (by omega) (by omega) (fun h_7 => ?_) (fun h_7 => ?_)
  · refine R_iconst (v := nI 1) dX0_isOf_20 rfl ?_
    refine R_goto (tgt := 25) dX0_isOf_21 (by decide) ?_
    refine R_ireturn dX0_isOf_25 rfl rfl ?_
    exact ⟨rfl, by unfold isO; first | exact Or.inl ⟨rfl, by simp [*]⟩ | exact Or.inr ⟨rfl, by simp [*]⟩⟩
  · refine R_aload_n dX0_isOf_10 rfl ?_
    refine R_getR dX0_isOf_11 lg_RX0_26 (by decide) rfl rfl ?_
    refine R_iload_n dX0_isOf_14 rfl ?_
    refine R_ialdN dX0_isOf_15 (by decide) rfl (by omega) (by decide) ?_
    refine R_top (y := nI (ps P p)) q2 ?_
    refine R_iload_n dX0_isOf_16 rfl ?_
    refine R_icmp_neN (tgt := 24) dX0_isOf_17 (by decide) (by omega) (by omega) (fun h_17 => ?_) (fun h_17 => ?_)
    · refine R_iconst (v := nI 0) dX0_isOf_24 rfl ?_
      refine R_ireturn dX0_isOf_25 rfl rfl ?_
      exact ⟨rfl, by unfold isO; first | exact Or.inl ⟨rfl, by simp [*]⟩ | exact Or.inr ⟨rfl, by simp [*]⟩⟩
    · refine R_iconst (v := nI 1) dX0_isOf_20 rfl ?_
      refine R_goto (tgt := 25) dX0_isOf_21 (by decide) ?_
      refine R_ireturn dX0_isOf_25 rfl rfl ?_
      exact ⟨rfl, by unfold isO; first | exact Or.inl ⟨rfl, by simp [*]⟩ | exact Or.inr ⟨rfl, by simp [*]⟩⟩
set_option maxRecDepth 100000 in
set_option maxHeartbeats 4000000 in
theorem l_clr2 {w : qWT} {M : qMem} {i : Nat} (hi : i < 16) (hk : ∀ K : qMem, (∀ p t, p < 15 → t < i → K.1 (44 + p) t = nI 0) → (∀ p, p < 15 → K.1 (44 + p) i = nI 0) → (∀ c t, c < 6 → t < i → K.1 (74 + c) t = nI 0 ∧ K.1 (80 + c) t = nI 0) → (∀ c, c < 6 → K.1 (74 + c) i = nI 0 ∧ K.1 (80 + c) i = nI 0) → K.1 36 9 = nI 0 → K.1 36 2 = nI 0 → K.1 36 1 = M.1 36 1 → qOff oCu M K → K.2 = M.2 → (∀ o, o < 44 → o ≠ 36 → K.1 o = M.1 o) →  qRW 0 w mX0_clear 73 [(0, .ref 36), (1, .int (nI i))] [] K (fun v N => v = none ∧ ((∀ p t, p < 15 → t < 16 → N.1 (44 + p) t = nI 0) ∧ ∀ c t, c < 6 → t < 16 → N.1 (74 + c) t = nI 0 ∧ N.1 (80 + c) t = nI 0) ∧ N.1 36 9 = nI 0 ∧ N.1 36 2 = nI 0 ∧ N.1 36 1 = M.1 36 1 ∧ qOff oCu M N ∧ N.2 = M.2 ∧ ∀ o, o < 44 → o ≠ 36 → N.1 o = M.1 o)) : ∀ (fu : Nat) (c : Nat) (K : qMem), (7 - c) < fu → (c ≤ 6) → ((∀ p t, p < 15 → t < i → K.1 (44 + p) t = nI 0)) → (∀ p, p < 15 → K.1 (44 + p) i = nI 0) → ((∀ c t, c < 6 → t < i → K.1 (74 + c) t = nI 0 ∧ K.1 (80 + c) t = nI 0)) → (∀ a, a < c → K.1 (74 + a) i = nI 0 ∧ K.1 (80 + a) i = nI 0) → (K.1 36 9 = nI 0) → (K.1 36 2 = nI 0) → (K.1 36 1 = M.1 36 1) → (qOff oCu M K) → (K.2 = M.2) → (∀ o, o < 44 → o ≠ 36 → K.1 o = M.1 o) → qRW 0 w mX0_clear 43 [(0, .ref 36), (1, .int (nI i)), (2, .int (nI c))] [] K (fun v N => v = none ∧ ((∀ p t, p < 15 → t < 16 → N.1 (44 + p) t = nI 0) ∧ ∀ c t, c < 6 → t < 16 → N.1 (74 + c) t = nI 0 ∧ N.1 (80 + c) t = nI 0) ∧ N.1 36 9 = nI 0 ∧ N.1 36 2 = nI 0 ∧ N.1 36 1 = M.1 36 1 ∧ qOff oCu M N ∧ N.2 = M.2 ∧ ∀ o, o < 44 → o ≠ 36 → N.1 o = M.1 o) := by
  intro fu
  induction fu with
  | zero => intro c K hn; exact absurd hn (Nat.not_lt_zero _)
  | succ fu ih =>
    intro c K hn hc k1 k1i k2 k2i f11 f4 f3 hO h2 hs
    refine R_iload_n dX0_clear_43 rfl ?_
    refine R_bipush (v := nI 6) dX0_clear_44 rfl ?_
    refine R_icmp_geN (tgt := 73) dX0_clear_46 (by decide) (by omega) (by omega) (fun h_46 => ?_) (fun h_46 => ?_)
    · refine R_ls (L' := [(0, .ref 36), (1, .int (nI i))]) (qs1 rfl (qs1 rfl qs0)) ?_
      exact hk K k1 k1i k2 (fun a ha => k2i a (by omega)) f11 f4 f3 hO h2 hs
    · refine R_aload_n dX0_clear_49 rfl ?_
      refine R_getR dX0_clear_50 lg_RX0_39 (by decide) rfl rfl ?_
      refine R_iload_n dX0_clear_53 rfl ?_
      refine R_aald3N dX0_clear_54 (by decide) rfl (by omega) (by decide) ?_
      refine R_iload_n dX0_clear_55 rfl ?_
      refine R_iconst (v := nI 0) dX0_clear_56 rfl ?_
      refine R_iastN dX0_clear_57 (show 74 + c < 117 by have := ((by omega) : c < 6); omega) (sh_cas (by omega)) (by omega) (by decide) ?_
      refine R_aload_n dX0_clear_58 rfl ?_
      refine R_getR dX0_clear_59 lg_RX0_42 (by decide) rfl rfl ?_
      refine R_iload_n dX0_clear_62 rfl ?_
      refine R_aald3N dX0_clear_63 (by decide) rfl (by omega) (by decide) ?_
      refine R_iload_n dX0_clear_64 rfl ?_
      refine R_iconst (v := nI 0) dX0_clear_65 rfl ?_
      refine R_iastN dX0_clear_66 (show 80 + c < 117 by have := ((by omega) : c < 6); omega) (sh_lef (by omega)) (by omega) (by decide) ?_
      refine R_iincN (n := 1) (L' := [(0, .ref 36), (1, .int (nI i)), (2, .int (nI (c + 1)))]) dX0_clear_67 rfl (by decide) (qs1 rfl (qs1 rfl (qs1 rfl qs0))) ?_
      refine R_goto (tgt := 43) dX0_clear_70 (by decide) ?_
      refine R_ls (L' := [(0, .ref 36), (1, .int (nI i)), (2, .int (nI (c + 1)))]) (qs1 rfl (qs1 rfl (qs1 rfl qs0))) ?_
      exact (ih (c + 1) _ (by omega) (by omega) (fun p t hp ht => by rw [qIs_no (by omega), qIs_no (by omega)]; exact k1 p t hp ht) (fun p hp => by rw [qIs_no (by omega), qIs_no (by omega)]; exact k1i p hp) (fun a t ha ht => ⟨by rw [qIs_no (by omega), qIs_nk (by omega)]; exact (k2 a t ha ht).1, by rw [qIs_nk (by omega), qIs_no (by omega)]; exact (k2 a t ha ht).2⟩) (fun a ha => by rcases Nat.lt_or_ge a c with q | q <;> first | exact ⟨by rw [qIs_no (by omega), qIs_no (by omega)]; exact (k2i a q).1, by rw [qIs_no (by omega), qIs_no (by omega)]; exact (k2i a q).2⟩ | (have e : a = c := (by omega); subst e; exact ⟨by rw [qIs_no (by omega), qIs_eq], qIs_eq _ _ _ _⟩)) (by rw [qIs_no (by omega), qIs_no (by omega)]; exact f11) (by rw [qIs_no (by omega), qIs_no (by omega)]; exact f4) (by rw [qIs_no (by omega), qIs_no (by omega)]; exact f3) (qOff.is (qOff.is hO (by unfold oCu; omega)) (by unfold oCu; omega)) h2 (fun o h1 h3 => by rw [qIs_no (by omega), qIs_no (by omega)]; exact hs o h1 h3))
set_option maxRecDepth 100000 in
set_option maxHeartbeats 4000000 in
theorem l_clr1 {w : qWT} {M : qMem} {i : Nat} (hi : i < 16) (hk : ∀ K : qMem, (∀ p t, p < 15 → t < i → K.1 (44 + p) t = nI 0) → (∀ p, p < 15 → K.1 (44 + p) i = nI 0) → (∀ c t, c < 6 → t < i → K.1 (74 + c) t = nI 0 ∧ K.1 (80 + c) t = nI 0) → (∀ c, c < 6 → K.1 (74 + c) i = nI 0 ∧ K.1 (80 + c) i = nI 0) → K.1 36 9 = nI 0 → K.1 36 2 = nI 0 → K.1 36 1 = M.1 36 1 → qOff oCu M K → K.2 = M.2 → (∀ o, o < 44 → o ≠ 36 → K.1 o = M.1 o) →  qRW 0 w mX0_clear 73 [(0, .ref 36), (1, .int (nI i))] [] K (fun v N => v = none ∧ ((∀ p t, p < 15 → t < 16 → N.1 (44 + p) t = nI 0) ∧ ∀ c t, c < 6 → t < 16 → N.1 (74 + c) t = nI 0 ∧ N.1 (80 + c) t = nI 0) ∧ N.1 36 9 = nI 0 ∧ N.1 36 2 = nI 0 ∧ N.1 36 1 = M.1 36 1 ∧ qOff oCu M N ∧ N.2 = M.2 ∧ ∀ o, o < 44 → o ≠ 36 → N.1 o = M.1 o)) : ∀ (fu : Nat) (p : Nat) (K : qMem), (16 - p) < fu → (p ≤ 15) → ((∀ p t, p < 15 → t < i → K.1 (44 + p) t = nI 0)) → (∀ a, a < p → K.1 (44 + a) i = nI 0) → ((∀ c t, c < 6 → t < i → K.1 (74 + c) t = nI 0 ∧ K.1 (80 + c) t = nI 0)) → (K.1 36 9 = nI 0) → (K.1 36 2 = nI 0) → (K.1 36 1 = M.1 36 1) → (qOff oCu M K) → (K.2 = M.2) → (∀ o, o < 44 → o ≠ 36 → K.1 o = M.1 o) → qRW 0 w mX0_clear 20 [(0, .ref 36), (1, .int (nI i)), (2, .int (nI p))] [] K (fun v N => v = none ∧ ((∀ p t, p < 15 → t < 16 → N.1 (44 + p) t = nI 0) ∧ ∀ c t, c < 6 → t < 16 → N.1 (74 + c) t = nI 0 ∧ N.1 (80 + c) t = nI 0) ∧ N.1 36 9 = nI 0 ∧ N.1 36 2 = nI 0 ∧ N.1 36 1 = M.1 36 1 ∧ qOff oCu M N ∧ N.2 = M.2 ∧ ∀ o, o < 44 → o ≠ 36 → N.1 o = M.1 o) := by
  intro fu
  induction fu with
  | zero => intro p K hn; exact absurd hn (Nat.not_lt_zero _)
  | succ fu ih =>
    intro p K hn hp k1 k1i k2 f11 f4 f3 hO h2 hs
    refine R_iload_n dX0_clear_20 rfl ?_
    refine R_bipush (v := nI 15) dX0_clear_21 rfl ?_
    refine R_icmp_geN (tgt := 41) dX0_clear_23 (by decide) (by omega) (by omega) (fun h_23 => ?_) (fun h_23 => ?_)
    · refine R_iconst (v := nI 0) dX0_clear_41 rfl ?_
      refine R_istore_n (L' := [(0, .ref 36), (1, .int (nI i)), (2, .int (nI 0))]) dX0_clear_42 (by decide) (qs1 rfl (qs1 rfl (qs1 rfl qs0))) ?_
      refine R_ls (L' := [(0, .ref 36), (1, .int (nI i)), (2, .int (nI 0))]) (qs1 rfl (qs1 rfl (qs1 rfl qs0))) ?_
      exact (l_clr2 hi hk 8 0 K (by omega) (by omega) k1 (fun a ha => k1i a (by omega)) k2 (fun a ha => absurd ha (Nat.not_lt_zero a)) f11 f4 f3 hO h2 hs)
    · refine R_aload_n dX0_clear_26 rfl ?_
      refine R_getR dX0_clear_27 lg_RX0_31 (by decide) rfl rfl ?_
      refine R_iload_n dX0_clear_30 rfl ?_
      refine R_aald3N dX0_clear_31 (by decide) rfl (by omega) (by decide) ?_
      refine R_iload_n dX0_clear_32 rfl ?_
      refine R_iconst (v := nI 0) dX0_clear_33 rfl ?_
      refine R_iastN dX0_clear_34 (show 44 + p < 117 by have := ((by omega) : p < 15); omega) (sh_opn (by omega)) (by omega) (by decide) ?_
      refine R_iincN (n := 1) (L' := [(0, .ref 36), (1, .int (nI i)), (2, .int (nI (p + 1)))]) dX0_clear_35 rfl (by decide) (qs1 rfl (qs1 rfl (qs1 rfl qs0))) ?_
      refine R_goto (tgt := 20) dX0_clear_38 (by decide) ?_
      refine R_ls (L' := [(0, .ref 36), (1, .int (nI i)), (2, .int (nI (p + 1)))]) (qs1 rfl (qs1 rfl (qs1 rfl qs0))) ?_
      exact (ih (p + 1) _ (by omega) (by omega) (fun a t ha ht => by rw [qIs_nk (by omega)]; exact k1 a t ha ht) (fun a ha => by rcases Nat.lt_or_ge a p with q | q <;> first | (rw [qIs_no (by omega)]; exact k1i a q) | (have e : a = p := (by omega); subst e; exact qIs_eq _ _ _ _)) (fun a t ha ht => ⟨by rw [qIs_no (by omega)]; exact (k2 a t ha ht).1, by rw [qIs_no (by omega)]; exact (k2 a t ha ht).2⟩) (by rw [qIs_no (by omega)]; exact f11) (by rw [qIs_no (by omega)]; exact f4) (by rw [qIs_no (by omega)]; exact f3) (qOff.is hO (by unfold oCu; omega)) h2 (fun o h1 h3 => by rw [qIs_no (by omega)]; exact hs o h1 h3))
set_option maxRecDepth 100000 in
set_option maxHeartbeats 4000000 in
theorem l_clr0 {w : qWT} {M : qMem} : ∀ (fu : Nat) (i : Nat) (K : qMem), (17 - i) < fu → (i ≤ 16) → ((∀ p t, p < 15 → t < i → K.1 (44 + p) t = nI 0)) → ((∀ c t, c < 6 → t < i → K.1 (74 + c) t = nI 0 ∧ K.1 (80 + c) t = nI 0)) → (K.1 36 9 = nI 0) → (K.1 36 2 = nI 0) → (K.1 36 1 = M.1 36 1) → (qOff oCu M K) → (K.2 = M.2) → (∀ o, o < 44 → o ≠ 36 → K.1 o = M.1 o) → qRW 0 w mX0_clear 12 [(0, .ref 36), (1, .int (nI i))] [] K (fun v N => v = none ∧ ((∀ p t, p < 15 → t < 16 → N.1 (44 + p) t = nI 0) ∧ ∀ c t, c < 6 → t < 16 → N.1 (74 + c) t = nI 0 ∧ N.1 (80 + c) t = nI 0) ∧ N.1 36 9 = nI 0 ∧ N.1 36 2 = nI 0 ∧ N.1 36 1 = M.1 36 1 ∧ qOff oCu M N ∧ N.2 = M.2 ∧ ∀ o, o < 44 → o ≠ 36 → N.1 o = M.1 o) := by
  intro fu
  induction fu with
  | zero => intro i K hn; exact absurd hn (Nat.not_lt_zero _)
  | succ fu ih =>
    intro i K hn hi k1 k2 f11 f4 f3 hO h2 hs
    refine R_iload_n dX0_clear_12 rfl ?_
    refine R_bipush (v := nI 16) dX0_clear_13 rfl ?_
    refine R_icmp_geN (tgt := 79) dX0_clear_15 (by decide) (by omega) (by omega) (fun h_15 => ?_) (fun h_15 => ?_)
    · refine R_return dX0_clear_79 rfl ?_
      have e : i = 16 := by omega
      subst e
      exact ⟨rfl, ⟨k1, k2⟩, f11, f4, f3, hO, h2, hs⟩
    · refine R_iconst (v := nI 0) dX0_clear_18 rfl ?_
      refine R_istore_n (L' := [(0, .ref 36), (1, .int (nI i)), (2, .int (nI 0))]) dX0_clear_19 (by decide) (qs1 rfl (qs1 rfl (qs1 rfl qs0))) ?_
      refine R_ls (L' := [(0, .ref 36), (1, .int (nI i)), (2, .int (nI 0))]) (qs1 rfl (qs1 rfl (qs1 rfl qs0))) ?_
      exact (l_clr1 (w := w) (M := M) (i := i) (by omega) (fun K k1 k1i k2 k2i f11 f4 f3 hO h2 hs => by refine R_iincN (n := 1) (L' := [(0, .ref 36), (1, .int (nI (i + 1)))]) dX0_clear_73 rfl (by decide) (qs1 rfl (qs1 rfl qs0)) ?_; refine R_goto (tgt := 12) dX0_clear_76 (by decide) ?_; exact ih (i + 1) K (by omega) (by omega) (fun p t hp ht => by rcases Nat.lt_or_ge t i with q | q <;> first | exact k1 p t hp q | (have e : t = i := (by omega); subst e; exact k1i p hp)) (fun c t hc ht => by rcases Nat.lt_or_ge t i with q | q <;> first | exact k2 c t hc q | (have e : t = i := (by omega); subst e; exact k2i c hc)) f11 f4 f3 hO h2 hs) 17 0 K (by omega) (by omega) k1 (fun a ha => absurd ha (Nat.not_lt_zero a)) k2 f11 f4 f3 hO h2 hs)
set_option maxRecDepth 100000 in
set_option maxHeartbeats 4000000 in
theorem c_cclear {M : qMem} : qSem 0 mX0_clear [.ref 36] M (fun v N => v = none ∧ ((∀ p t, p < 15 → t < 16 → N.1 (44 + p) t = nI 0) ∧ ∀ c t, c < 6 → t < 16 → N.1 (74 + c) t = nI 0 ∧ N.1 (80 + c) t = nI 0) ∧ N.1 36 9 = nI 0 ∧ N.1 36 2 = nI 0 ∧ N.1 36 1 = M.1 36 1 ∧ qOff oCu M N ∧ N.2 = M.2 ∧ ∀ o, o < 44 → o ≠ 36 → N.1 o = M.1 o) := by
  refine qSem.of (by decide +kernel) (Nat.le_of_ble_eq_true rfl) (fun w => ?_)
  refine R_ls (L' := [(0, .ref 36)]) (qs1 rfl qs0) ?_
  refine R_aload_n dX0_clear_0 rfl ?_
  refine R_iconst (v := nI 0) dX0_clear_1 rfl ?_
  refine R_putI dX0_clear_2 lf_RX0_67 (by decide) rfl rfl rfl rfl ?_
  refine R_aload_n dX0_clear_5 rfl ?_
  refine R_iconst (v := nI 0) dX0_clear_6 rfl ?_
  refine R_putI dX0_clear_7 lf_RX0_77 (by decide) rfl rfl rfl rfl ?_
  refine R_iconst (v := nI 0) dX0_clear_10 rfl ?_
  refine R_istore_n (L' := [(0, .ref 36), (1, .int (nI 0))]) dX0_clear_11 (by decide) (qs1 rfl (qs1 rfl qs0)) ?_
  refine R_ls (L' := [(0, .ref 36), (1, .int (nI 0))]) (qs1 rfl (qs1 rfl qs0)) ?_
  exact (l_clr0 18 0 _ (by omega) (by omega) (fun p t hp ht => absurd ht (Nat.not_lt_zero t)) (fun p t hp ht => absurd ht (Nat.not_lt_zero t)) (by rw [qIs_nk (by decide), qIs_eq]) (qIs_eq _ _ _ _) (by rw [qIs_nk (by decide), qIs_nk (by decide)]) (qOff.is (qOff.is qOff.rf (by unfold oCu; omega)) (by unfold oCu; omega)) rfl (fun o h1 h3 => by rw [qIs_no h3, qIs_no h3]))
