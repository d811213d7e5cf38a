
-- ===== longs as whole numbers =====
theorem j_ofI {n : Int} (h1 : -9223372036854775808 ≤ n) (h2 : n < 9223372036854775808) : (Int64.ofInt n).toInt = n := Int64.toInt_ofInt_of_le (by omega) (by omega)
theorem j_eq (x : Int64) : x = Int64.ofInt x.toInt := (Int64.ofInt_toInt x).symm
theorem j_add {x y : Int64} (h1 : -9223372036854775808 ≤ x.toInt + y.toInt) (h2 : x.toInt + y.toInt < 9223372036854775808) : (x + y).toInt = x.toInt + y.toInt := by
  rw [j_eq x, j_eq y, ← Int64.ofInt_add, j_ofI h1 h2, Int64.ofInt_toInt, Int64.ofInt_toInt]
theorem j_mul {x y : Int64} (h1 : -9223372036854775808 ≤ x.toInt * y.toInt) (h2 : x.toInt * y.toInt < 9223372036854775808) : (x * y).toInt = x.toInt * y.toInt := by
  rw [j_eq x, j_eq y, ← Int64.ofInt_mul, j_ofI h1 h2, Int64.ofInt_toInt, Int64.ofInt_toInt]
theorem j_i (x : Int32) : x.toInt64 = Int64.ofInt x.toInt := by rw [← Int32.toInt_toInt64, Int64.ofInt_toInt]
theorem j_n {n : Nat} (h : n < 2147483648) : (nI n).toInt64 = Int64.ofInt n := by rw [j_i, nI_toInt h]
theorem j_inj {x y : Int64} (h : x.toInt = y.toInt) : x = y := Int64.toInt_inj.mp h
def Z1 (l : List (Nat × Int32)) : Nat → Int
  | 0 => 0
  | i + 1 => Z1 l i + (en l i).toInt
def Z2 (l : List (Nat × Int32)) : Nat → Int
  | 0 => 0
  | i + 1 => Z2 l i + (en l i).toInt * (en l i).toInt
theorem S1_Z (l : List (Nat × Int32)) : ∀ i, S1 l i = Int64.ofInt (Z1 l i)
  | 0 => rfl
  | i + 1 => by rw [S1, Z1, S1_Z l i, j_i, Int64.ofInt_add]
theorem S2_Z (l : List (Nat × Int32)) : ∀ i, S2 l i = Int64.ofInt (Z2 l i)
  | 0 => rfl
  | i + 1 => by rw [S2, Z2, S2_Z l i, j_i, Int64.ofInt_add, Int64.ofInt_mul]
def serB (l : List (Nat × Int32)) : Prop := ∀ i, -19998 ≤ (en l i).toInt ∧ (en l i).toInt ≤ 19998
theorem sq_le {a c : Int} (h1 : -c ≤ a) (h2 : a ≤ c) : a * a ≤ c * c := by
  have h : 0 ≤ (c - a) * (c + a) := Int.mul_nonneg (by omega) (by omega)
  have e : (c - a) * (c + a) = c * c - a * a := by rw [Int.sub_mul, Int.mul_add, Int.mul_add, Int.mul_comm a c]; omega
  omega
theorem Z1_b {l : List (Nat × Int32)} (h : serB l) (i : Nat) : ∀ m : Nat, -(19998 * (m : Int)) ≤ Z1 l (i + m) - Z1 l i ∧ Z1 l (i + m) - Z1 l i ≤ 19998 * (m : Int)
  | 0 => by simp
  | m + 1 => by
    have := Z1_b h i m
    have h2 := h (i + m)
    rw [← Nat.add_assoc, Z1]
    omega
theorem Z2_b {l : List (Nat × Int32)} (h : serB l) (i : Nat) : ∀ m : Nat, 0 ≤ Z2 l (i + m) - Z2 l i ∧ Z2 l (i + m) - Z2 l i ≤ 399920004 * (m : Int)
  | 0 => by simp
  | m + 1 => by
    have := Z2_b h i m
    have h2 := h (i + m)
    have h3 : (en l (i + m)).toInt * (en l (i + m)).toInt ≤ 19998 * 19998 := sq_le (by omega) (by omega)
    have h4 : 0 ≤ (en l (i + m)).toInt * (en l (i + m)).toInt := by
      rcases Int.le_total 0 (en l (i + m)).toInt with h | h
      · exact Int.mul_nonneg h h
      · exact Int.mul_nonneg_of_nonpos_of_nonpos h h
    rw [← Nat.add_assoc, Z2]
    omega
/-- the spread as a whole number, and its bound -/
theorem spd_b {l : List (Nat × Int32)} (h : serB l) {i j : Nat} (hj : j ≤ i + 16) : -9007199254740992 ≤ (spd l i j).toInt ∧ (spd l i j).toInt ≤ 9007199254740992 := by
  unfold spd
  by_cases hc : j ≤ i
  · rw [if_pos hc]; decide
  · rw [if_neg hc]
    obtain ⟨m, rfl⟩ : ∃ m, j = i + m := ⟨j - i, by omega⟩
    have hm : 1 ≤ m ∧ m ≤ 16 := by omega
    have a := Z1_b h i m
    have q := Z2_b h i m
    generalize hA : Z1 l (i + m) - Z1 l i = A at a
    generalize hQ : Z2 l (i + m) - Z2 l i = Q at q
    have eA : S1 l (i + m) - S1 l i = Int64.ofInt A := by rw [S1_Z, S1_Z, ← Int64.ofInt_sub, hA]
    have eQ : S2 l (i + m) - S2 l i = Int64.ofInt Q := by rw [S2_Z, S2_Z, ← Int64.ofInt_sub, hQ]
    have ez : sz i (i + m) = Int64.ofInt (m : Int) := by unfold sz; rw [Nat.add_sub_cancel_left]; exact j_n (by omega)
    have hs : 720720 / m ≤ 720720 := Nat.div_le_self _ _
    have ec : sc i (i + m) = Int64.ofInt ((720720 / m : Nat) : Int) := by unfold sc; rw [Nat.add_sub_cancel_left]; exact j_n (by omega)
    rw [eA, eQ, ez, ec, ← Int64.ofInt_mul, ← Int64.ofInt_mul, ← Int64.ofInt_sub, ← Int64.ofInt_mul]
    have hA2 : A * A ≤ (19998 * (m : Int)) * (19998 * (m : Int)) := sq_le a.1 a.2
    have hA0 : 0 ≤ A * A := by
      rcases Int.le_total 0 A with h | h
      · exact Int.mul_nonneg h h
      · exact Int.mul_nonneg_of_nonpos_of_nonpos h h
    generalize A * A = B at *
    have key : -9007199254740992 ≤ ((m : Int) * Q - B) * ((720720 / m : Nat) : Int) ∧ ((m : Int) * Q - B) * ((720720 / m : Nat) : Int) ≤ 9007199254740992 := by
      obtain ⟨h1, h2⟩ := hm
      have hcases : m = 1 ∨ m = 2 ∨ m = 3 ∨ m = 4 ∨ m = 5 ∨ m = 6 ∨ m = 7 ∨ m = 8 ∨ m = 9 ∨ m = 10 ∨ m = 11 ∨ m = 12 ∨ m = 13 ∨ m = 14 ∨ m = 15 ∨ m = 16 := by omega
      rcases hcases with rfl | rfl | rfl | rfl | rfl | rfl | rfl | rfl | rfl | rfl | rfl | rfl | rfl | rfl | rfl | rfl <;> (simp only [Nat.reduceDiv]; omega)
    rw [j_ofI (by omega) (by omega)]
    exact key
theorem en_sub {a b : Int32} (ha : okv a) (hb : okv b) : -19998 ≤ (a - b).toInt ∧ (a - b).toInt ≤ 19998 := by
  unfold okv at ha hb
  rw [Int32.toInt_sub, Int.bmod_eq_of_le (by omega) (by omega)]
  omega
theorem ser_mem {d : dT} (hB : dB d) {u v n : Nat} : ∀ x ∈ serTo d u v n, -19998 ≤ x.2.toInt ∧ x.2.toInt ≤ 19998 := by
  intro x hx
  unfold serTo at hx
  obtain ⟨t, -, ht⟩ := List.mem_filterMap.mp hx
  unfold serAt at ht
  cases h1 : dV d u t with
  | none => rw [h1] at ht; simp at ht
  | some a =>
    cases h2 : dV d v t with
    | none => rw [h1, h2] at ht; simp at ht
    | some b =>
      rw [h1, h2] at ht
      cases ht
      exact en_sub (hB.2.2.1 _ _ _ h1) (hB.2.2.1 _ _ _ h2)
theorem ser_b {d : dT} (hB : dB d) (u v : Nat) : serB (ser d u v) := by
  intro i
  unfold en
  rw [List.getD_eq_getElem?_getD]
  cases h : (ser d u v)[i]? with
  | none => simp
  | some x => exact ser_mem hB x (List.mem_of_getElem? h)
theorem ser_16 {d : dT} (hB : dB d) (u v : Nat) : (ser d u v).length ≤ 16 := Nat.le_trans (serTo_len _ _ _ _) hB.1
-- ===== bounds of the sums =====
def sP (p : Nat) : Int := 720720 * (p : Int)
theorem sP_b {p : Nat} (hp : p ≤ 99999) : 0 ≤ sP p ∧ sP p ≤ 72071279280 := by unfold sP; omega
def fz (l : List (Nat × Int32)) (i j : Nat) : Int := (spd l i j).toInt
theorem rst_b {n R : Nat} {f : Nat → Nat → Int} (hf : ∀ i j, j ≤ n → -9007199254740992 ≤ f i j ∧ f i j ≤ 9007199254740992) : ∀ {k i : Nat} {r : Int}, rst n R f k i = some r → -(9007199254740992 * ((k : Int) + 1)) ≤ r ∧ r ≤ 9007199254740992 * ((k : Int) + 1)
  | 0, i, r, h => by
    unfold rst at h
    split at h
    · cases h; have := hf i n (Nat.le_refl n); omega
    · cases h
  | k + 1, i, r, h => by
    obtain ⟨j, r', h1, h2, h3, h4⟩ := rst_in n R f h
    have := rst_b hf h3
    have := hf i j (by omega)
    rw [h4]; omega
theorem vl_b {n R : Nat} {f : Nat → Nat → Int} (hf : ∀ i j, j ≤ n → -9007199254740992 ≤ f i j ∧ f i j ≤ 9007199254740992) {p : Nat} (hp : p ≤ 99999) {i k : Nat} (hk : k ≤ 15) : -144115188075855872 ≤ vl n R f (sP p) i k ∧ vl n R f (sP p) i k ≤ 144116270000000000 := by
  unfold vl sP
  have hP : 720720 * (p : Int) * (k : Int) ≤ 720720 * (p : Int) * 15 := Int.mul_le_mul_of_nonneg_left (by omega) (by omega)
  have hP0 : 0 ≤ 720720 * (p : Int) * (k : Int) := Int.mul_nonneg (by omega) (by omega)
  cases h : rst n R f k i with
  | none => simp only [Option.getD_none]; omega
  | some r =>
    have := rst_b hf h
    simp only [Option.getD_some]; omega
theorem fz_b {l : List (Nat × Int32)} (h : serB l) (hl : l.length ≤ 16) : ∀ i j, j ≤ l.length → -9007199254740992 ≤ fz l i j ∧ fz l i j ≤ 9007199254740992 := fun i j hj => spd_b h (by omega)
-- ===== the walk of the starts =====
theorem scan_ex (n R : Nat) (f : Nat → Nat → Int) (P : Int) (i : Nat) : ∀ c, ∃ C b x, Scan n R f P i (i + R + c) C b x
  | 0 => ⟨_, _, _, Scan_0 n R f P i⟩
  | c + 1 => by
    obtain ⟨C, b, x, h⟩ := scan_ex n R f P i c
    show ∃ C b x, Scan n R f P i (i + R + c + 1) C b x
    by_cases hl : f i (i + R + c) + P + vl n R f P (i + R + c) (bk n R f P (i + R + c) 15) < C ∨ (f i (i + R + c) + P + vl n R f P (i + R + c) (bk n R f P (i + R + c) 15) = C ∧ bk n R f P (i + R + c) 15 + 1 < b)
    · by_cases hJ : i + R + c + R ≤ n
      · exact ⟨_, _, _, Scan_yes n R f P h (by omega) hJ hl⟩
      · refine ⟨C, b, x, h.1, fun j h1 h2 h3 => h.2.1 j h1 (by omega) h3, ?_⟩
        rcases h.2.2 with a | ⟨b1, b2, b3⟩
        · exact Or.inl a
        · exact Or.inr ⟨b1, by omega, b3⟩
    · exact ⟨C, b, x, Scan_no n R f P h hl⟩
theorem bk_nx {n R : Nat} {f : Nat → Nat → Int} {P : Int} (hR : 1 ≤ R) (hn : n ≤ 16) {i k : Nat} (h0 : i = 0 ∨ i + R ≤ n) (hk : bk n R f P i 15 = k + 1) : nx n R f (k + 1) i + R ≤ n ∧ i + R ≤ nx n R f (k + 1) i ∧ bk n R f P (nx n R f (k + 1) i) 15 = k := by
  obtain ⟨C, b, x, h⟩ := scan_ex n R f P i (n + 1)
  obtain ⟨e1, e2, e3, e4⟩ := Scan_end n R f P hR hn h0 (by omega) h
  have eb : b = k + 1 := e1.trans hk
  rw [if_neg (by omega), eb] at e3
  have h4 := e4 (by omega)
  rcases h.2.2 with ⟨b1, -, -⟩ | ⟨b1, b2, b3, -⟩
  · omega
  · rw [e3] at b1 b3 h4; exact ⟨b3, b1, by omega⟩
theorem stp_ok {n R : Nat} {f : Nat → Nat → Int} {P : Int} (hR : 1 ≤ R) (hn : n ≤ 16) : ∀ m, m ≤ bk n R f P 0 15 → (stp n R f (bk n R f P 0 15) m = 0 ∨ stp n R f (bk n R f P 0 15) m + R ≤ n) ∧ bk n R f P (stp n R f (bk n R f P 0 15) m) 15 = bk n R f P 0 15 - m
  | 0, _ => ⟨Or.inl rfl, rfl⟩
  | m + 1, h => by
    obtain ⟨h1, h2⟩ := stp_ok (f := f) (P := P) hR hn m (by omega)
    obtain ⟨q1, q2, q3⟩ := bk_nx (P := P) (f := f) (k := bk n R f P 0 15 - m - 1) hR hn h1 (by omega)
    rw [show bk n R f P 0 15 - m - 1 + 1 = bk n R f P 0 15 - m by omega] at q1 q2 q3
    have e : stp n R f (bk n R f P 0 15) (m + 1) = nx n R f (bk n R f P 0 15 - m) (stp n R f (bk n R f P 0 15) m) := by rw [stp, if_pos (by omega)]
    rw [e]
    exact ⟨Or.inr q1, by omega⟩
theorem stp_mono {n R : Nat} {f : Nat → Nat → Int} {P : Int} (hR : 1 ≤ R) (hn : n ≤ 16) {m : Nat} (hm : m < bk n R f P 0 15) : stp n R f (bk n R f P 0 15) m + R ≤ stp n R f (bk n R f P 0 15) (m + 1) := by
  obtain ⟨h1, h2⟩ := stp_ok (f := f) (P := P) hR hn m (by omega)
  obtain ⟨q1, q2, q3⟩ := bk_nx (P := P) (f := f) (k := bk n R f P 0 15 - m - 1) hR hn h1 (by omega)
  rw [show bk n R f P 0 15 - m - 1 + 1 = bk n R f P 0 15 - m by omega] at q2
  rw [stp, if_pos hm]; exact q2
theorem stp_end {n R : Nat} {f : Nat → Nat → Int} {b m : Nat} (h : b ≤ m) : stp n R f b (m + 1) = n := by rw [stp, if_neg (by omega)]
theorem bk_empty {R : Nat} {f : Nat → Nat → Int} {P : Int} (hR : 1 ≤ R) : bk 0 R f P 0 15 = 0 := by
  refine bk_uniq 0 R f P (Or.inl rfl) (by omega) (by rw [rst_k0 0 R f (Or.inl rfl)]; rfl) (fun k hk hs => ?_)
  cases h : rst 0 R f k 0 with
  | none => rw [h] at hs; cases hs
  | some r =>
    rcases Nat.eq_zero_or_pos k with e | e
    · subst e; exact Or.inr ⟨rfl, Nat.le_refl _⟩
    · have h2 := rst_room 0 R f hR h (Or.inl e)
      have h3 : k + 1 ≤ (k + 1) * R := Nat.le_mul_of_pos_right _ (by omega)
      omega
-- ===== the memory of the segmentation =====
def oSg (o : Nat) : Prop := 31 ≤ o ∧ o < 36
/-- the breaks of the best segmentation of l -/
def bkN (l : List (Nat × Int32)) (R p : Nat) : Nat := bk l.length R (fz l) (sP p) 0 15
def stN (l : List (Nat × Int32)) (R p m : Nat) : Nat := stp l.length R (fz l) (bkN l R p) m
def Row (K : qMem) (l : List (Nat × Int32)) (R p j : Nat) : Prop := (K.2 31 j).toInt = vl l.length R (fz l) (sP p) j (bk l.length R (fz l) (sP p) j 15) ∧ K.1 32 j = nI (bk l.length R (fz l) (sP p) j 15) ∧ K.1 33 j = nI (if bk l.length R (fz l) (sP p) j 15 = 0 then l.length else nx l.length R (fz l) (bk l.length R (fz l) (sP p) j 15) j)
def XG (K : qMem) (l : List (Nat × Int32)) (R p : Nat) : Prop := (K.2 31 0).toInt = vl l.length R (fz l) (sP p) 0 (bkN l R p) ∧ K.1 32 0 = nI (bkN l R p) ∧ ∀ m, m ≤ bkN l R p + 1 → K.1 35 m = nI (stN l R p m)
theorem Row_mv {K N : qMem} {l : List (Nat × Int32)} {R p j : Nat} (h : Row K l R p j) (e1 : N.2 31 j = K.2 31 j) (e2 : N.1 32 j = K.1 32 j) (e3 : N.1 33 j = K.1 33 j) : Row N l R p j := by
  unfold Row at *; rw [e1, e2, e3]; exact h
def offI (i : Nat) (M K : qMem) : Prop := qOff oSg M K ∧ ∀ j, j ≠ i → K.2 31 j = M.2 31 j ∧ K.1 32 j = M.1 32 j ∧ K.1 33 j = M.1 33 j
theorem q_subcmp {n R j : Nat} (hn : n < 1000) (hR : R < 1000) (hj : j < 1000) : nI n - nI R < nI j ↔ n < j + R := by
  rw [Int32.lt_iff_toInt_lt, pk_sub_toInt (by omega) (by omega), nI_toInt (by omega)]
  omega
theorem pen64 {p : Nat} (hp : p ≤ 99999) : ((720720 : Int64) * (nI p).toInt64).toInt = sP p := by
  rw [j_n (by omega), show (720720 : Int64) = Int64.ofInt 720720 from rfl, ← Int64.ofInt_mul, j_ofI (by omega) (by omega)]; rfl

set_option maxRecDepth 100000 in
set_option maxHeartbeats 4000000 in
theorem l_fitFrom {w : qWT} {M : qMem} {l : List (Nat × Int32)} (hS : XS M l) (hb : serB l) {R p : Nat} (hR : 1 ≤ R) (hR4 : R ≤ 4) (hp : p ≤ 99999) {i : Nat} (hi : i < l.length) (hrow : ∀ j, i < j → j + R ≤ l.length → Row M l R p j) {P : Int64} (hP : P.toInt = sP p) : ∀ (fu : Nat) (j : Nat) (K : qMem) (C : Int) (b x : Nat), (l.length + 2 - j) < fu → (i + R ≤ j) → (j ≤ l.length + 5) → (Scan l.length R (fz l) (sP p) i j C b x) → (offI i M K) → ((K.2 31 i).toInt = C) → (K.1 32 i = nI b) → (K.1 33 i = nI x) → qRW 0 w mX5_fitFrom 45 [(0, .ref 30), (1, .int (nI i)), (2, .int (nI R)), (3, .long (P)), (5, .int (nI (l.length))), (6, .int (nI j))] [] K (fun v N => v = none ∧ offI i M N ∧ ((i = 0 ∨ i + R ≤ l.length) → Row N l R p i)) := by
  intro fu
  induction fu with
  | zero => intro j K C b x hn; exact absurd hn (Nat.not_lt_zero _)
  | succ fu ih =>
    intro j K C b x hn hij hj9 hSc hO hC hb2 hx
    have hl16 := hS.2.1
    have hPb := sP_b hp
    have hSK : XS K l := hS.off (fun o h1 h2 => hO.1 o (by unfold oSg; omega))
    have hfz := fz_b hb hl16
    have hbkj := bk_le l.length R (fz l) (sP p) j 15
    have hvj := vl_b hfz hp (R := R) (i := j) hbkj
    refine R_iload dX5_fitFrom_45 rfl ?_
    refine R_iload dX5_fitFrom_47 rfl ?_
    refine R_iload_n dX5_fitFrom_49 rfl ?_
    refine R_isub dX5_fitFrom_50 ?_
    refine R_icmp_gt (tgt := 152) dX5_fitFrom_51 (by decide) (fun h_51 => ?_) (fun h_51 => ?_)
    · have h51 := (q_subcmp (by omega) (by omega) (by omega)).mp h_51
      refine R_return dX5_fitFrom_152 rfl ?_
      refine ⟨rfl, hO, fun h0 => ?_⟩
      obtain ⟨e1, e2, e3, -⟩ := Scan_end l.length R (fz l) (sP p) hR hl16 h0 (by omega) hSc
      rw [e1] at e3 hb2
      exact ⟨hC.trans e2, hb2, by rw [hx, e3]⟩
    · have h51 : ¬ l.length < j + R := fun z => h_51 ((q_subcmp (by omega) (by omega) (by omega)).mpr z)
      have hRj := hrow j (by omega) (by omega)
      have hKj : K.2 31 j = M.2 31 j ∧ K.1 32 j = M.1 32 j ∧ K.1 33 j = M.1 33 j := hO.2 j (by omega)
      have hfij := hfz i j (by omega)
      have hc64 : (spd l i j + P + K.2 31 j).toInt = fz l i j + sP p + vl l.length R (fz l) (sP p) j (bk l.length R (fz l) (sP p) j 15) := by rw [hKj.1]; have a1 := hRj.1; have a2 : (spd l i j + P).toInt = fz l i j + sP p := (by rw [j_add (by rw [hP]; show _ ≤ fz l i j + _; omega) (by rw [hP]; show fz l i j + _ < _; omega), hP]; rfl); rw [j_add (by rw [a1, a2]; omega) (by rw [a1, a2]; omega), a1, a2]
      refine R_aload_n dX5_fitFrom_54 rfl ?_
      refine R_getR dX5_fitFrom_55 lg_RX5_12 (by decide) rfl rfl ?_
      refine R_iload_n dX5_fitFrom_58 rfl ?_
      refine R_iload dX5_fitFrom_59 rfl ?_
      refine R_callV (mc := mX6_scaledSpread) (As := [_, _]) (r := 25) dX5_fitFrom_61 lm_RX5_52 mv_X6_scaledSpread rfl (by decide) rfl rfl rfl rfl (Nat.le_of_ble_eq_true rfl) (c_spread hSK (by omega) (by omega)) ?_
      rintro _ _ ⟨rfl, rfl⟩
      refine R_lload_n dX5_fitFrom_64 rfl ?_
      refine R_ladd dX5_fitFrom_65 ?_
      refine R_aload_n dX5_fitFrom_66 rfl ?_
      refine R_getR dX5_fitFrom_67 lg_RX5_18 (by decide) rfl rfl ?_
      refine R_iload dX5_fitFrom_70 rfl ?_
      refine R_laldN dX5_fitFrom_72 (by decide) rfl (by omega) (by decide) ?_
      refine R_ladd dX5_fitFrom_73 ?_
      refine R_lstore (L' := [(0, .ref 30), (1, .int (nI i)), (2, .int (nI R)), (3, .long (P)), (5, .int (nI (l.length))), (6, .int (nI j)), (7, .long _)]) dX5_fitFrom_74 (by decide) (qs1 rfl (qs1 rfl (qs1 rfl (qs1 rfl (qs1 rfl (qs1 rfl (qs1 rfl qs0))))))) ?_
      refine R_aload_n dX5_fitFrom_76 rfl ?_
      refine R_getR dX5_fitFrom_77 lg_RX5_22 (by decide) rfl rfl ?_
      refine R_iload dX5_fitFrom_80 rfl ?_
      refine R_ialdN dX5_fitFrom_82 (by decide) rfl (by omega) (by decide) ?_
      refine R_top (y := nI (bk l.length R (fz l) (sP p) j 15)) (by rw [hKj.2.1]; exact hRj.2.1) ?_
      refine R_iconst (v := nI 1) dX5_fitFrom_83 rfl ?_
      refine R_iaddN dX5_fitFrom_84 ?_
      refine R_istore (L' := [(0, .ref 30), (1, .int (nI i)), (2, .int (nI R)), (3, .long (P)), (5, .int (nI (l.length))), (6, .int (nI j)), (7, .long _), (9, .int (nI ((bk l.length R (fz l) (sP p) j 15) + 1)))]) dX5_fitFrom_85 (by decide) (qs1 rfl (qs1 rfl (qs1 rfl (qs1 rfl (qs1 rfl (qs1 rfl (qs1 rfl (qs1 rfl qs0)))))))) ?_
      refine R_lload dX5_fitFrom_87 rfl ?_
      refine R_aload_n dX5_fitFrom_89 rfl ?_
      refine R_getR dX5_fitFrom_90 lg_RX5_18 (by decide) rfl rfl ?_
      refine R_iload_n dX5_fitFrom_93 rfl ?_
      refine R_laldN dX5_fitFrom_94 (by decide) rfl (by omega) (by decide) ?_
      refine R_lc_lt (tgt := 122) dX5_fitFrom_95 dX5_fitFrom_96 (by decide) (fun h_95 => ?_) (fun h_95 => ?_)
      · have hSc2 := Scan_yes l.length R (fz l) (sP p) hSc hij (by omega) (Or.inl (by rw [← hc64, ← hC]; exact Int64.lt_iff_toInt_lt.mp h_95))
        refine R_aload_n dX5_fitFrom_122 rfl ?_
        refine R_getR dX5_fitFrom_123 lg_RX5_18 (by decide) rfl rfl ?_
        refine R_iload_n dX5_fitFrom_126 rfl ?_
        refine R_lload dX5_fitFrom_127 rfl ?_
        refine R_lastN dX5_fitFrom_129 (by decide) rfl (by omega) (by decide) ?_
        refine R_aload_n dX5_fitFrom_130 rfl ?_
        refine R_getR dX5_fitFrom_131 lg_RX5_22 (by decide) rfl rfl ?_
        refine R_iload_n dX5_fitFrom_134 rfl ?_
        refine R_iload dX5_fitFrom_135 rfl ?_
        refine R_iastN dX5_fitFrom_137 (by decide) rfl (by omega) (by decide) ?_
        refine R_aload_n dX5_fitFrom_138 rfl ?_
        refine R_getR dX5_fitFrom_139 lg_RX5_26 (by decide) rfl rfl ?_
        refine R_iload_n dX5_fitFrom_142 rfl ?_
        refine R_iload dX5_fitFrom_143 rfl ?_
        refine R_iastN dX5_fitFrom_145 (by decide) rfl (by omega) (by decide) ?_
        refine R_iincN (n := 1) (L' := [(0, .ref 30), (1, .int (nI i)), (2, .int (nI R)), (3, .long (P)), (5, .int (nI (l.length))), (6, .int (nI (j + 1))), (7, .long _), (9, .int (nI ((bk l.length R (fz l) (sP p) j 15) + 1)))]) dX5_fitFrom_146 rfl (by decide) (qs1 rfl (qs1 rfl (qs1 rfl (qs1 rfl (qs1 rfl (qs1 rfl (qs1 rfl (qs1 rfl qs0)))))))) ?_
        refine R_goto (tgt := 45) dX5_fitFrom_149 (by decide) ?_
        refine R_ls (L' := [(0, .ref 30), (1, .int (nI i)), (2, .int (nI R)), (3, .long (P)), (5, .int (nI (l.length))), (6, .int (nI (j + 1)))]) (qs1 rfl (qs1 rfl (qs1 rfl (qs1 rfl (qs1 rfl (qs1 rfl qs0)))))) ?_
        exact (by first | exact (ih (j + 1) _ _ _ _ (by omega) (by omega) (by omega) hSc2 ⟨qOff.is (qOff.is (qOff.ls hO.1 (by unfold oSg; omega)) (by unfold oSg; omega)) (by unfold oSg; omega), fun a ha => ⟨by rw [qIs_2, qIs_2, qLs_nk ha]; exact (hO.2 a ha).1, by rw [qIs_no (by omega), qIs_nk ha]; exact (hO.2 a ha).2.1, by rw [qIs_nk ha, qIs_no (by omega)]; exact (hO.2 a ha).2.2⟩⟩ (by rw [qIs_2, qIs_2, qLs_eq]; exact hc64) (by rw [qIs_no (by omega), qIs_eq]) (qIs_eq _ _ _ _)) | exact (ih (j + 1) _ _ _ _ (by omega) (by omega) (by omega) hSc2 hO hC hb2 hx))
      · have h95 : ¬ (fz l i j + sP p + vl l.length R (fz l) (sP p) j (bk l.length R (fz l) (sP p) j 15) < C) := fun z => h_95 (Int64.lt_iff_toInt_lt.mpr (by rw [hc64, hC]; exact z))
        refine R_lload dX5_fitFrom_99 rfl ?_
        refine R_aload_n dX5_fitFrom_101 rfl ?_
        refine R_getR dX5_fitFrom_102 lg_RX5_18 (by decide) rfl rfl ?_
        refine R_iload_n dX5_fitFrom_105 rfl ?_
        refine R_laldN dX5_fitFrom_106 (by decide) rfl (by omega) (by decide) ?_
        refine R_lc_ne (tgt := 146) dX5_fitFrom_107 dX5_fitFrom_108 (by decide) (fun h_107 => ?_) (fun h_107 => ?_)
        · have hSc2 := Scan_no l.length R (fz l) (sP p) hSc (fun z => z.elim h95 (fun y => h_107 (j_inj (by rw [hc64, hC]; exact y.1))))
          refine R_iincN (n := 1) (L' := [(0, .ref 30), (1, .int (nI i)), (2, .int (nI R)), (3, .long (P)), (5, .int (nI (l.length))), (6, .int (nI (j + 1))), (7, .long _), (9, .int (nI ((bk l.length R (fz l) (sP p) j 15) + 1)))]) dX5_fitFrom_146 rfl (by decide) (qs1 rfl (qs1 rfl (qs1 rfl (qs1 rfl (qs1 rfl (qs1 rfl (qs1 rfl (qs1 rfl qs0)))))))) ?_
          refine R_goto (tgt := 45) dX5_fitFrom_149 (by decide) ?_
          refine R_ls (L' := [(0, .ref 30), (1, .int (nI i)), (2, .int (nI R)), (3, .long (P)), (5, .int (nI (l.length))), (6, .int (nI (j + 1)))]) (qs1 rfl (qs1 rfl (qs1 rfl (qs1 rfl (qs1 rfl (qs1 rfl qs0)))))) ?_
          exact (by first | exact (ih (j + 1) _ _ _ _ (by omega) (by omega) (by omega) hSc2 ⟨qOff.is (qOff.is (qOff.ls hO.1 (by unfold oSg; omega)) (by unfold oSg; omega)) (by unfold oSg; omega), fun a ha => ⟨by rw [qIs_2, qIs_2, qLs_nk ha]; exact (hO.2 a ha).1, by rw [qIs_no (by omega), qIs_nk ha]; exact (hO.2 a ha).2.1, by rw [qIs_nk ha, qIs_no (by omega)]; exact (hO.2 a ha).2.2⟩⟩ (by rw [qIs_2, qIs_2, qLs_eq]; exact hc64) (by rw [qIs_no (by omega), qIs_eq]) (qIs_eq _ _ _ _)) | exact (ih (j + 1) _ _ _ _ (by omega) (by omega) (by omega) hSc2 hO hC hb2 hx))
        · have h107 : fz l i j + sP p + vl l.length R (fz l) (sP p) j (bk l.length R (fz l) (sP p) j 15) = C := by rw [← hc64, ← hC, h_107]
          refine R_iload dX5_fitFrom_111 rfl ?_
          refine R_aload_n dX5_fitFrom_113 rfl ?_
          refine R_getR dX5_fitFrom_114 lg_RX5_22 (by decide) rfl rfl ?_
          refine R_iload_n dX5_fitFrom_117 rfl ?_
          refine R_ialdN dX5_fitFrom_118 (by decide) rfl (by omega) (by decide) ?_
          refine R_top (y := nI b) hb2 ?_
          refine R_icmp_geN (tgt := 146) dX5_fitFrom_119 (by decide) (by omega) (by have := h107; rcases hSc.2.2 with ⟨z, -⟩ | ⟨-, -, -, -, z, -⟩ <;> (try have := bk_le l.length R (fz l) (sP p) x 15) <;> omega) (fun h_119 => ?_) (fun h_119 => ?_)
          · have hSc2 := Scan_no l.length R (fz l) (sP p) hSc (fun z => z.elim h95 (fun y => by omega))
            refine R_iincN (n := 1) (L' := [(0, .ref 30), (1, .int (nI i)), (2, .int (nI R)), (3, .long (P)), (5, .int (nI (l.length))), (6, .int (nI (j + 1))), (7, .long _), (9, .int (nI ((bk l.length R (fz l) (sP p) j 15) + 1)))]) dX5_fitFrom_146 rfl (by decide) (qs1 rfl (qs1 rfl (qs1 rfl (qs1 rfl (qs1 rfl (qs1 rfl (qs1 rfl (qs1 rfl qs0)))))))) ?_
            refine R_goto (tgt := 45) dX5_fitFrom_149 (by decide) ?_
            refine R_ls (L' := [(0, .ref 30), (1, .int (nI i)), (2, .int (nI R)), (3, .long (P)), (5, .int (nI (l.length))), (6, .int (nI (j + 1)))]) (qs1 rfl (qs1 rfl (qs1 rfl (qs1 rfl (qs1 rfl (qs1 rfl qs0)))))) ?_
            exact (by first | exact (ih (j + 1) _ _ _ _ (by omega) (by omega) (by omega) hSc2 ⟨qOff.is (qOff.is (qOff.ls hO.1 (by unfold oSg; omega)) (by unfold oSg; omega)) (by unfold oSg; omega), fun a ha => ⟨by rw [qIs_2, qIs_2, qLs_nk ha]; exact (hO.2 a ha).1, by rw [qIs_no (by omega), qIs_nk ha]; exact (hO.2 a ha).2.1, by rw [qIs_nk ha, qIs_no (by omega)]; exact (hO.2 a ha).2.2⟩⟩ (by rw [qIs_2, qIs_2, qLs_eq]; exact hc64) (by rw [qIs_no (by omega), qIs_eq]) (qIs_eq _ _ _ _)) | exact (ih (j + 1) _ _ _ _ (by omega) (by omega) (by omega) hSc2 hO hC hb2 hx))
          · have hSc2 := Scan_yes l.length R (fz l) (sP p) hSc hij (by omega) (Or.inr ⟨h107, h_119⟩)
            refine R_aload_n dX5_fitFrom_122 rfl ?_
            refine R_getR dX5_fitFrom_123 lg_RX5_18 (by decide) rfl rfl ?_
            refine R_iload_n dX5_fitFrom_126 rfl ?_
            refine R_lload dX5_fitFrom_127 rfl ?_
            refine R_lastN dX5_fitFrom_129 (by decide) rfl (by omega) (by decide) ?_
            refine R_aload_n dX5_fitFrom_130 rfl ?_
            refine R_getR dX5_fitFrom_131 lg_RX5_22 (by decide) rfl rfl ?_
            refine R_iload_n dX5_fitFrom_134 rfl ?_
            refine R_iload dX5_fitFrom_135 rfl ?_
            refine R_iastN dX5_fitFrom_137 (by decide) rfl (by omega) (by decide) ?_
            refine R_aload_n dX5_fitFrom_138 rfl ?_
            refine R_getR dX5_fitFrom_139 lg_RX5_26 (by decide) rfl rfl ?_
            refine R_iload_n dX5_fitFrom_142 rfl ?_
            refine R_iload dX5_fitFrom_143 rfl ?_
            refine R_iastN dX5_fitFrom_145 (by decide) rfl (by omega) (by decide) ?_
            refine R_iincN (n := 1) (L' := [(0, .ref 30), (1, .int (nI i)), (2, .int (nI R)), (3, .long (P)), (5, .int (nI (l.length))), (6, .int (nI (j + 1))), (7, .long _), (9, .int (nI ((bk l.length R (fz l) (sP p) j 15) + 1)))]) dX5_fitFrom_146 rfl (by decide) (qs1 rfl (qs1 rfl (qs1 rfl (qs1 rfl (qs1 rfl (qs1 rfl (qs1 rfl (qs1 rfl qs0)))))))) ?_
            refine R_goto (tgt := 45) dX5_fitFrom_149 (by decide) ?_
            refine R_ls (L' := [(0, .ref 30), (1, .int (nI i)), (2, .int (nI R)), (3, .long (P)), (5, .int (nI (l.length))), (6, .int (nI (j + 1)))]) (qs1 rfl (qs1 rfl (qs1 rfl (qs1 rfl (qs1 rfl (qs1 rfl qs0)))))) ?_
            exact (by first | exact (ih (j + 1) _ _ _ _ (by omega) (by omega) (by omega) hSc2 ⟨qOff.is (qOff.is (qOff.ls hO.1 (by unfold oSg; omega)) (by unfold oSg; omega)) (by unfold oSg; omega), fun a ha => ⟨by rw [qIs_2, qIs_2, qLs_nk ha]; exact (hO.2 a ha).1, by rw [qIs_no (by omega), qIs_nk ha]; exact (hO.2 a ha).2.1, by rw [qIs_nk ha, qIs_no (by omega)]; exact (hO.2 a ha).2.2⟩⟩ (by rw [qIs_2, qIs_2, qLs_eq]; exact hc64) (by rw [qIs_no (by omega), qIs_eq]) (qIs_eq _ _ _ _)) | exact (ih (j + 1) _ _ _ _ (by omega) (by omega) (by omega) hSc2 hO hC hb2 hx))
set_option maxRecDepth 100000 in
set_option maxHeartbeats 4000000 in
theorem c_fitFrom {M : qMem} {l : List (Nat × Int32)} (hS : XS M l) (hb : serB l) {R p : Nat} (hR : 1 ≤ R) (hR4 : R ≤ 4) (hp : p ≤ 99999) {i : Nat} (hi : i < l.length) (hrow : ∀ j, i < j → j + R ≤ l.length → Row M l R p j) {P : Int64} (hP : P.toInt = sP p) : qSem 0 mX5_fitFrom [.ref 30, .int (nI i), .int (nI R), .long (P)] M (fun v N => v = none ∧ offI i M N ∧ ((i = 0 ∨ i + R ≤ l.length) → Row N l R p i)) := by
  have hl16 := hS.2.1
  refine qSem.of (by decide +kernel) (Nat.le_of_ble_eq_true rfl) (fun w => ?_)
  refine R_ls (L' := [(0, .ref 30), (1, .int (nI i)), (2, .int (nI R)), (3, .long (P))]) (qs1 rfl (qs1 rfl (qs1 rfl (qs1 rfl qs0)))) ?_
  refine R_aload_n dX5_fitFrom_0 rfl ?_
  refine R_getR dX5_fitFrom_1 lg_RX5_12 (by decide) rfl rfl ?_
  refine R_callV (mc := mX6_length) (As := []) (r := 25) dX5_fitFrom_4 lm_RX5_39 mv_X6_length rfl (by decide) rfl rfl rfl rfl (Nat.le_of_ble_eq_true rfl) (c_slen hS) ?_
  rintro _ _ ⟨rfl, rfl⟩
  refine R_istore (L' := [(0, .ref 30), (1, .int (nI i)), (2, .int (nI R)), (3, .long (P)), (5, .int (nI (l.length)))]) dX5_fitFrom_7 (by decide) (qs1 rfl (qs1 rfl (qs1 rfl (qs1 rfl (qs1 rfl qs0))))) ?_
  refine R_aload_n dX5_fitFrom_9 rfl ?_
  refine R_getR dX5_fitFrom_10 lg_RX5_18 (by decide) rfl rfl ?_
  refine R_iload_n dX5_fitFrom_13 rfl ?_
  refine R_aload_n dX5_fitFrom_14 rfl ?_
  refine R_getR dX5_fitFrom_15 lg_RX5_12 (by decide) rfl rfl ?_
  refine R_iload_n dX5_fitFrom_18 rfl ?_
  refine R_iload dX5_fitFrom_19 rfl ?_
  refine R_callV (mc := mX6_scaledSpread) (As := [_, _]) (r := 25) dX5_fitFrom_21 lm_RX5_52 mv_X6_scaledSpread rfl (by decide) rfl rfl rfl rfl (Nat.le_of_ble_eq_true rfl) (c_spread hS (by omega) (by omega)) ?_
  rintro _ _ ⟨rfl, rfl⟩
  refine R_lastN dX5_fitFrom_24 (by decide) rfl (by omega) (by decide) ?_
  refine R_aload_n dX5_fitFrom_25 rfl ?_
  refine R_getR dX5_fitFrom_26 lg_RX5_22 (by decide) rfl rfl ?_
  refine R_iload_n dX5_fitFrom_29 rfl ?_
  refine R_iconst (v := nI 0) dX5_fitFrom_30 rfl ?_
  refine R_iastN dX5_fitFrom_31 (by decide) rfl (by omega) (by decide) ?_
  refine R_aload_n dX5_fitFrom_32 rfl ?_
  refine R_getR dX5_fitFrom_33 lg_RX5_26 (by decide) rfl rfl ?_
  refine R_iload_n dX5_fitFrom_36 rfl ?_
  refine R_iload dX5_fitFrom_37 rfl ?_
  refine R_iastN dX5_fitFrom_39 (by decide) rfl (by omega) (by decide) ?_
  refine R_iload_n dX5_fitFrom_40 rfl ?_
  refine R_iload_n dX5_fitFrom_41 rfl ?_
  refine R_iaddN dX5_fitFrom_42 ?_
  refine R_istore (L' := [(0, .ref 30), (1, .int (nI i)), (2, .int (nI R)), (3, .long (P)), (5, .int (nI (l.length))), (6, .int (nI (i + R)))]) dX5_fitFrom_43 (by decide) (qs1 rfl (qs1 rfl (qs1 rfl (qs1 rfl (qs1 rfl (qs1 rfl qs0)))))) ?_
  refine R_ls (L' := [(0, .ref 30), (1, .int (nI i)), (2, .int (nI R)), (3, .long (P)), (5, .int (nI (l.length))), (6, .int (nI (i + R)))]) (qs1 rfl (qs1 rfl (qs1 rfl (qs1 rfl (qs1 rfl (qs1 rfl qs0)))))) ?_
  exact (l_fitFrom hS hb hR hR4 hp hi hrow hP (l.length + 3) (i + R) _ (fz l i l.length) 0 l.length (by omega) (Nat.le_refl _) (by omega) (Scan_0 _ _ _ _ _) ⟨qOff.is (qOff.is (qOff.ls qOff.rf (by unfold oSg; omega)) (by unfold oSg; omega)) (by unfold oSg; omega), fun a ha => ⟨by rw [qIs_2, qIs_2, qLs_nk ha], by rw [qIs_no (by omega), qIs_nk ha]; rfl, by rw [qIs_nk ha, qIs_no (by omega)]; rfl⟩⟩ (by rw [qIs_2, qIs_2, qLs_eq]; rfl) (by rw [qIs_no (by omega), qIs_eq]) (qIs_eq _ _ _ _))
