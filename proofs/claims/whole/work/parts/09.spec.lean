
-- ===== the data of a record, as mathematics =====
/-- years, stations, X, Y, values, numbers (0 R, 1 N, 2 T, 3 W, 4 the penalty) -/
abbrev dT : Type := Nat × Nat × (Nat → Int32) × (Nat → Int32) × (Nat → Nat → Option Int32) × (Nat → Nat)
def dY (d : dT) : Nat := d.1
def dK (d : dT) : Nat := d.2.1
def dX (d : dT) : Nat → Int32 := d.2.2.1
def dZ (d : dT) : Nat → Int32 := d.2.2.2.1
def dV (d : dT) : Nat → Nat → Option Int32 := d.2.2.2.2.1
def dR (d : dT) : Nat → Nat := d.2.2.2.2.2
abbrev okv (v : Int32) : Prop := -9999 ≤ v.toInt ∧ v.toInt ≤ 9999
def dB (d : dT) : Prop := dY d ≤ 16 ∧ dK d ≤ 6 ∧ (∀ c t v, dV d c t = some v → okv v) ∧ (1 ≤ dR d 0 ∧ dR d 0 ≤ 4) ∧ (1 ≤ dR d 1 ∧ dR d 1 ≤ 5) ∧ (1 ≤ dR d 2 ∧ dR d 2 ≤ 5) ∧ dR d 3 ≤ 2 ∧ dR d 4 ≤ 99999
def encX (o : Option Int32) : Int32 := match o with
  | none => 1000000
  | some v => v
def encM (o : Option Int32) : Int32 := match o with
  | none => 99999
  | some v => v
theorem okv_X {v : Int32} (h : okv v) : v ≠ 1000000 := by
  intro e; subst e
  exact absurd h (by unfold okv; decide)
theorem okv_M {v : Int32} (h : okv v) : v ≠ 99999 := by
  intro e; subst e
  exact absurd h (by unfold okv; decide)
theorem encX_ne {o : Option Int32} (h : ∀ v, o = some v → okv v) : ¬ encX o = 1000000 ↔ o.isSome = true := by
  cases o with
  | none => simp [encX]
  | some v => simp [encX, okv_X (h v rfl)]
theorem encM_ne {o : Option Int32} (h : ∀ v, o = some v → okv v) : ¬ encM o = 99999 ↔ o.isSome = true := by
  cases o with
  | none => simp [encM]
  | some v => simp [encM, okv_M (h v rfl)]
theorem okv_iff {v : Int32} : okv v ↔ ((-9999 : Int32) ≤ v ∧ v ≤ (9999 : Int32)) := by
  unfold okv
  rw [Int32.le_iff_toInt_le, Int32.le_iff_toInt_le]
  exact Iff.rfl
def qShift (M : qMem) (c y : Nat) (s : Int32) : qMem := (fun o k => if o = 19 + c ∧ k < y ∧ ¬ M.1 (19 + c) k = 1000000 then M.1 o k + s else M.1 o k, M.2)
-- distances, ranks, pairs
def sqd (d : dT) (u v : Nat) : Int32 := (dX d u - dX d v) * (dX d u - dX d v) + (dZ d u - dZ d v) * (dZ d u - dZ d v)
def nearr (d : dT) (c o q : Nat) : Bool := decide (q ≠ c) && (decide (sqd d c q < sqd d c o) || (decide (sqd d c q = sqd d c o) && decide (q < o)))
def rnkTo (d : dT) (c o : Nat) : Nat → Nat
  | 0 => 0
  | q + 1 => rnkTo d c o q + (if nearr d c o q then 1 else 0)
def rnk (d : dT) (c o : Nat) : Nat := rnkTo d c o (dK d)
theorem rnkTo_le (d : dT) (c o : Nat) : ∀ n, rnkTo d c o n ≤ n
  | 0 => Nat.le_refl 0
  | n + 1 => by
    have := rnkTo_le d c o n
    unfold rnkTo
    split <;> omega
def prb (d : dT) (u v : Nat) : Bool := decide (rnk d u v < dR d 1) || decide (rnk d v u < dR d 1)
theorem prb_comm (d : dT) (u v : Nat) : prb d u v = prb d v u := Bool.or_comm _ _
theorem prb_iff (d : dT) (u v : Nat) : prb d u v = true ↔ (rnk d u v < dR d 1 ∨ rnk d v u < dR d 1) := by simp [prb]
def cpIn (d : dT) (u : Nat) : Nat → Nat
  | 0 => 0
  | v + 1 => cpIn d u v + (if decide (u < v) && prb d u v then 1 else 0)
def cpTo (d : dT) : Nat → Nat
  | 0 => 0
  | u + 1 => cpTo d u + cpIn d u (dK d)
theorem cpIn_le (d : dT) (u : Nat) : ∀ n, cpIn d u n ≤ n
  | 0 => Nat.le_refl 0
  | n + 1 => by
    have := cpIn_le d u n
    unfold cpIn
    split <;> omega
theorem cpIn_0 (d : dT) (u : Nat) : ∀ n, n ≤ u + 1 → cpIn d u n = 0
  | 0, _ => rfl
  | n + 1, h => by
    unfold cpIn
    rw [cpIn_0 d u n (by omega)]
    have : ¬ u < n := by omega
    simp [this]
theorem cpTo_le (d : dT) : ∀ n, cpTo d n ≤ n * dK d
  | 0 => by simp [cpTo]
  | n + 1 => by
    have := cpTo_le d n
    have h2 := cpIn_le d n (dK d)
    unfold cpTo
    rw [Nat.succ_mul]; omega
def msIn (d : dT) (c : Nat) : Nat → Nat
  | 0 => 0
  | t + 1 => msIn d c t + (if (dV d c t).isSome then 0 else 1)
def msTo (d : dT) : Nat → Nat
  | 0 => 0
  | c + 1 => msTo d c + msIn d c (dY d)
theorem msIn_le (d : dT) (c : Nat) : ∀ n, msIn d c n ≤ n
  | 0 => Nat.le_refl 0
  | n + 1 => by
    have := msIn_le d c n
    unfold msIn
    split <;> omega
theorem msTo_le (d : dT) : ∀ n, msTo d n ≤ n * dY d
  | 0 => by simp [msTo]
  | n + 1 => by
    have := msTo_le d n
    have h2 := msIn_le d n (dY d)
    unfold msTo
    rw [Nat.succ_mul]; omega
-- series
def serAt (d : dT) (u v t : Nat) : Option (Nat × Int32) := match dV d u t, dV d v t with
  | some a, some b => some (t, a - b)
  | _, _ => none
def serTo (d : dT) (u v n : Nat) : List (Nat × Int32) := (List.range n).filterMap (serAt d u v)
def ser (d : dT) (u v : Nat) : List (Nat × Int32) := serTo d u v (dY d)
theorem serTo_succ (d : dT) (u v n : Nat) : serTo d u v (n + 1) = serTo d u v n ++ (serAt d u v n).toList := by
  unfold serTo
  rw [List.range_succ, List.filterMap_append]
  cases h : serAt d u v n <;> simp [h]
theorem serTo_len (d : dT) (u v n : Nat) : (serTo d u v n).length ≤ n := by
  unfold serTo
  have := List.length_filterMap_le (serAt d u v) (List.range n)
  simpa using this
def yr (l : List (Nat × Int32)) (i : Nat) : Nat := (l.getD i (0, 0)).1
def en (l : List (Nat × Int32)) (i : Nat) : Int32 := (l.getD i (0, 0)).2
def S1 (l : List (Nat × Int32)) : Nat → Int64
  | 0 => 0
  | i + 1 => S1 l i + (en l i).toInt64
def S2 (l : List (Nat × Int32)) : Nat → Int64
  | 0 => 0
  | i + 1 => S2 l i + (en l i).toInt64 * (en l i).toInt64
theorem en_app {l : List (Nat × Int32)} {x : Nat × Int32} {i : Nat} (h : i < l.length) : en (l ++ [x]) i = en l i := by
  simp [en, List.getD_eq_getElem?_getD, List.getElem?_append_left h]
theorem yr_app {l : List (Nat × Int32)} {x : Nat × Int32} {i : Nat} (h : i < l.length) : yr (l ++ [x]) i = yr l i := by
  simp [yr, List.getD_eq_getElem?_getD, List.getElem?_append_left h]
theorem en_last {l : List (Nat × Int32)} {x : Nat × Int32} : en (l ++ [x]) l.length = x.2 := by
  simp [en, List.getD_eq_getElem?_getD]
theorem yr_last {l : List (Nat × Int32)} {x : Nat × Int32} : yr (l ++ [x]) l.length = x.1 := by
  simp [yr, List.getD_eq_getElem?_getD]
theorem S1_app {l : List (Nat × Int32)} {x : Nat × Int32} : ∀ {i : Nat}, i ≤ l.length → S1 (l ++ [x]) i = S1 l i
  | 0, _ => rfl
  | i + 1, h => by unfold S1; rw [S1_app (by omega), en_app (by omega)]
theorem S2_app {l : List (Nat × Int32)} {x : Nat × Int32} : ∀ {i : Nat}, i ≤ l.length → S2 (l ++ [x]) i = S2 l i
  | 0, _ => rfl
  | i + 1, h => by unfold S2; rw [S2_app (by omega), en_app (by omega)]
/-- the spread of the entries i to before j, 720720 times -/
def sz (i j : Nat) : Int64 := (nI (j - i)).toInt64
def sc (i j : Nat) : Int64 := (nI (720720 / (j - i))).toInt64
def spd (l : List (Nat × Int32)) (i j : Nat) : Int64 := if j ≤ i then 0 else (sz i j * (S2 l j - S2 l i) - (S1 l j - S1 l i) * (S1 l j - S1 l i)) * sc i j
def mea (l : List (Nat × Int32)) (i j : Nat) : Int64 := if j ≤ i then 0 else (S1 l j - S1 l i) * sc i j
-- the memory of a record
def XR (r : Nat) (M : qMem) (d : dT) : Prop := M.1 r 0 = nI (dY d) ∧ M.1 r 1 = nI (dK d) ∧ (∀ c, c < dK d → M.1 (r + 1) c = dX d c) ∧ (∀ c, c < dK d → M.1 (r + 2) c = dZ d c) ∧ (∀ c t, c < dK d → t < dY d → M.1 (r + 5 + c) t = encX (dV d c t)) ∧ M.1 r 5 = nI (dR d 4) ∧ (∀ k, k < 4 → M.1 (r + 4) k = nI (dR d k))
/-- the series' memory holds l -/
def XS (M : qMem) (l : List (Nat × Int32)) : Prop := M.1 25 0 = nI l.length ∧ l.length ≤ 16 ∧ (∀ i, i < l.length → M.1 26 i = en l i ∧ M.1 27 i = nI (yr l i)) ∧ (∀ i, i ≤ l.length → M.2 28 i = S1 l i ∧ M.2 29 i = S2 l i)
