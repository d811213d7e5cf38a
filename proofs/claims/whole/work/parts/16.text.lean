
-- ===== the text =====
def lt (tx : List Nat) (i : Nat) : Nat := tx.getD i 0
theorem lt_out {tx : List Nat} {i : Nat} (h : tx.length ≤ i) : lt tx i = 0 := by
  simp [lt, List.getD_eq_getElem?_getD, List.getElem?_eq_none h]
def sgn (tx : List Nat) (i : Nat) : Option Nat := if 48 ≤ lt tx i ∧ lt tx i ≤ 57 then some (lt tx i - 48) else if 97 ≤ lt tx i ∧ lt tx i ≤ 115 then some (lt tx i - 87) else none
theorem sgn_le {tx : List Nat} {i v : Nat} (h : sgn tx i = some v) : v ≤ 28 := by
  unfold sgn at h
  split at h
  · cases h; omega
  · split at h
    · cases h; omega
    · cases h
theorem sgn_lt {tx : List Nat} {i v : Nat} (h : sgn tx i = some v) : i < tx.length := by
  rcases Nat.lt_or_ge i tx.length with q | q
  · exact q
  · unfold sgn at h; rw [lt_out q] at h; simp at h
def txB (tx : List Nat) : Prop := tx.length ≤ 200 ∧ ∀ i, i < tx.length → 32 ≤ lt tx i ∧ lt tx i ≤ 126
def XT (M : qMem) (tx : List Nat) : Prop := M.1 1 1 = nI tx.length ∧ ∀ i, i < tx.length → M.1 2 i = nI (lt tx i)
def okR (w v : Nat) : Bool := decide ((qtab 0 w).toNatClampNeg ≤ v) && decide (v ≤ (qtab 1 w).toNatClampNeg)
-- what an item makes of the record
def dYs (d : dT) (v : Nat) : dT := (v, d.2)
def dPn (d : dT) (p : Nat) : dT := (dY d, dK d, dX d, dZ d, dV d, fun k => if k = 4 then p else dR d k)
def dRl (d : dT) (tx : List Nat) (a : Nat) : dT := (dY d, dK d, dX d, dZ d, dV d, fun k => if k < 4 then (sgn tx (a + 1 + k)).getD 0 else dR d k)
def dSt (d : dT) (tx : List Nat) (a : Nat) : dT := (dY d, dK d + 1, fun c => if c = dK d then nI ((sgn tx (a + 1)).getD 0) else dX d c, fun c => if c = dK d then nI ((sgn tx (a + 2)).getD 0) else dZ d c, fun c t => if c = dK d then (sgn tx (a + 3 + t)).map nI else dV d c t, dR d)
/-- are these values, from a on, n of them? -/
def valsOk (tx : List Nat) (a : Nat) : Nat → Bool
  | 0 => true
  | n + 1 => valsOk tx a n && ((sgn tx (a + n)).isSome || decide (lt tx (a + n) = 46))
def itemY (tx : List Nat) (a : Nat) (d : dT) : Option (Nat × dT) := match sgn tx (a + 1) with
  | some v => if a = 0 ∧ 4 ≤ v ∧ v ≤ 16 ∧ lt tx (a + 2) = 59 then some (3, dYs d v) else none
  | none => none
def itemS (tx : List Nat) (a : Nat) (d : dT) : Option (Nat × dT) := if (sgn tx (a + 1)).isSome ∧ (sgn tx (a + 2)).isSome ∧ lt tx (a + 3 + dY d) = 59 ∧ valsOk tx (a + 3) (dY d) = true ∧ dK d < 6 then some (dY d + 4, dSt d tx a) else none
def itemP (tx : List Nat) (a : Nat) (d : dT) : Option (Nat × dT) := match sgn tx (a + 1), sgn tx (a + 2) with
  | some x, some y => if x ≤ 9 ∧ y ≤ 9 ∧ lt tx (a + 3) = 59 then some (4, dPn d (10 * x + y)) else none
  | _, _ => none
def rulOk (tx : List Nat) (a : Nat) : Nat → Bool
  | 0 => true
  | n + 1 => rulOk tx a n && (match sgn tx (a + 1 + n) with | some v => okR n v | none => false)
def itemL (tx : List Nat) (a : Nat) (d : dT) : Option (Nat × dT) := if lt tx (a + 5) = 59 ∧ rulOk tx a 4 = true then some (6, dRl d tx a) else none
def item (tx : List Nat) (a : Nat) (d : dT) : Option (Nat × dT) :=
  if lt tx a = 121 then itemY tx a d else if dY d = 0 then none else if lt tx a = 115 then itemS tx a d else if lt tx a = 112 then itemP tx a d else if lt tx a = 108 then itemL tx a d else none
/-- reading from a on: the fault, or the record -/
def prs (tx : List Nat) : Nat → Nat → dT → Nat ⊕ dT
  | 0, _, d => .inr d
  | n + 1, a, d => if a < tx.length then (match item tx a d with
      | none => .inl a
      | some (z, d') => prs tx n (a + z) d') else .inr d
theorem okv_n {v : Nat} (h : v ≤ 9999) : okv (nI v) := by
  unfold okv; rw [nI_toInt (by omega)]; omega
theorem dB_Y {d : dT} {v : Nat} (h : dB d) (hv : v ≤ 16) : dB (dYs d v) := ⟨hv, h.2.1, h.2.2.1, h.2.2.2⟩
theorem dB_P {d : dT} {p : Nat} (h : dB d) (hp : p ≤ 99) : dB (dPn d p) := ⟨h.1, h.2.1, h.2.2.1, h.2.2.2.1, h.2.2.2.2.1, h.2.2.2.2.2.1, h.2.2.2.2.2.2.1, by have e : dR (dPn d p) 4 = p := rfl; rw [e]; omega⟩
theorem rulOk_at {tx : List Nat} {a : Nat} : ∀ {n : Nat}, rulOk tx a n = true → ∀ k, k < n → ∃ v, sgn tx (a + 1 + k) = some v ∧ okR k v = true
  | 0, _, k, hk => absurd hk (Nat.not_lt_zero k)
  | n + 1, h, k, hk => by
    unfold rulOk at h
    rw [Bool.and_eq_true] at h
    rcases Nat.lt_or_ge k n with q | q
    · exact rulOk_at h.1 k q
    · have e : k = n := by omega
      subst e
      cases hs : sgn tx (a + 1 + k) with
      | none => rw [hs] at h; exact absurd h.2 (by simp)
      | some v => rw [hs] at h; exact ⟨v, rfl, h.2⟩
theorem okR_le {w v : Nat} (h : okR w v = true) : (qtab 0 w).toNatClampNeg ≤ v ∧ v ≤ (qtab 1 w).toNatClampNeg := by
  unfold okR at h
  rw [Bool.and_eq_true, decide_eq_true_eq, decide_eq_true_eq] at h
  exact h
theorem dB_L {d : dT} {tx : List Nat} {a : Nat} (h : dB d) (hr : rulOk tx a 4 = true) : dB (dRl d tx a) := by
  have k : ∀ w, w < 4 → (qtab 0 w).toNatClampNeg ≤ dR (dRl d tx a) w ∧ dR (dRl d tx a) w ≤ (qtab 1 w).toNatClampNeg := fun w hw => by
    obtain ⟨v, h1, h2⟩ := rulOk_at hr w hw
    have e : dR (dRl d tx a) w = v := by show (if w < 4 then (sgn tx (a + 1 + w)).getD 0 else _) = v; rw [if_pos hw, h1]; rfl
    rw [e]; exact okR_le h2
  refine ⟨h.1, h.2.1, h.2.2.1, k 0 (by omega), k 1 (by omega), k 2 (by omega), (k 3 (by omega)).2, ?_⟩
  have e : dR (dRl d tx a) 4 = dR d 4 := rfl
  rw [e]; exact h.2.2.2.2.2.2.2
theorem dB_S {d : dT} {tx : List Nat} {a : Nat} (h : dB d) (hk : dK d < 6) : dB (dSt d tx a) := by
  refine ⟨h.1, hk, fun c t v hv => ?_, h.2.2.2⟩
  have hv : (if c = dK d then (sgn tx (a + 3 + t)).map nI else dV d c t) = some v := hv
  split at hv
  · cases hs : sgn tx (a + 3 + t) with
    | none => rw [hs] at hv; cases hv
    | some z => rw [hs] at hv; cases hv; exact okv_n (by have := sgn_le hs; omega)
  · exact h.2.2.1 c t v hv
theorem item_ok {tx : List Nat} {a : Nat} {d d' : dT} {z : Nat} (h : item tx a d = some (z, d')) (hB : dB d) : dB d' ∧ 1 ≤ z ∧ a + z ≤ tx.length := by
  have e59 : ∀ i, lt tx i = 59 → i < tx.length := fun i hi => by
    rcases Nat.lt_or_ge i tx.length with q | q
    · exact q
    · rw [lt_out q] at hi; cases hi
  unfold item at h
  split at h
  · unfold itemY at h
    split at h
    · split at h
      · rename_i v _ hc
        cases h
        have := e59 _ hc.2.2.2
        exact ⟨dB_Y hB hc.2.2.1, by omega, by omega⟩
      · cases h
    · cases h
  · split at h
    · cases h
    · split at h
      · unfold itemS at h
        split at h
        · rename_i hc
          cases h
          have := e59 _ hc.2.2.1
          exact ⟨dB_S hB hc.2.2.2.2, by omega, by omega⟩
        · cases h
      · split at h
        · unfold itemP at h
          split at h
          · split at h
            · rename_i hc
              cases h
              have := e59 _ hc.2.2
              exact ⟨dB_P hB (by omega), by omega, by omega⟩
            · cases h
          · cases h
        · split at h
          · unfold itemL at h
            split at h
            · rename_i hc
              cases h
              have := e59 _ hc.1
              exact ⟨dB_L hB hc.2, by omega, by omega⟩
            · cases h
          · cases h
theorem dB_fresh : dB dFresh := by
  refine ⟨by decide, by decide, ?_, ?_⟩
  · intro c t v h; cases h
  · decide
theorem prs_B {tx : List Nat} : ∀ {n a : Nat} {d d' : dT}, dB d → prs tx n a d = .inr d' → dB d'
  | 0, a, d, d', hB, h => by cases h; exact hB
  | n + 1, a, d, d', hB, h => by
    unfold prs at h
    split at h
    · split at h
      · cases h
      · rename_i z d2 hi
        exact prs_B (item_ok hi hB).1 h
    · cases h; exact hB
