
-- ===== segmentations: the least sums with k breaks from an entry on; the best number of breaks =====
def omin : Option Int → Option Int → Option Int
  | none, b => b
  | some a, none => some a
  | some a, some b => if b < a then some b else some a
def minO (g : Nat → Option Int) (lo : Nat) : Nat → Option Int
  | 0 => none
  | c + 1 => omin (minO g lo c) (g (lo + c))
theorem minO_spec (g : Nat → Option Int) (lo : Nat) : ∀ c, match minO g lo c with
    | none => ∀ j, lo ≤ j → j < lo + c → g j = none
    | some m => (∃ j, lo ≤ j ∧ j < lo + c ∧ g j = some m) ∧ ∀ j r, lo ≤ j → j < lo + c → g j = some r → m ≤ r
  | 0 => by intro j h1 h2; omega
  | c + 1 => by
    have ih := minO_spec g lo c
    unfold minO
    cases h1 : minO g lo c with
    | none =>
      rw [h1] at ih
      cases h2 : g (lo + c) with
      | none =>
        intro j ha hb
        rcases Nat.lt_or_ge j (lo + c) with h | h
        · exact ih j ha h
        · have : j = lo + c := by omega
          subst this; exact h2
      | some b =>
        refine ⟨⟨lo + c, by omega, by omega, h2⟩, fun j r ha hb hr => ?_⟩
        rcases Nat.lt_or_ge j (lo + c) with h | h
        · rw [ih j ha h] at hr; cases hr
        · have : j = lo + c := by omega
          subst this; rw [h2] at hr; cases hr; exact Int.le_refl _
    | some a =>
      rw [h1] at ih
      obtain ⟨⟨j0, p1, p2, p3⟩, ih2⟩ := ih
      cases h2 : g (lo + c) with
      | none =>
        refine ⟨⟨j0, p1, by omega, p3⟩, fun j r ha hb hr => ?_⟩
        rcases Nat.lt_or_ge j (lo + c) with h | h
        · exact ih2 j r ha h hr
        · have : j = lo + c := by omega
          subst this; rw [h2] at hr; cases hr
      | some b =>
        show match (if b < a then some b else some a) with | none => _ | some m => _
        by_cases hba : b < a
        · rw [if_pos hba]
          refine ⟨⟨lo + c, by omega, by omega, h2⟩, fun j r ha hb hr => ?_⟩
          rcases Nat.lt_or_ge j (lo + c) with h | h
          · have := ih2 j r ha h hr; omega
          · have : j = lo + c := by omega
            subst this; rw [h2] at hr; cases hr; exact Int.le_refl _
        · rw [if_neg hba]
          refine ⟨⟨j0, p1, by omega, p3⟩, fun j r ha hb hr => ?_⟩
          rcases Nat.lt_or_ge j (lo + c) with h | h
          · exact ih2 j r ha h hr
          · have : j = lo + c := by omega
            subst this; rw [h2] at hr; cases hr; omega
section DP
variable (n R : Nat) (f : Nat → Nat → Int)
def rst : Nat → Nat → Option Int
  | 0, i => if i = 0 ∨ i + R ≤ n then some (f i n) else none
  | k + 1, i => minO (fun j => (rst k j).map (fun r => f i j + r)) (i + R) (n - (i + R))
/-- a sum with one break more -/
theorem rst_in {k i : Nat} {r : Int} (h : rst n R f (k + 1) i = some r) : ∃ j r', i + R ≤ j ∧ j < n ∧ rst n R f k j = some r' ∧ r = f i j + r' := by
  have s := minO_spec (fun j => (rst n R f k j).map (fun r => f i j + r)) (i + R) (n - (i + R))
  have e : minO (fun j => (rst n R f k j).map (fun r => f i j + r)) (i + R) (n - (i + R)) = some r := h
  rw [e] at s
  obtain ⟨⟨j, h1, h2, h3⟩, -⟩ := s
  cases h4 : rst n R f k j with
  | none => rw [h4] at h3; cases h3
  | some r' =>
    rw [h4] at h3
    cases h3
    exact ⟨j, r', h1, by omega, h4, rfl⟩
theorem rst_le {k i j : Nat} {r' : Int} (h1 : i + R ≤ j) (h2 : j < n) (h : rst n R f k j = some r') : ∃ r, rst n R f (k + 1) i = some r ∧ r ≤ f i j + r' := by
  have s := minO_spec (fun j => (rst n R f k j).map (fun r => f i j + r)) (i + R) (n - (i + R))
  cases e : minO (fun j => (rst n R f k j).map (fun r => f i j + r)) (i + R) (n - (i + R)) with
  | none =>
    rw [e] at s
    have := s j h1 (by omega)
    rw [h] at this; cases this
  | some m =>
    rw [e] at s
    exact ⟨m, e, s.2 j _ h1 (by omega) (by rw [h]; rfl)⟩
/-- which sums there are -/
theorem rst_room (hR : 1 ≤ R) : ∀ {k i : Nat} {r : Int}, rst n R f k i = some r → 0 < k ∨ 0 < i → i + (k + 1) * R ≤ n
  | 0, i, r, h, h0 => by
    unfold rst at h
    split at h
    · rename_i h1; simp at h0; rcases h1 with h1 | h1 <;> simp <;> omega
    · cases h
  | k + 1, i, r, h, _ => by
    obtain ⟨j, r', h1, h2, h3, -⟩ := rst_in n R f h
    have := rst_room hR h3 (Or.inr (by omega))
    have e : (k + 1 + 1) * R = (k + 1) * R + R := Nat.succ_mul _ _
    omega
theorem rst_some (hR : 1 ≤ R) : ∀ {k i : Nat}, i + (k + 1) * R ≤ n → ∃ r, rst n R f k i = some r
  | 0, i, h => ⟨_, by unfold rst; rw [if_pos (Or.inr (by simpa using h))]⟩
  | k + 1, i, h => by
    have e : (k + 1 + 1) * R = (k + 1) * R + R := Nat.succ_mul _ _
    have e2 : R ≤ (k + 1) * R := Nat.le_mul_of_pos_left R (Nat.succ_pos k)
    obtain ⟨r', hr⟩ := rst_some hR (k := k) (i := i + R) (by omega)
    obtain ⟨r, hr2, -⟩ := rst_le n R f (i := i) (Nat.le_refl _) (by omega) hr
    exact ⟨r, hr2⟩
theorem rst_k0 {i : Nat} (h : i = 0 ∨ i + R ≤ n) : rst n R f 0 i = some (f i n) := by unfold rst; rw [if_pos h]
variable (P : Int)
def vl (i k : Nat) : Int := (rst n R f k i).getD 0 + P * k
/-- the best number of breaks up to m: the least sum, then the fewest -/
def bk (i : Nat) : Nat → Nat
  | 0 => 0
  | m + 1 => if (rst n R f (m + 1) i).isSome ∧ vl n R f P i (m + 1) < vl n R f P i (bk i m) then m + 1 else bk i m
theorem bk_le (i : Nat) : ∀ m, bk n R f P i m ≤ m
  | 0 => Nat.le_refl 0
  | m + 1 => by
    have := bk_le i m
    unfold bk
    split <;> omega
theorem bk_spec {i : Nat} (h0 : i = 0 ∨ i + R ≤ n) : ∀ m, (rst n R f (bk n R f P i m) i).isSome ∧ (∀ k, k ≤ m → (rst n R f k i).isSome → vl n R f P i (bk n R f P i m) ≤ vl n R f P i k) ∧ ∀ k, k < bk n R f P i m → (rst n R f k i).isSome → vl n R f P i (bk n R f P i m) < vl n R f P i k
  | 0 => ⟨by unfold bk; rw [rst_k0 n R f h0]; rfl, fun k hk _ => (by have e : k = 0 := (by omega); subst e; exact Int.le_refl _), fun k hk => (by unfold bk at hk; omega)⟩
  | m + 1 => by
    obtain ⟨h1, h2, h3⟩ := bk_spec h0 m
    unfold bk
    by_cases hc : (rst n R f (m + 1) i).isSome ∧ vl n R f P i (m + 1) < vl n R f P i (bk n R f P i m)
    · rw [if_pos hc]
      refine ⟨hc.1, fun k hk hs => ?_, fun k hk hs => ?_⟩
      · rcases Nat.lt_or_ge k (m + 1) with h | h
        · have := h2 k (by omega) hs; omega
        · have : k = m + 1 := by omega
          subst this; exact Int.le_refl _
      · have := h2 k (by omega) hs; omega
    · rw [if_neg hc]
      refine ⟨h1, fun k hk hs => ?_, h3⟩
      rcases Nat.lt_or_ge k (m + 1) with h | h
      · exact h2 k (by omega) hs
      · have e : k = m + 1 := by omega
        subst e
        exact Int.not_lt.mp (fun hl => hc ⟨hs, hl⟩)
/-- only this number is so -/
theorem bk_uniq {i m b : Nat} (h0 : i = 0 ∨ i + R ≤ n) (hb : b ≤ m) (h1 : (rst n R f b i).isSome) (h2 : ∀ k, k ≤ m → (rst n R f k i).isSome → vl n R f P i b < vl n R f P i k ∨ (vl n R f P i b = vl n R f P i k ∧ b ≤ k)) : bk n R f P i m = b := by
  obtain ⟨g1, g2, g3⟩ := bk_spec n R f P h0 m
  have hle := bk_le n R f P i m
  have a := g2 b hb h1
  have c := h2 _ hle g1
  rcases Nat.lt_trichotomy (bk n R f P i m) b with h | h | h
  · rcases c with c | c <;> omega
  · exact h
  · have := g3 b h h1; rcases c with c | c <;> omega
/-- the first place with p from lo on, c places -/
def srch (p : Nat → Bool) (lo : Nat) : Nat → Nat
  | 0 => lo
  | c + 1 => if p lo then lo else srch p (lo + 1) c
theorem srch_first {p : Nat → Bool} : ∀ {c lo j : Nat}, lo ≤ j → j < lo + c → p j = true → (∀ a, lo ≤ a → a < j → p a = false) → srch p lo c = j
  | 0, lo, j, h1, h2, _, _ => by omega
  | c + 1, lo, j, h1, h2, h3, h4 => by
    unfold srch
    rcases Nat.lt_or_ge lo j with h | h
    · rw [h4 lo (Nat.le_refl _) h]
      exact srch_first (by omega) (by omega) h3 (fun a ha hb => h4 a (by omega) hb)
    · have e : lo = j := by omega
      subst e; rw [h3]; rfl
theorem srch_in {p : Nat → Bool} : ∀ {c lo : Nat}, (∃ j, lo ≤ j ∧ j < lo + c ∧ p j = true) → lo ≤ srch p lo c ∧ srch p lo c < lo + c ∧ p (srch p lo c) = true ∧ ∀ a, lo ≤ a → a < srch p lo c → p a = false
  | 0, lo, ⟨j, h1, h2, _⟩ => by omega
  | c + 1, lo, ⟨j, h1, h2, h3⟩ => by
    unfold srch
    cases hp : p lo with
    | true => exact ⟨Nat.le_refl _, by simp, by simpa using hp, fun a ha hb => by simp at hb; omega⟩
    | false =>
      have hj : lo ≠ j := fun e => by subst e; rw [hp] at h3; cases h3
      obtain ⟨q1, q2, q3, q4⟩ := srch_in (p := p) (c := c) (lo := lo + 1) ⟨j, by omega, by omega, h3⟩
      simp only [Bool.false_eq_true, if_false]
      refine ⟨by omega, by omega, q3, fun a ha hb => ?_⟩
      rcases Nat.lt_or_ge lo a with h | h
      · exact q4 a (by omega) hb
      · have e : a = lo := by omega
        subst e; exact hp
/-- does the first run of the least sum with k breaks end before j? -/
def isx (k i j : Nat) : Bool := match rst n R f (k - 1) j, rst n R f k i with
  | some r', some r => decide (f i j + r' = r)
  | _, _ => false
theorem isx_iff {k i j : Nat} : isx n R f k i j = true ↔ ∃ r', rst n R f (k - 1) j = some r' ∧ rst n R f k i = some (f i j + r') := by
  unfold isx
  cases h1 : rst n R f (k - 1) j with
  | none => simp
  | some r' =>
    cases h2 : rst n R f k i with
    | none => simp
    | some r =>
      simp only [decide_eq_true_eq, Option.some.injEq, exists_eq_left']
      exact eq_comm
def nx (k i : Nat) : Nat := srch (isx n R f k i) (i + R) (n - (i + R))
theorem nx_spec {k i : Nat} (hs : (rst n R f (k + 1) i).isSome) : i + R ≤ nx n R f (k + 1) i ∧ nx n R f (k + 1) i < n ∧ isx n R f (k + 1) i (nx n R f (k + 1) i) = true ∧ ∀ a, i + R ≤ a → a < nx n R f (k + 1) i → isx n R f (k + 1) i a = false := by
  cases e : rst n R f (k + 1) i with
  | none => rw [e] at hs; cases hs
  | some r =>
    obtain ⟨j, r', h1, h2, h3, h4⟩ := rst_in n R f e
    have h := srch_in (p := isx n R f (k + 1) i) (c := n - (i + R)) (lo := i + R) ⟨j, h1, by omega, (isx_iff n R f).mpr ⟨r', h3, by rw [e, h4]⟩⟩
    exact ⟨h.1, by have := h.2.1; unfold nx; omega, h.2.2.1, h.2.2.2⟩
/-- the starts of the runs of the best segmentation with b breaks -/
def stp (b : Nat) : Nat → Nat
  | 0 => 0
  | m + 1 => if m < b then nx n R f (b - m) (stp b m) else n
-- ===== the halving of a search for the least penalty: more penalty, no more breaks =====
theorem bk_mono {P1 P2 : Int} (hP : P1 ≤ P2) {i m : Nat} (h0 : i = 0 ∨ i + R ≤ n) : bk n R f P2 i m ≤ bk n R f P1 i m := by
  obtain ⟨g1, g2, g3⟩ := bk_spec n R f P1 h0 m
  obtain ⟨k1, k2, k3⟩ := bk_spec n R f P2 h0 m
  rcases Nat.lt_or_ge (bk n R f P1 i m) (bk n R f P2 i m) with h | h
  · exfalso
    have a := k3 _ h g1
    have c := g2 _ (bk_le n R f P2 i m) k1
    unfold vl at a c
    generalize bk n R f P1 i m = x at *
    generalize bk n R f P2 i m = y at *
    have : (P2 - P1) * ((y : Int) - x) ≥ 0 := Int.mul_nonneg (by omega) (by omega)
    rw [Int.sub_mul, Int.mul_sub, Int.mul_sub] at this
    omega
  · exact h
-- ===== one step of the search from the end on =====
/-- the best so far at i: no break, or a first break before J -/
def Ltw (a : Int) (b : Nat) (c : Int) (e : Nat) : Prop := a < c ∨ (a = c ∧ b ≤ e)
def Scan (i J : Nat) (C : Int) (b x : Nat) : Prop :=
  Ltw C b (f i n) 0 ∧ (∀ j, i + R ≤ j → j < J → j + R ≤ n → Ltw C b (f i j + P + vl n R f P j (bk n R f P j 15)) (bk n R f P j 15 + 1)) ∧
  ((b = 0 ∧ C = f i n ∧ x = n) ∨ (i + R ≤ x ∧ x < J ∧ x + R ≤ n ∧ C = f i x + P + vl n R f P x (bk n R f P x 15) ∧ b = bk n R f P x 15 + 1 ∧
    ∀ j, i + R ≤ j → j < x → ¬ (C = f i j + P + vl n R f P j (bk n R f P j 15) ∧ b = bk n R f P j 15 + 1)))
theorem Scan_0 (i : Nat) : Scan n R f P i (i + R) (f i n) 0 n := ⟨Or.inr ⟨rfl, Nat.le_refl 0⟩, fun j h1 h2 => by omega, Or.inl ⟨rfl, rfl, rfl⟩⟩
theorem Scan_yes {i J : Nat} {C : Int} {b x : Nat} (h : Scan n R f P i J C b x) (h1 : i + R ≤ J) (h2 : J + R ≤ n)
    (hl : f i J + P + vl n R f P J (bk n R f P J 15) < C ∨ (f i J + P + vl n R f P J (bk n R f P J 15) = C ∧ bk n R f P J 15 + 1 < b)) : Scan n R f P i (J + 1) (f i J + P + vl n R f P J (bk n R f P J 15)) (bk n R f P J 15 + 1) J := by
  obtain ⟨a1, a2, a3⟩ := h
  refine ⟨?_, fun j g1 g2 g3 => ?_, Or.inr ⟨h1, by omega, h2, rfl, rfl, fun j g1 g2 g3 => ?_⟩⟩
  · unfold Ltw at *; rcases hl with hl | hl <;> rcases a1 with a1 | a1 <;> first | (left; omega) | (right; omega)
  · rcases Nat.lt_or_ge j J with g | g
    · have := a2 j g1 g g3
      unfold Ltw at *; rcases hl with hl | hl <;> rcases this with a1 | a1 <;> first | (left; omega) | (right; omega)
    · have e : j = J := by omega
      subst e; exact Or.inr ⟨rfl, Nat.le_refl _⟩
  · have := a2 j g1 g2 (by omega)
    unfold Ltw at this; rcases hl with hl | hl <;> rcases this with a1 | a1 <;> omega
theorem Scan_no {i J : Nat} {C : Int} {b x : Nat} (h : Scan n R f P i J C b x) (hl : ¬ (f i J + P + vl n R f P J (bk n R f P J 15) < C ∨ (f i J + P + vl n R f P J (bk n R f P J 15) = C ∧ bk n R f P J 15 + 1 < b))) : Scan n R f P i (J + 1) C b x := by
  obtain ⟨a1, a2, a3⟩ := h
  refine ⟨a1, fun j g1 g2 g3 => ?_, ?_⟩
  · rcases Nat.lt_or_ge j J with g | g
    · exact a2 j g1 g g3
    · have e : j = J := by omega
      subst e
      unfold Ltw
      by_cases hc : f i j + P + vl n R f P j (bk n R f P j 15) = C
      · right; constructor; · omega
        exact Nat.not_lt.mp (fun z => hl (Or.inr ⟨hc, z⟩))
      · left
        have := Int.not_lt.mp (fun z => hl (Or.inl z)); omega
  · rcases a3 with a3 | ⟨b1, b2, b3⟩
    · exact Or.inl a3
    · exact Or.inr ⟨b1, by omega, b3⟩
/-- at the end of the scan: the best number, its sum, its first break -/
theorem Scan_end (hR : 1 ≤ R) (hn : n ≤ 16) {i J : Nat} {C : Int} {b x : Nat} (h0 : i = 0 ∨ i + R ≤ n) (hJ : n < J + R) (h : Scan n R f P i J C b x) :
    b = bk n R f P i 15 ∧ C = vl n R f P i (bk n R f P i 15) ∧ x = (if b = 0 then n else nx n R f b i) ∧ (0 < b → bk n R f P x 15 + 1 = b) := by
  obtain ⟨a1, a2, a3⟩ := h
  obtain ⟨g1, g2, g3⟩ := bk_spec n R f P h0 15
  have hR2 : ∀ k, k + 1 ≤ (k + 1) * R := fun k => Nat.le_mul_of_pos_right _ (by omega)
  -- every candidate is at least the best
  have low : ∀ j, i + R ≤ j → j + R ≤ n → Ltw (vl n R f P i (bk n R f P i 15)) (bk n R f P i 15) (f i j + P + vl n R f P j (bk n R f P j 15)) (bk n R f P j 15 + 1) := by
    intro j h1 h2
    obtain ⟨q1, -, -⟩ := bk_spec n R f P (i := j) (Or.inr h2) 15
    cases e : rst n R f (bk n R f P j 15) j with
    | none => rw [e] at q1; cases q1
    | some r' =>
      obtain ⟨r, hr, hle⟩ := rst_le n R f (i := i) h1 (by omega) e
      have hk := rst_room n R f hR hr (Or.inl (Nat.succ_pos _))
      have h15 : bk n R f P j 15 + 1 ≤ 15 := by have := hR2 (bk n R f P j 15 + 1); omega
      have m1 := g2 _ h15 (by rw [hr]; rfl)
      have hv : vl n R f P i (bk n R f P j 15 + 1) ≤ f i j + P + vl n R f P j (bk n R f P j 15) := by
        unfold vl; rw [hr, e]; simp only [Option.getD_some]; rw [Int.natCast_add, Int.mul_add]; omega
      unfold Ltw
      by_cases hc : vl n R f P i (bk n R f P i 15) < f i j + P + vl n R f P j (bk n R f P j 15)
      · exact Or.inl hc
      · refine Or.inr ⟨by omega, Nat.not_lt.mp (fun z => ?_)⟩
        have := g3 _ z (by rw [hr]; rfl)
        omega
  have low0 : Ltw (vl n R f P i (bk n R f P i 15)) (bk n R f P i 15) (f i n) 0 := by
    have hv : vl n R f P i 0 = f i n := by unfold vl; rw [rst_k0 n R f h0]; simp
    have m1 := g2 0 (by omega) (by rw [rst_k0 n R f h0]; rfl)
    rw [hv] at m1
    unfold Ltw
    by_cases hc : vl n R f P i (bk n R f P i 15) < f i n
    · exact Or.inl hc
    · refine Or.inr ⟨by omega, Nat.not_lt.mp (fun z => ?_)⟩
      have := g3 0 z (by rw [rst_k0 n R f h0]; rfl)
      omega
  -- a candidate that is the first run of the best is the best
  have hit : ∀ j r', 0 < bk n R f P i 15 → i + R ≤ j → j < n → rst n R f (bk n R f P i 15 - 1) j = some r' → rst n R f (bk n R f P i 15) i = some (f i j + r') →
      j + R ≤ n ∧ f i j + P + vl n R f P j (bk n R f P j 15) = vl n R f P i (bk n R f P i 15) ∧ bk n R f P j 15 + 1 = bk n R f P i 15 := by
    intro j r' hk h1 h2 h3 h4
    obtain ⟨k, hk⟩ : ∃ k, bk n R f P i 15 = k + 1 := ⟨bk n R f P i 15 - 1, by omega⟩
    rw [hk, Nat.add_sub_cancel] at h3
    have hj : j + R ≤ n := by
      have := rst_room n R f hR h3 (Or.inr (by omega))
      have h9 : R ≤ (k + 1) * R := Nat.le_mul_of_pos_left R (Nat.succ_pos k)
      omega
    obtain ⟨q1, q2, q3⟩ := bk_spec n R f P (i := j) (Or.inr hj) 15
    have hk15 : k ≤ 15 := by have := bk_le n R f P i 15; omega
    have m := q2 k hk15 (by rw [h3]; rfl)
    have L := low j h1 hj
    have hv : f i j + P + vl n R f P j k = vl n R f P i (k + 1) := by
      unfold vl; rw [h3, ← hk, h4, hk]; simp only [Option.getD_some]; rw [Int.natCast_add, Int.mul_add]; omega
    rw [hk] at L ⊢
    unfold Ltw at L
    rcases L with L | ⟨L1, L2⟩
    · omega
    · refine ⟨hj, by omega, ?_⟩
      rcases Nat.lt_trichotomy (bk n R f P j 15) k with h | h | h
      · omega
      · omega
      · have := q3 k h (by rw [h3]; rfl); omega
  -- the scan's value is that of the best
  have up : Ltw C b (vl n R f P i (bk n R f P i 15)) (bk n R f P i 15) := by
    rcases Nat.eq_zero_or_pos (bk n R f P i 15) with hz | hz
    · rw [hz]
      have hv : vl n R f P i 0 = f i n := by unfold vl; rw [rst_k0 n R f h0]; simp
      rw [hv]; exact a1
    · cases e : rst n R f (bk n R f P i 15) i with
      | none => rw [e] at g1; cases g1
      | some r =>
        obtain ⟨k, hk⟩ : ∃ k, bk n R f P i 15 = k + 1 := ⟨bk n R f P i 15 - 1, by omega⟩
        have e' := e
        rw [hk] at e'
        obtain ⟨j, r', h1, h2, h3, h4⟩ := rst_in n R f e'
        obtain ⟨w1, w2, w3⟩ := hit j r' hz h1 h2 (by rw [hk]; exact h3) (by rw [e, h4])
        have := a2 j h1 (by omega) w1
        rw [w2, w3] at this; exact this
  have eq : C = vl n R f P i (bk n R f P i 15) ∧ b = bk n R f P i 15 := by
    rcases a3 with ⟨b1, b2, b3⟩ | ⟨b1, b2, b3, b4, b5, b6⟩
    · unfold Ltw at up low0; rcases up with up | up <;> rcases low0 with l | l <;> constructor <;> omega
    · have l := low x b1 b3
      unfold Ltw at up l; rw [← b4, ← b5] at l; rcases up with up | up <;> rcases l with l | l <;> constructor <;> omega
  refine ⟨eq.2, eq.1, ?_, ?_⟩
  · rcases a3 with ⟨b1, b2, b3⟩ | ⟨b1, b2, b3, b4, b5, b6⟩
    · rw [if_pos b1]; exact b3
    · rw [if_neg (by omega)]
      obtain ⟨k, hk⟩ : ∃ k, b = k + 1 := ⟨b - 1, by omega⟩
      have hkk : bk n R f P i 15 = k + 1 := by rw [← eq.2]; exact hk
      symm
      unfold nx
      refine srch_first b1 (by omega) ?_ (fun a ha hb => ?_)
      · rw [isx_iff, hk, Nat.add_sub_cancel]
        obtain ⟨q1, -, -⟩ := bk_spec n R f P (i := x) (Or.inr b3) 15
        have hbx : bk n R f P x 15 = k := by omega
        rw [hbx] at q1
        cases e : rst n R f k x with
        | none => rw [e] at q1; cases q1
        | some r' =>
          refine ⟨r', rfl, ?_⟩
          cases e2 : rst n R f (k + 1) i with
          | none => rw [hkk] at g1; rw [e2] at g1; cases g1
          | some r =>
            have c1 := eq.1
            rw [b4, hkk, hbx] at c1
            unfold vl at c1
            rw [e, e2] at c1
            simp only [Option.getD_some] at c1
            rw [Int.natCast_add, Int.mul_add] at c1
            congr 1; omega
      · cases hx : isx n R f b i a with
        | false => rfl
        | true =>
          exfalso
          obtain ⟨r', t1, t2⟩ := (isx_iff n R f).mp hx
          rw [eq.2] at t1 t2
          obtain ⟨w1, w2, w3⟩ := hit a r' (by omega) ha (by omega) t1 t2
          exact b6 a ha hb ⟨by rw [w2]; exact eq.1, by rw [w3]; exact eq.2⟩
  · intro hb
    rcases a3 with ⟨b1, b2, b3⟩ | ⟨b1, b2, b3, b4, b5, b6⟩
    · omega
    · exact b5.symm
end DP
