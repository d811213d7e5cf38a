
-- ===== sums over the pairs with a station, station by station =====
section GS
variable {α : Type} (z : α) (ad : α → α → α)
def gS (g : Nat × Nat → α) : pT → α
  | [] => z
  | x :: r => ad (g x) (gS g r)
theorem gS_app (h0 : ∀ a, ad z a = a) (h1 : ∀ a, ad a z = a) (ha : ∀ a b c, ad (ad a b) c = ad a (ad b c)) (g : Nat × Nat → α) : ∀ a b : pT, gS z ad g (a ++ b) = ad (gS z ad g a) (gS z ad g b)
  | [], b => (h0 _).symm
  | x :: r, b => by show ad (g x) (gS z ad g (r ++ b)) = ad (ad (g x) (gS z ad g r)) _; rw [gS_app h0 h1 ha g r b, ha]
def hS (h : Nat → α) : Nat → α
  | 0 => z
  | n + 1 => ad (hS h n) (h n)
def hO (d : dT) (c : Nat) (g : Nat × Nat → α) (q : Nat) : α := if decide (q ≠ c) && prb d c q then g (min c q, max c q) else z
theorem gS_in1 (h0 : ∀ a, ad z a = a) (h1 : ∀ a, ad a z = a) (ha : ∀ a b c, ad (ad a b) c = ad a (ad b c)) {d : dT} {c u : Nat} {g : Nat × Nat → α} (hg : ∀ a b, a ≠ c → b ≠ c → g (a, b) = z) (hu : u < c) : ∀ n, gS z ad g (plIn d u n) = if decide (c < n) && prb d u c then g (u, c) else z
  | 0 => by rw [if_neg (by simp)]; rfl
  | n + 1 => by
    show gS z ad g (plIn d u n ++ _) = _
    rw [gS_app z ad h0 h1 ha, gS_in1 h0 h1 ha hg hu n]
    rcases Nat.lt_trichotomy n c with q | q | q
    · rw [decide_eq_false (show ¬ c < n by omega), decide_eq_false (show ¬ c < n + 1 by omega), Bool.false_and, if_neg (show ¬ false = true by decide), h0]
      split
      · show ad (g (u, n)) z = z; rw [h1, hg _ _ (by omega) (by omega)]
      · rfl
    · subst q
      rw [decide_eq_false (Nat.lt_irrefl n), Bool.false_and, if_neg (show ¬ false = true by decide), h0, decide_eq_true hu, decide_eq_true (Nat.lt_succ_self n)]
      split
      · exact h1 _
      · rfl
    · rw [decide_eq_true q, decide_eq_true (show c < n + 1 by omega)]
      have e : gS z ad g (if (decide (u < n) && prb d u n) = true then [(u, n)] else []) = z := by
        split
        · show ad (g (u, n)) z = z; rw [h1, hg _ _ (by omega) (by omega)]
        · rfl
      rw [e, h1]
theorem gS_in3 (h0 : ∀ a, ad z a = a) (h1 : ∀ a, ad a z = a) (ha : ∀ a b c, ad (ad a b) c = ad a (ad b c)) {d : dT} {c u : Nat} {g : Nat × Nat → α} (hg : ∀ a b, a ≠ c → b ≠ c → g (a, b) = z) (hu : c < u) : ∀ n, gS z ad g (plIn d u n) = z
  | 0 => rfl
  | n + 1 => by
    show gS z ad g (plIn d u n ++ _) = _
    rw [gS_app z ad h0 h1 ha, gS_in3 h0 h1 ha hg hu n, h0]
    split
    · rename_i h
      rw [Bool.and_eq_true, decide_eq_true_eq] at h
      show ad (g (u, n)) z = z; rw [h1, hg _ _ (by omega) (by omega)]
    · rfl
theorem gS_in2 (h0 : ∀ a, ad z a = a) (h1 : ∀ a, ad a z = a) (ha : ∀ a b c, ad (ad a b) c = ad a (ad b c)) {d : dT} {c : Nat} {g : Nat × Nat → α} : ∀ n, c + 1 ≤ n → ad (hS z ad (hO z d c g) c) (gS z ad g (plIn d c n)) = hS z ad (hO z d c g) n
  | 0, h => by omega
  | n + 1, h => by
    rcases Nat.lt_or_ge c n with q | q
    · show ad _ (gS z ad g (plIn d c n ++ _)) = ad (hS z ad (hO z d c g) n) (hO z d c g n)
      rw [gS_app z ad h0 h1 ha, ← ha, gS_in2 h0 h1 ha n (by omega)]
      congr 1
      unfold hO
      rw [decide_eq_true q, decide_eq_true (show n ≠ c by omega), Nat.min_eq_left (by omega), Nat.max_eq_right (by omega)]
      split
      · exact h1 _
      · rfl
    · have e : n = c := by omega
      subst e
      rw [plIn_0 d n (Nat.le_refl _)]
      show ad _ z = ad (hS z ad (hO z d n g) n) (hO z d n g n)
      rw [show hO z d n g n = z by unfold hO; rw [if_neg (by simp)]]
theorem gS_to (h0 : ∀ a, ad z a = a) (h1 : ∀ a, ad a z = a) (ha : ∀ a b c, ad (ad a b) c = ad a (ad b c)) {d : dT} {c : Nat} {g : Nat × Nat → α} (hg : ∀ a b, a ≠ c → b ≠ c → g (a, b) = z) (hc : c < dK d) : ∀ m, gS z ad g (plTo d m) = if m ≤ c then hS z ad (hO z d c g) m else hS z ad (hO z d c g) (dK d)
  | 0 => by rw [if_pos (Nat.zero_le _)]; rfl
  | m + 1 => by
    show gS z ad g (plTo d m ++ plIn d m (dK d)) = _
    rw [gS_app z ad h0 h1 ha, gS_to h0 h1 ha hg hc m]
    rcases Nat.lt_trichotomy m c with q | q | q
    · rw [if_pos (by omega), if_pos (by omega), gS_in1 z ad h0 h1 ha hg q]
      show _ = ad (hS z ad (hO z d c g) m) (hO z d c g m)
      unfold hO
      rw [decide_eq_true hc, decide_eq_true (show m ≠ c by omega), Nat.min_eq_right (by omega), Nat.max_eq_left (by omega), prb_comm d c m]
    · subst q
      rw [if_pos (Nat.le_refl _), if_neg (by omega), gS_in2 z ad h0 h1 ha _ hc]
    · rw [if_neg (by omega), if_neg (by omega), gS_in3 z ad h0 h1 ha hg q, h1]
theorem gS_all (h0 : ∀ a, ad z a = a) (h1 : ∀ a, ad a z = a) (ha : ∀ a b c, ad (ad a b) c = ad a (ad b c)) {d : dT} {c : Nat} {g : Nat × Nat → α} (hg : ∀ a b, a ≠ c → b ≠ c → g (a, b) = z) (hc : c < dK d) : gS z ad g (pL d) = hS z ad (hO z d c g) (dK d) := by
  unfold pL; rw [gS_to z ad h0 h1 ha hg hc, if_neg (by omega)]
theorem gS_take (h0 : ∀ a, ad z a = a) (h1 : ∀ a, ad a z = a) (ha : ∀ a b c, ad (ad a b) c = ad a (ad b c)) {g : Nat × Nat → α} {P : pT} {n : Nat} (hn : n < P.length) : gS z ad g (P.take (n + 1)) = ad (gS z ad g (P.take n)) (g (pf P n, ps P n)) := by
  rw [List.take_succ, List.getElem?_eq_getElem hn, gS_app z ad h0 h1 ha]
  have e : (pf P n, ps P n) = P[n] := by
    unfold pf ps; rw [List.getD_eq_getElem?_getD, List.getElem?_eq_getElem hn]; rfl
  rw [e]; show ad _ (ad (g P[n]) z) = _; rw [h1]
theorem hS_cong {f h : Nat → α} : ∀ {n : Nat}, (∀ q, q < n → f q = h q) → hS z ad f n = hS z ad h n
  | 0, _ => rfl
  | n + 1, e => by show ad _ _ = ad _ _; rw [hS_cong (fun q hq => e q (by omega)), e n (by omega)]
end GS
/-- the open breaks by number of pair, and by pair -/
def RB (d : dT) (B : Nat → Nat → Bool) (F : Nat → Nat → Nat → Bool) : Prop := (∀ p t, p < (pL d).length → t < dY d → B p t = F (pf (pL d) p) (ps (pL d) p) t) ∧ (∀ u v t, F u v t = F v u t) ∧ ∀ u v t, F u v t = true → prb d u v = true
def gC (F : Nat → Nat → Nat → Bool) (c t : Nat) (x : Nat × Nat) : Nat := if (decide (x.1 = c) || decide (x.2 = c)) && F x.1 x.2 t then 1 else 0
def gZ (d : dT) (F : Nat → Nat → Nat → Bool) (c t : Nat) (x : Nat × Nat) : Int64 := if (decide (x.1 = c) || decide (x.2 = c)) && F x.1 x.2 t then (if x.1 = c then shf d x.1 x.2 t else - shf d x.1 x.2 t) else 0
theorem cnI_g {d : dT} {B : Nat → Nat → Bool} {F : Nat → Nat → Nat → Bool} (hR : RB d B F) {c t : Nat} (ht : t < dY d) : ∀ n, n ≤ (pL d).length → cnI (pL d) B c t n = gS 0 (· + ·) (gC F c t) ((pL d).take n)
  | 0, _ => rfl
  | n + 1, h => by
    rw [gS_take 0 (· + ·) Nat.zero_add Nat.add_zero Nat.add_assoc (by omega), ← cnI_g hR ht n (by omega)]
    show cnI (pL d) B c t n + (if isO (pL d) n c && B n t then 1 else 0) = _
    unfold gC isO
    rw [hR.1 n t (by omega) ht]
theorem szT_g {d : dT} {B : Nat → Nat → Bool} {F : Nat → Nat → Nat → Bool} (hR : RB d B F) {c t : Nat} (ht : t < dY d) : ∀ n, n ≤ (pL d).length → szT d (pL d) B c t n = gS 0 (· + ·) (gZ d F c t) ((pL d).take n)
  | 0, _ => rfl
  | n + 1, h => by
    rw [gS_take 0 (· + ·) Int64.zero_add Int64.add_zero Int64.add_assoc (by omega), ← szT_g hR ht n (by omega)]
    unfold gZ
    show (if isO (pL d) n c && B n t then _ else _) = _
    unfold isO
    rw [hR.1 n t (by omega) ht]
    split
    · rfl
    · exact (Int64.add_zero _).symm
theorem g_other {c : Nat} {a b : Nat} (h1 : a ≠ c) (h2 : b ≠ c) : (decide (a = c) || decide (b = c)) = false := by simp [h1, h2]
theorem g_has {c q : Nat} : (decide (min c q = c) || decide (max c q = c)) = true := by
  rw [Bool.or_eq_true, decide_eq_true_eq, decide_eq_true_eq]; omega
theorem F_mm {F : Nat → Nat → Nat → Bool} (h : ∀ u v t, F u v t = F v u t) (c q t : Nat) : F (min c q) (max c q) t = F c q t := by
  rcases Nat.le_total c q with z | z
  · rw [Nat.min_eq_left z, Nat.max_eq_right z]
  · rw [Nat.min_eq_right z, Nat.max_eq_left z, h]
theorem hS_pop {f : Nat → Bool} : ∀ n, hS 0 (· + ·) (fun q => if f q then 1 else 0) n = pop f n
  | 0 => rfl
  | n + 1 => by
    show hS 0 (· + ·) (fun q => if f q then 1 else 0) n + (if f n then 1 else 0) = (if f n then pop f n + 1 else pop f n)
    rw [hS_pop n]; split <;> rfl
theorem cnt_pop {d : dT} {B : Nat → Nat → Bool} {F : Nat → Nat → Nat → Bool} (hR : RB d B F) {c t : Nat} (hc : c < dK d) (ht : t < dY d) : cnt (pL d) B c t = pop (wF F c t) (dK d) := by
  unfold cnt
  rw [cnI_g hR ht _ (Nat.le_refl _), List.take_length, gS_all 0 (· + ·) Nat.zero_add Nat.add_zero Nat.add_assoc (fun a b h1 h2 => by unfold gC; rw [g_other h1 h2]; rfl) hc, ← hS_pop]
  refine hS_cong 0 (· + ·) (fun q hq => ?_)
  unfold hO gC wF
  rw [g_has, Bool.true_and, F_mm hR.2.1]
  by_cases hqc : q = c
  · simp [hqc]
  · rw [decide_eq_true hqc, Bool.true_and, Bool.true_and]
    cases hp : prb d c q with
    | true => rfl
    | false =>
      have : ¬ F c q t = true := fun z => by rw [hR.2.2 _ _ _ z] at hp; cases hp
      rw [if_neg (by decide), if_neg this]
def sgS (d : dT) (c q t : Nat) : Int64 := if c < q then shf d c q t else - shf d q c t
def zS (d : dT) (f : Nat → Bool) (c t : Nat) : Nat → Int64
  | 0 => 0
  | q + 1 => zS d f c t q + (if f q then sgS d c q t else 0)
theorem hS_z {d : dT} {f : Nat → Bool} {c t : Nat} : ∀ n, hS 0 (· + ·) (fun q => if f q then sgS d c q t else 0) n = zS d f c t n
  | 0 => rfl
  | n + 1 => by
    show hS 0 (· + ·) (fun q => if f q then sgS d c q t else 0) n + _ = zS d f c t n + _
    rw [hS_z n]
set_option maxRecDepth 100000 in
theorem szT_z {d : dT} {B : Nat → Nat → Bool} {F : Nat → Nat → Nat → Bool} (hR : RB d B F) {c t : Nat} (hc : c < dK d) (ht : t < dY d) : szT d (pL d) B c t (pL d).length = zS d (wF F c t) c t (dK d) := by
  rw [szT_g hR ht _ (Nat.le_refl _), List.take_length, gS_all 0 (· + ·) Int64.zero_add Int64.add_zero Int64.add_assoc (fun a b h1 h2 => by unfold gZ; rw [g_other h1 h2, Bool.false_and]; exact if_neg (by decide)) hc, ← hS_z]
  refine hS_cong 0 (· + ·) (fun q hq => ?_)
  unfold hO gZ wF sgS
  rw [g_has, Bool.true_and, F_mm hR.2.1]
  by_cases hqc : q = c
  · simp [hqc]
  · rw [decide_eq_true hqc, Bool.true_and, Bool.true_and]
    cases hp : prb d c q with
    | true =>
      rw [if_pos rfl]
      cases F c q t with
      | false => rw [if_neg (by decide), if_neg (by decide)]
      | true =>
        rw [if_pos rfl, if_pos rfl]
        rcases Nat.lt_or_ge c q with z | z
        · rw [Nat.min_eq_left (by omega), Nat.max_eq_right (by omega), if_pos rfl, if_pos z]
        · rw [Nat.min_eq_right (by omega), Nat.max_eq_left (by omega), if_neg hqc, if_neg (by omega)]
    | false =>
      have : ¬ F c q t = true := fun z => by rw [hR.2.2 _ _ _ z] at hp; cases hp
      rw [if_neg (by decide), if_neg this]
theorem plIn_ok (d : dT) (u : Nat) (hu : u < dK d) {P : pT} (hP : plOk d P) : ∀ n, n ≤ dK d → plOk d (P ++ plIn d u n)
  | 0, _ => by unfold plIn; rw [List.append_nil]; exact hP
  | n + 1, h => by
    unfold plIn
    rw [← List.append_assoc]
    split
    · rename_i hh
      rw [Bool.and_eq_true, decide_eq_true_eq] at hh
      exact plOk_add (plIn_ok d u hu hP n (by omega)) hh.1 (by omega) hh.2
    · rw [List.append_nil]; exact plIn_ok d u hu hP n (by omega)
theorem plTo_ok (d : dT) : ∀ m, m ≤ dK d → plOk d (plTo d m)
  | 0, _ => plOk_nil d
  | m + 1, h => plIn_ok d m (by omega) (plTo_ok d m (by omega)) _ (Nat.le_refl _)
theorem RB_0 (d : dT) : RB d (bP d (pL d)) (Fb d) := by
  refine ⟨fun p t hp ht => ?_, Fb_comm d, fun u v t h => ?_⟩
  · have h := plTo_ok d (dK d) (Nat.le_refl _) p hp
    show brk d _ _ t = Fb d (pf (plTo d (dK d)) p) (ps (plTo d (dK d)) p) t
    rw [Fb_lt d h.1, h.2.2, Bool.true_and]; rfl
  · unfold Fb at h; rw [Bool.and_eq_true] at h; exact h.1
def ctF (d : dT) (F : Nat → Nat → Nat → Bool) (c y : Nat) : Nat → Nat → Nat → Bool := fun a b t => F a b t && !((decide (a = c) || decide (b = c)) && (decide (y ≤ t + dR d 3) && decide (t ≤ y + dR d 3)))
theorem RB_cut {d : dT} {B : Nat → Nat → Bool} {F : Nat → Nat → Nat → Bool} (h : RB d B F) (c y : Nat) : RB d (stk d (pL d) B c y) (ctF d F c y) := by
  refine ⟨fun p t hp ht => ?_, fun u v t => ?_, fun u v t hf => ?_⟩
  · unfold stk ctF isO; rw [h.1 p t hp ht]
  · unfold ctF; rw [h.2.1 u v t, Bool.or_comm]
  · unfold ctF at hf; rw [Bool.and_eq_true] at hf; exact h.2.2 u v t hf.1
-- the number of places with votes left
def nz (f : Nat → Nat → Nat) : Nat → Nat
  | 0 => 0
  | q + 1 => nz f q + (if 0 < f (q / 16) (q % 16) then 1 else 0)
theorem nz_le (f : Nat → Nat → Nat) : ∀ n, nz f n ≤ n
  | 0 => Nat.le_refl 0
  | n + 1 => by
    have := nz_le f n
    unfold nz; split <;> omega
theorem nz_mono {f h : Nat → Nat → Nat} (e : ∀ c t, h c t ≤ f c t) : ∀ n, nz h n ≤ nz f n
  | 0 => Nat.le_refl 0
  | n + 1 => by
    have h1 := nz_mono e n
    have h2 := e (n / 16) (n % 16)
    unfold nz
    by_cases q : 0 < h (n / 16) (n % 16)
    · rw [if_pos q, if_pos (by omega)]; omega
    · rw [if_neg q]; omega
theorem nz_lt {f h : Nat → Nat → Nat} (e : ∀ c t, h c t ≤ f c t) {c t : Nat} (ht : t < 16) (h1 : 0 < f c t) (h2 : h c t = 0) : ∀ n, 16 * c + t < n → nz h n < nz f n
  | 0, hn => by omega
  | n + 1, hn => by
    unfold nz
    rcases Nat.lt_or_ge (16 * c + t) n with q | q
    · have h3 := nz_lt e ht h1 h2 n q
      have h4 := e (n / 16) (n % 16)
      by_cases q2 : 0 < h (n / 16) (n % 16)
      · rw [if_pos q2, if_pos (by omega)]; omega
      · rw [if_neg q2]; omega
    · have e1 : n / 16 = c := by omega
      have e2 : n % 16 = t := by omega
      have h3 := nz_mono e n
      rw [e1, e2, if_pos h1, h2, if_neg (by omega)]; omega
theorem cnt_mono {P : pT} {B D : Nat → Nat → Bool} (h : ∀ p t, D p t = true → B p t = true) (c t : Nat) : ∀ n, cnI P D c t n ≤ cnI P B c t n
  | 0 => Nat.le_refl 0
  | n + 1 => by
    have h1 := cnt_mono (P := P) h c t n
    unfold cnI
    by_cases q : (isO P n c && D n t) = true
    · rw [if_pos q]
      rw [Bool.and_eq_true] at q
      rw [if_pos (by rw [Bool.and_eq_true]; exact ⟨q.1, h _ _ q.2⟩)]; omega
    · rw [if_neg q]; omega
theorem cnt_0 {P : pT} {B : Nat → Nat → Bool} {c t : Nat} (h : ∀ p, isO P p c = true → B p t = false) : ∀ n, cnI P B c t n = 0
  | 0 => rfl
  | n + 1 => by
    unfold cnI
    rw [cnt_0 h n, if_neg]
    rw [Bool.and_eq_true]; rintro ⟨q1, q2⟩; rw [h n q1] at q2; cases q2
theorem nz_stk {d : dT} {P : pT} {B : Nat → Nat → Bool} {c t : Nat} (hc : c < 6) (ht : t < 16) (h : 0 < cnt P B c t) : nz (cnt P (stk d P B c t)) 96 < nz (cnt P B) 96 :=
  nz_lt (f := cnt P B) (h := cnt P (stk d P B c t)) (fun a b => cnt_mono (P := P) (fun p t hh => (stk_iff.mp hh).1) a b _) ht h (cnt_0 (fun p hp => by
    rw [Bool.eq_false_iff]; intro hh; exact (stk_iff.mp hh).2 ⟨hp, by omega, by omega⟩) _) 96 (by omega)
