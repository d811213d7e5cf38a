
-- ===== the answers, as functions of the state =====
/-- a change: its kind, place, year, number -/
abbrev aT : Type := Nat × Nat × Nat × Int32
abbrev sT : Type := dT × List gT × List aT × List Nat
def sD (s : sT) : dT := s.1
def sG (s : sT) : List gT := s.2.1
def sA (s : sT) : List aT := s.2.2.1
def sX (s : sT) : List Nat := s.2.2.2
def aEnc (a : aT) : hT := (nI a.1, nI a.2.1, nI a.2.2.1, a.2.2.2)
def setV (d : dT) (c t : Nat) (o : Option Int32) : dT := (dY d, dK d, dX d, dZ d, fun a b => if a = c ∧ b = t then o else dV d a b, dR d)
def setR (d : dT) (k v : Nat) : dT := (dY d, dK d, dX d, dZ d, dV d, fun j => if j = k then v else dR d j)
def shV (d : dT) (c t : Nat) (z : Int32) : dT := (dY d, dK d, dX d, dZ d, fun a b => if a = c ∧ b < t then (dV d a b).map (fun x => x + z) else dV d a b, dR d)
def decX (n : Int32) : Option Int32 := if n = 1000000 then none else some n
def und (a : aT) (q : dT × List gT) : dT × List gT := match a.1 with
  | 0 => (setV q.1 a.2.1 a.2.2.1 (decX a.2.2.2), q.2)
  | 1 => (setR q.1 4 a.2.2.2.toNatClampNeg, q.2)
  | 2 => (setR q.1 a.2.1 a.2.2.2.toNatClampNeg, q.2)
  | _ => (shV q.1 a.2.1 a.2.2.1 (- a.2.2.2), q.2.dropLast)
def vld (a : aT) (q : dT × List gT) : Prop := match a.1 with
  | 0 => a.2.1 < dK q.1 ∧ a.2.2.1 < dY q.1 ∧ (a.2.2.2 = 1000000 ∨ okv a.2.2.2)
  | 1 => ∃ p, p ≤ 99999 ∧ a.2.2.2 = nI p
  | 2 => a.2.1 < 4 ∧ ∃ p, p ≤ 99999 ∧ a.2.2.2 = nI p
  | 3 => a.2.1 < dK q.1 ∧ a.2.2.1 ≤ 16 ∧ 0 < q.2.length
  | _ => False
/-- the states that undoing leads to are in order (the latest change first) -/
def HV : dT × List gT → List aT → Prop
  | _, [] => True
  | q, a :: r => vld a q ∧ dB (und a q).1 ∧ HV (und a q) r
def hA (as : List aT) (x : aT) : List aT := (if as.length < 8 then as else as.tail) ++ [x]
theorem hA_enc (as : List aT) (x : aT) : (hA as x).map aEnc = hAdd (as.map aEnc) (aEnc x) := by
  unfold hA hAdd
  rw [List.map_append, List.length_map]
  split <;> simp [List.map_tail]
theorem HV_sub : ∀ {r : List aT} {q : dT × List gT} {k : Nat}, HV q r → HV q (r.take k)
  | [], q, k, _ => by simp [HV]
  | a :: r, q, 0, _ => by simp [HV]
  | a :: r, q, k + 1, h => ⟨h.1, h.2.1, HV_sub h.2.2⟩
theorem HV_add {q : dT × List gT} {x : aT} {as : List aT} {q0 : dT × List gT} (h : HV q0 as.reverse) (hu : und x q = q0) (hv : vld x q) (hB : dB q0.1) : HV q (hA as x).reverse := by
  unfold hA
  rw [List.reverse_append]
  show vld x q ∧ dB (und x q).1 ∧ HV (und x q) _
  rw [hu]
  refine ⟨hv, hB, ?_⟩
  show HV q0 (if as.length < 8 then as else as.tail).reverse
  split
  · exact h
  · have e : as.tail.reverse = as.reverse.take (as.length - 1) := by
      cases as with
      | nil => rfl
      | cons a t => simp
    rw [e]; exact HV_sub h
theorem dV_set (d : dT) (c t : Nat) (o : Option Int32) (a b : Nat) : dV (setV d c t o) a b = if a = c ∧ b = t then o else dV d a b := rfl
theorem setV_back (d : dT) (c t : Nat) (o : Option Int32) : setV (setV d c t o) c t (dV d c t) = d := by
  obtain ⟨y, k, x, z, v, r⟩ := d
  have e : (fun a b => if a = c ∧ b = t then v c t else if a = c ∧ b = t then o else v a b) = v := by
    funext a b
    by_cases h : a = c ∧ b = t
    · rw [if_pos h, h.1, h.2]
    · rw [if_neg h, if_neg h]
  show (y, k, x, z, (fun a b => if a = c ∧ b = t then v c t else if a = c ∧ b = t then o else v a b), r) = (y, k, x, z, v, r)
  rw [e]
theorem setR_back (d : dT) (k v : Nat) : setR (setR d k v) k (dR d k) = d := by
  obtain ⟨y, kk, x, z, w, r⟩ := d
  have e : (fun j => if j = k then r k else if j = k then v else r j) = r := by
    funext j
    by_cases h : j = k
    · rw [if_pos h, h]
    · rw [if_neg h, if_neg h]
  show (y, kk, x, z, w, (fun j => if j = k then r k else if j = k then v else r j)) = (y, kk, x, z, w, r)
  rw [e]
theorem shV_back (d : dT) (c t : Nat) (s : Int32) : shV (shV d c t s) c t (-s) = d := by
  obtain ⟨y, kk, x, z, w, r⟩ := d
  have e : (fun a b => if a = c ∧ b < t then (if a = c ∧ b < t then (w a b).map (fun x => x + s) else w a b).map (fun x => x + -s) else if a = c ∧ b < t then (w a b).map (fun x => x + s) else w a b) = w := by
    funext a b
    by_cases h : a = c ∧ b < t
    · rw [if_pos h, if_pos h]
      cases w a b with
      | none => rfl
      | some q => simp [Int32.add_assoc, Int32.add_right_neg]
    · rw [if_neg h, if_neg h]
  show (y, kk, x, z, (fun a b => if a = c ∧ b < t then (if a = c ∧ b < t then (w a b).map (fun x => x + s) else w a b).map (fun x => x + -s) else if a = c ∧ b < t then (w a b).map (fun x => x + s) else w a b), r) = (y, kk, x, z, w, r)
  rw [e]
theorem decX_enc {o : Option Int32} (h : ∀ v, o = some v → okv v) : decX (encX o) = o := by
  cases o with
  | none => rfl
  | some v => unfold decX encX; rw [if_neg (okv_X (h v rfl))]
theorem dB_setV {d : dT} {c t : Nat} {o : Option Int32} (h : dB d) (ho : ∀ v, o = some v → okv v) : dB (setV d c t o) := by
  refine ⟨h.1, h.2.1, fun a b v hv => ?_, h.2.2.2⟩
  rw [dV_set] at hv
  split at hv
  · exact ho v hv
  · exact h.2.2.1 a b v hv
-- arguments
abbrev kn (c : Int32) : Nat := c.toNatClampNeg
abbrev inN (c : Int32) (n : Nat) : Prop := 0 ≤ c ∧ c < nI n
theorem inN_n {c n : Nat} (hn : n < 2147483648) (hc : c < 2147483648) : inN (nI c) n ↔ c < n := by
  unfold inN
  rw [nI_ltI hc hn]
  exact ⟨fun h => h.2, fun h => ⟨nI_pos' hc, h⟩⟩
theorem inN_o {c : Int32} {n : Nat} (hn : n < 2147483648) (h : inN c n) : ∃ j, j < n ∧ c = nI j := by
  rcases pk_ix c hn with q | q | q
  · exact absurd h.1 (Int32.not_le.mpr q)
  · exact absurd h.2 (Int32.not_lt.mpr q)
  · exact q
abbrev ck (d : dT) (c t : Int32) : Prop := inN c (dK d) ∧ inN t (dY d)
abbrev tw (d : dT) (u v : Int32) : Prop := inN u (dK d) ∧ inN v (dK d) ∧ ¬ u = v
def shown (o : Option Int32) : Int32 := match o with
  | none => -4
  | some v => v + nI 100000
theorem q_ge0 {i : Int32} (h : ¬ i < 0) : ∃ j, j < 2147483648 ∧ i = nI j := nI_of h
theorem q_gem1 {i : Int32} (h1 : -1 ≤ i) (h2 : ¬ i = -1) : ∃ j, j < 2147483648 ∧ i = nI j := by
  refine nI_of (fun h => h2 ?_)
  rw [Int32.lt_iff_toInt_lt] at h
  rw [Int32.le_iff_toInt_le] at h1
  apply Int32.toInt_inj.mp
  have e1 : (-1 : Int32).toInt = -1 := rfl
  have e0 : (0 : Int32).toInt = 0 := rfl
  omega

-- the answers
def aValue (d : dT) (c t : Int32) : Int32 := if ck d c t then shown (dV d (kn c) (kn t)) else -1
def aEntry (d : dT) (u v i : Int32) : Int32 := if tw d u v ∧ -1 ≤ i then (if i = -1 then nI (ser d (kn u) (kn v)).length else if i < nI (ser d (kn u) (kn v)).length then en (ser d (kn u) (kn v)) (kn i) + nI 100000 else -4) else -1
def aYear (d : dT) (u v i : Int32) : Int32 := if tw d u v ∧ ¬ i < 0 then (if i < nI (ser d (kn u) (kn v)).length then nI (yr (ser d (kn u) (kn v)) (kn i)) else -4) else -1
def aSpread (d : dT) (u v i j : Int32) : Int64 := if tw d u v then (if ¬ i < 0 ∧ ¬ j < i ∧ j < nI (ser d (kn u) (kn v)).length then spd (ser d (kn u) (kn v)) (kn i) (kn j + 1) else -1) else -1
def aSplit (d : dT) (u v k : Int32) : Int32 := if tw d u v ∧ -1 ≤ k then (if k = -1 then nI (bN d (kn u) (kn v)) else if k < nI (bN d (kn u) (kn v)) then nI (bY d (kn u) (kn v) (kn k)) else -4) else -1
def aCost (d : dT) (u v : Int32) : Int64 := if tw d u v then Int64.ofInt (vl (ser d (kn u) (kn v)).length (dR d 0) (fz (ser d (kn u) (kn v))) (sP (dR d 4)) 0 (bN d (kn u) (kn v))) else -1
def spL (l : List (Nat × Int32)) (R k : Nat) : Int64 := match rst l.length R (fz l) k 0 with
  | some s => Int64.ofInt s
  | none => -4
def aSpreads (d : dT) (u v k : Int32) : Int64 := if tw d u v ∧ ¬ k < 0 then spL (ser d (kn u) (kn v)) (dR d 0) (kn k) else -1
def isPn (p : Int32) : Bool := decide (0 ≤ p) && decide (p ≤ 99999)
def aBreaks (d : dT) (u v p : Int32) : Int32 := if tw d u v ∧ isPn p = true then nI (bkN (ser d (kn u) (kn v)) (dR d 0) (kn p)) else -1
def lstF (l : List (Nat × Int32)) (R k : Nat) : Nat := srch (fun p => decide (bkN l R p ≤ k)) 0 100000
def aLeast (d : dT) (u v k : Int32) : Int32 := if tw d u v ∧ ¬ k < 0 then (if lstF (ser d (kn u) (kn v)) (dR d 0) (kn k) < 100000 then nI (lstF (ser d (kn u) (kn v)) (dR d 0) (kn k)) else -4) else -1
def aVotes (d : dT) (c t : Int32) : Int32 := if ck d c t then nI (cnt (pL d) (bP d (pL d)) (kn c) (kn t)) else -1
def cGet (x : cT) (w : Nat) : Int32 := match w with
  | 0 => nI x.1
  | 1 => nI x.2.1
  | 2 => nI x.2.2.1
  | _ => x.2.2.2 + nI 100000
def aCulprit (d : dT) (i w : Int32) : Int32 := if -1 ≤ i ∧ inN w 4 then (if i = -1 then nI (cuL d).length else if i < nI (cuL d).length then cGet ((cuL d).getD (kn i) (0, 0, 0, 0)) (kn w) else -4) else -1
def gGet (x : gT) (w : Nat) : Int32 := match w with
  | 0 => x.1
  | 1 => x.2.1
  | _ => x.2.2 + nI 100000
def aLedger (g : List gT) (i w : Int32) : Int32 := if -1 ≤ i ∧ inN w 3 then (if i = -1 then nI g.length else if i < nI g.length then gGet (g.getD (kn i) (0, 0, 0)) (kn w) else -4) else -1
def nrF (d : dT) (c : Nat) (k : Int32) : Nat := srch (fun o => decide (o ≠ c) && decide (nI (rnk d c o) = k)) 0 (dK d)
def aNearest (d : dT) (c k : Int32) : Int32 := if inN c (dK d) ∧ ¬ k < 0 then (if nrF d (kn c) k < dK d then nI (nrF d (kn c) k) else -4) else -1
def aPair (d : dT) (u v : Int32) : Int32 := if tw d u v then (if prb d (kn u) (kn v) then 1 else 0) else -1
def dirI (a b : Int32) : Int32 := if a = b then 0 else if a < b then 1 else -1
def rsIn (d : dT) (c t : Nat) : Nat → Int32
  | 0 => 0
  | y + 1 => rsIn d c t y + (match dV d c y, dV d c t with
    | some a, some b => dirI a b
    | _, _ => 0)
def rsTo (d : dT) (c : Nat) : Nat → Int32
  | 0 => 0
  | t + 1 => rsTo d c t + rsIn d c t t
def aRise (d : dT) (c : Int32) : Int32 := if inN c (dK d) then rsTo d (kn c) (dY d) + nI 100000 else -1
def eOk (d : dT) (c t o : Nat) : Bool := decide (o ≠ c) && ((dV d o t).isSome && (prb d c o && decide (0 < (ser d c o).length)))
def eVal (d : dT) (c t o : Nat) : Int64 := 720720 * ((dV d o t).getD 0).toInt64 + mea (ser d c o) 0 (ser d c o).length
def eSum (d : dT) (c t : Nat) : Nat → Int64
  | 0 => 0
  | o + 1 => if eOk d c t o then eSum d c t o + eVal d c t o else eSum d c t o
def eNum (d : dT) (c t : Nat) : Nat → Nat
  | 0 => 0
  | o + 1 => if eOk d c t o then eNum d c t o + 1 else eNum d c t o
theorem eNum_le (d : dT) (c t : Nat) : ∀ n, eNum d c t n ≤ n
  | 0 => Nat.le_refl 0
  | n + 1 => by
    have := eNum_le d c t n
    unfold eNum; split <;> omega
def eRes (d : dT) (c t : Nat) : Int32 := rmean (eSum d c t (dK d)) (eNum d c t (dK d))
def aEst (d : dT) (c t : Int32) : Int32 := if ck d c t then (if (dV d (kn c) (kn t)).isSome then -2 else if eNum d (kn c) (kn t) (dK d) = 0 then -4 else eRes d (kn c) (kn t) + nI 100000) else -1
def aCount (s : sT) (w : Int32) : Int32 := if w = 0 then nI (dK (sD s)) else if w = 1 then nI (dY (sD s)) else if w = 2 then nI (dR (sD s) 4) else if w = 3 then nI (dR (sD s) 0) else if w = 4 then nI (dR (sD s) 1) else if w = 5 then nI (dR (sD s) 2) else if w = 6 then nI (dR (sD s) 3) else if w = 7 then nI (cpTo (sD s) (dK (sD s))) else if w = 8 then nI (msTo (sD s) (dK (sD s))) else if w = 9 then nI (sA s).length else if w = 10 then nI (sX s).length else -1
