
-- ===== a world of a fixed shape: objects by numbers, their ints and longs by object and place =====
abbrev qMem : Type := (Nat → Nat → Int32) × (Nat → Nat → Int64)
abbrev qShp : Type := (Nat × List (Option Nat)) ⊕ (Nat × Nat × Nat)
abbrev qWT : Type := Launch × va_G × (Nat → Nat) × (Nat → ClassId)
def q_l (w : qWT) : Launch := w.1
def q_D (w : qWT) : va_G := w.2.1
def q_a (w : qWT) : Nat → Nat := w.2.2.1
def q_k (w : qWT) : Nat → ClassId := w.2.2.2
-- a method: name, bytes, locals, answer, frames and words of locals below it
abbrev qMT : Type := MethodName × ByteArray × Nat × Option FieldType × Nat × Nat
def m_y (t : qMT) : MethodName := t.1
def m_b (t : qMT) : ByteArray := t.2.1
def m_n (t : qMT) : Nat := t.2.2.1
def m_r (t : qMT) : Option FieldType := t.2.2.2.1
def m_rm (t : qMT) : Room := { frames := t.2.2.2.2.1, cells := 0, slots := 0, locals := t.2.2.2.2.2 }
def qshX (o : Nat) : qShp := (bif Nat.blt o 58 then (bif Nat.blt o 29 then (bif Nat.blt o 14 then (bif Nat.blt o 7 then (bif Nat.blt o 3 then (bif Nat.blt o 1 then .inl (7, [some 1, some 14, some 101, some 30, some 36, some 90, some 96]) else (bif Nat.blt o 2 then .inl (4, [some 2, none, some 3]) else .inr (200, 1, 0))) else (bif Nat.blt o 5 then (bif Nat.blt o 4 then .inl (3, [none, none, some 4, some 5, some 6, none, some 7, none]) else .inr (6, 0, 0)) else (bif Nat.blt o 6 then .inr (6, 0, 0) else .inr (6, 3, 8)))) else (bif Nat.blt o 10 then (bif Nat.blt o 8 then .inr (4, 0, 0) else (bif Nat.blt o 9 then .inr (16, 0, 0) else .inr (16, 0, 0))) else (bif Nat.blt o 12 then (bif Nat.blt o 11 then .inr (16, 0, 0) else .inr (16, 0, 0)) else (bif Nat.blt o 13 then .inr (16, 0, 0) else .inr (16, 0, 0))))) else (bif Nat.blt o 21 then (bif Nat.blt o 17 then (bif Nat.blt o 15 then .inl (3, [none, none, some 15, some 16, some 17, none, some 18, none]) else (bif Nat.blt o 16 then .inr (6, 0, 0) else .inr (6, 0, 0))) else (bif Nat.blt o 19 then (bif Nat.blt o 18 then .inr (6, 3, 19) else .inr (4, 0, 0)) else (bif Nat.blt o 20 then .inr (16, 0, 0) else .inr (16, 0, 0)))) else (bif Nat.blt o 25 then (bif Nat.blt o 23 then (bif Nat.blt o 22 then .inr (16, 0, 0) else .inr (16, 0, 0)) else (bif Nat.blt o 24 then .inr (16, 0, 0) else .inr (16, 0, 0))) else (bif Nat.blt o 27 then (bif Nat.blt o 26 then .inl (6, [none, some 26, some 27, some 28, some 29]) else .inr (16, 0, 0)) else (bif Nat.blt o 28 then .inr (16, 0, 0) else .inr (17, 2, 0)))))) else (bif Nat.blt o 43 then (bif Nat.blt o 36 then (bif Nat.blt o 32 then (bif Nat.blt o 30 then .inr (17, 2, 0) else (bif Nat.blt o 31 then .inl (5, [some 25, some 31, some 32, some 33, some 34, some 35]) else .inr (17, 2, 0))) else (bif Nat.blt o 34 then (bif Nat.blt o 33 then .inr (17, 0, 0) else .inr (17, 0, 0)) else (bif Nat.blt o 35 then .inr (17, 2, 0) else .inr (18, 0, 0)))) else (bif Nat.blt o 39 then (bif Nat.blt o 37 then .inl (0, [some 111, none, none, some 37, some 38, some 39, some 40, some 41, some 42, none, some 43]) else (bif Nat.blt o 38 then .inr (15, 0, 0) else .inr (15, 0, 0))) else (bif Nat.blt o 41 then (bif Nat.blt o 40 then .inr (15, 3, 44) else .inr (15, 4, 59)) else (bif Nat.blt o 42 then .inr (6, 3, 74) else .inr (6, 3, 80))))) else (bif Nat.blt o 50 then (bif Nat.blt o 46 then (bif Nat.blt o 44 then .inr (4, 3, 86) else (bif Nat.blt o 45 then .inr (16, 0, 0) else .inr (16, 0, 0))) else (bif Nat.blt o 48 then (bif Nat.blt o 47 then .inr (16, 0, 0) else .inr (16, 0, 0)) else (bif Nat.blt o 49 then .inr (16, 0, 0) else .inr (16, 0, 0)))) else (bif Nat.blt o 54 then (bif Nat.blt o 52 then (bif Nat.blt o 51 then .inr (16, 0, 0) else .inr (16, 0, 0)) else (bif Nat.blt o 53 then .inr (16, 0, 0) else .inr (16, 0, 0))) else (bif Nat.blt o 56 then (bif Nat.blt o 55 then .inr (16, 0, 0) else .inr (16, 0, 0)) else (bif Nat.blt o 57 then .inr (16, 0, 0) else .inr (16, 0, 0))))))) else (bif Nat.blt o 87 then (bif Nat.blt o 72 then (bif Nat.blt o 65 then (bif Nat.blt o 61 then (bif Nat.blt o 59 then .inr (16, 0, 0) else (bif Nat.blt o 60 then .inr (16, 2, 0) else .inr (16, 2, 0))) else (bif Nat.blt o 63 then (bif Nat.blt o 62 then .inr (16, 2, 0) else .inr (16, 2, 0)) else (bif Nat.blt o 64 then .inr (16, 2, 0) else .inr (16, 2, 0)))) else (bif Nat.blt o 68 then (bif Nat.blt o 66 then .inr (16, 2, 0) else (bif Nat.blt o 67 then .inr (16, 2, 0) else .inr (16, 2, 0))) else (bif Nat.blt o 70 then (bif Nat.blt o 69 then .inr (16, 2, 0) else .inr (16, 2, 0)) else (bif Nat.blt o 71 then .inr (16, 2, 0) else .inr (16, 2, 0))))) else (bif Nat.blt o 79 then (bif Nat.blt o 75 then (bif Nat.blt o 73 then .inr (16, 2, 0) else (bif Nat.blt o 74 then .inr (16, 2, 0) else .inr (16, 0, 0))) else (bif Nat.blt o 77 then (bif Nat.blt o 76 then .inr (16, 0, 0) else .inr (16, 0, 0)) else (bif Nat.blt o 78 then .inr (16, 0, 0) else .inr (16, 0, 0)))) else (bif Nat.blt o 83 then (bif Nat.blt o 81 then (bif Nat.blt o 80 then .inr (16, 0, 0) else .inr (16, 0, 0)) else (bif Nat.blt o 82 then .inr (16, 0, 0) else .inr (16, 0, 0))) else (bif Nat.blt o 85 then (bif Nat.blt o 84 then .inr (16, 0, 0) else .inr (16, 0, 0)) else (bif Nat.blt o 86 then .inr (16, 0, 0) else .inr (96, 0, 0)))))) else (bif Nat.blt o 102 then (bif Nat.blt o 94 then (bif Nat.blt o 90 then (bif Nat.blt o 88 then .inr (96, 0, 0) else (bif Nat.blt o 89 then .inr (96, 0, 0) else .inr (96, 0, 0))) else (bif Nat.blt o 92 then (bif Nat.blt o 91 then .inl (1, [some 91, none, none]) else .inr (4, 3, 92)) else (bif Nat.blt o 93 then .inr (8, 0, 0) else .inr (8, 0, 0)))) else (bif Nat.blt o 98 then (bif Nat.blt o 96 then (bif Nat.blt o 95 then .inr (8, 0, 0) else .inr (8, 0, 0)) else (bif Nat.blt o 97 then .inl (2, [some 97, none]) else .inr (3, 3, 98))) else (bif Nat.blt o 100 then (bif Nat.blt o 99 then .inr (10, 0, 0) else .inr (10, 0, 0)) else (bif Nat.blt o 101 then .inr (10, 0, 0) else .inl (6, [none, some 102, some 103, some 104, some 105]))))) else (bif Nat.blt o 109 then (bif Nat.blt o 105 then (bif Nat.blt o 103 then .inr (16, 0, 0) else (bif Nat.blt o 104 then .inr (16, 0, 0) else .inr (17, 2, 0))) else (bif Nat.blt o 107 then (bif Nat.blt o 106 then .inr (17, 2, 0) else .inl (6, [none, some 107, some 108, some 109, some 110])) else (bif Nat.blt o 108 then .inr (16, 0, 0) else .inr (16, 0, 0)))) else (bif Nat.blt o 113 then (bif Nat.blt o 111 then (bif Nat.blt o 110 then .inr (17, 2, 0) else .inr (17, 2, 0)) else (bif Nat.blt o 112 then .inl (5, [some 106, some 112, some 113, some 114, some 115, some 116]) else .inr (17, 2, 0))) else (bif Nat.blt o 115 then (bif Nat.blt o 114 then .inr (17, 0, 0) else .inr (17, 0, 0)) else (bif Nat.blt o 116 then .inr (17, 2, 0) else .inr (18, 0, 0))))))))
def qshM (o : Nat) : qShp := (bif Nat.blt o 10 then (bif Nat.blt o 5 then (bif Nat.blt o 2 then (bif Nat.blt o 1 then .inl (8, [none, some 1, none, none, some 2, some 3, some 4, none, none, some 5, some 6, some 7, some 8, none, some 9, none, none, some 10, some 11, some 12, none, some 13, none, some 14, some 15, none, some 16, some 17, some 18, some 19, none]) else .inr (200, 0, 0)) else (bif Nat.blt o 3 then .inr (6, 0, 0) else (bif Nat.blt o 4 then .inr (6, 0, 0) else .inr (102, 0, 0)))) else (bif Nat.blt o 7 then (bif Nat.blt o 6 then .inr (6, 0, 0) else .inr (6, 0, 0)) else (bif Nat.blt o 8 then .inr (102, 0, 0) else (bif Nat.blt o 9 then .inr (816, 0, 0) else .inr (30, 0, 0))))) else (bif Nat.blt o 15 then (bif Nat.blt o 12 then (bif Nat.blt o 11 then .inr (16, 2, 0) else .inr (16, 0, 0)) else (bif Nat.blt o 13 then .inr (272, 2, 0) else (bif Nat.blt o 14 then .inr (16, 0, 0) else .inr (36, 0, 0)))) else (bif Nat.blt o 17 then (bif Nat.blt o 16 then .inr (36, 0, 0) else .inr (96, 0, 0)) else (bif Nat.blt o 18 then .inr (96, 0, 0) else (bif Nat.blt o 19 then .inr (96, 0, 0) else .inr (96, 0, 0))))))
def qsh (g o : Nat) : qShp := match g with
  | 0 => qshX o
  | _ => qshM o
def qN (g : Nat) : Nat := match g with
  | 0 => 117
  | _ => 20
theorem sh_val3 {j : Nat} (h : j < 6) : qsh 0 (8 + j) = .inr (16, 0, 0) := (show ∀ j : Fin 6, qsh 0 (8 + j.val) = .inr (16, 0, 0) by decide +kernel) ⟨j, h⟩
theorem sh_val14 {j : Nat} (h : j < 6) : qsh 0 (19 + j) = .inr (16, 0, 0) := (show ∀ j : Fin 6, qsh 0 (19 + j.val) = .inr (16, 0, 0) by decide +kernel) ⟨j, h⟩
theorem sh_opn {j : Nat} (h : j < 15) : qsh 0 (44 + j) = .inr (16, 0, 0) := (show ∀ j : Fin 15, qsh 0 (44 + j.val) = .inr (16, 0, 0) by decide +kernel) ⟨j, h⟩
theorem sh_shf {j : Nat} (h : j < 15) : qsh 0 (59 + j) = .inr (16, 2, 0) := (show ∀ j : Fin 15, qsh 0 (59 + j.val) = .inr (16, 2, 0) by decide +kernel) ⟨j, h⟩
theorem sh_cas {j : Nat} (h : j < 6) : qsh 0 (74 + j) = .inr (16, 0, 0) := (show ∀ j : Fin 6, qsh 0 (74 + j.val) = .inr (16, 0, 0) by decide +kernel) ⟨j, h⟩
theorem sh_lef {j : Nat} (h : j < 6) : qsh 0 (80 + j) = .inr (16, 0, 0) := (show ∀ j : Fin 6, qsh 0 (80 + j.val) = .inr (16, 0, 0) by decide +kernel) ⟨j, h⟩
theorem sh_fnd {j : Nat} (h : j < 4) : qsh 0 (86 + j) = .inr (96, 0, 0) := (show ∀ j : Fin 4, qsh 0 (86 + j.val) = .inr (96, 0, 0) by decide +kernel) ⟨j, h⟩
theorem sh_prt {j : Nat} (h : j < 4) : qsh 0 (92 + j) = .inr (8, 0, 0) := (show ∀ j : Fin 4, qsh 0 (92 + j.val) = .inr (8, 0, 0) by decide +kernel) ⟨j, h⟩
theorem sh_col {j : Nat} (h : j < 3) : qsh 0 (98 + j) = .inr (10, 0, 0) := (show ∀ j : Fin 3, qsh 0 (98 + j.val) = .inr (10, 0, 0) by decide +kernel) ⟨j, h⟩

def qtys (w : qWT) : List (ClassId × FieldType) := [(q_k w 0, .int), (q_k w 1, .char), (q_k w 2, .long), (q_k w 3, .array .int), (q_k w 4, .array .long)]
def qfl (w : qWT) (M : qMem) (o : Nat) : Nat → List (Option Nat) → List Value
  | _, [] => []
  | k, none :: t => .int (M.1 o k) :: qfl w M o (k + 1) t
  | k, some r :: t => .ref (q_a w r) :: qfl w M o (k + 1) t
def qcell (w : qWT) (M : qMem) (o : Nat) : qShp → va_E
  | .inl (ci, fl) => .inr (ci, qfl w M o 0 fl)
  | .inr (n, 0, _) => .inl (q_k w 0, n, .inl (M.1 o))
  | .inr (n, 1, _) => .inl (q_k w 1, n, .inl (M.1 o))
  | .inr (n, 2, _) => .inl (q_k w 2, n, .inr (.inl (M.2 o)))
  | .inr (n, 3, b) => .inl (q_k w 3, n, .inr (.inr (.inr (.inr (fun j => some (q_a w (b + j)))))))
  | .inr (n, _, b) => .inl (q_k w 4, n, .inr (.inr (.inr (.inr (fun j => some (q_a w (b + j)))))))
def qws (g : Nat) (w : qWT) (M : qMem) : va_W := (List.range (qN g)).map (fun o => (q_a w o, qcell w M o (qsh g o)))
theorem qws_at {g : Nat} {w : qWT} {M : qMem} {o : Nat} (h : o < qN g) : (qws g w M)[o]? = some (q_a w o, qcell w M o (qsh g o)) := by
  unfold qws
  rw [List.getElem?_map, List.getElem?_range h]; rfl
theorem qws_len {g : Nat} {w : qWT} {M : qMem} : (qws g w M).length = qN g := by simp [qws]
def qIs (M : qMem) (o k : Nat) (x : Int32) : qMem := (fun a j => if a = o ∧ j = k then x else M.1 a j, M.2)
def qLs (M : qMem) (o k : Nat) (x : Int64) : qMem := (M.1, fun a j => if a = o ∧ j = k then x else M.2 a j)
theorem qIs_eq (M : qMem) (o k : Nat) (x : Int32) : (qIs M o k x).1 o k = x := by simp [qIs]
theorem qIs_1 (M : qMem) (o k a j : Nat) (x : Int32) : (qIs M o k x).1 a j = if a = o ∧ j = k then x else M.1 a j := rfl
theorem qIs_2 (M : qMem) (o k : Nat) (x : Int32) : (qIs M o k x).2 = M.2 := rfl
theorem qLs_1 (M : qMem) (o k : Nat) (x : Int64) : (qLs M o k x).1 = M.1 := rfl
theorem qLs_2 (M : qMem) (o k a j : Nat) (x : Int64) : (qLs M o k x).2 a j = if a = o ∧ j = k then x else M.2 a j := rfl
theorem qLs_eq (M : qMem) (o k : Nat) (x : Int64) : (qLs M o k x).2 o k = x := by simp [qLs]
theorem qIs_no {M : qMem} {o k a : Nat} {x : Int32} (h : a ≠ o) : (qIs M o k x).1 a = M.1 a := by
  funext j; simp [qIs, h]
theorem qIs_nk {M : qMem} {o k a j : Nat} {x : Int32} (h : j ≠ k) : (qIs M o k x).1 a j = M.1 a j := by simp [qIs, h]
theorem qLs_no {M : qMem} {o k a : Nat} {x : Int64} (h : a ≠ o) : (qLs M o k x).2 a = M.2 a := by
  funext j; simp [qLs, h]
theorem qLs_nk {M : qMem} {o k a j : Nat} {x : Int64} (h : j ≠ k) : (qLs M o k x).2 a j = M.2 a j := by simp [qLs, h]
theorem qIs_u (M : qMem) (o k : Nat) (x : Int32) : (qIs M o k x).1 o = upd (M.1 o) k x := by
  funext j; simp [qIs, upd]
theorem qLs_u (M : qMem) (o k : Nat) (x : Int64) : (qLs M o k x).2 o = vp_updL (M.2 o) k x := by
  funext j; simp [qLs, vp_updL]
theorem qfl_cong {w : qWT} {M N : qMem} {o : Nat} (h : M.1 o = N.1 o) : ∀ (fl : List (Option Nat)) (k : Nat), qfl w M o k fl = qfl w N o k fl
  | [], _ => rfl
  | none :: t, k => by simp only [qfl, h, qfl_cong h t]
  | some _ :: t, k => by simp only [qfl, qfl_cong h t]
theorem qcell_cong {w : qWT} {M N : qMem} {o : Nat} (h1 : M.1 o = N.1 o) (h2 : M.2 o = N.2 o) (s : qShp) : qcell w M o s = qcell w N o s := by
  rcases s with ⟨ci, fl⟩ | ⟨n, k, b⟩
  · simp only [qcell, qfl_cong h1]
  · match k with
    | 0 | 1 | 2 | 3 | (k + 4) => simp only [qcell, h1, h2]
theorem qws_set {g : Nat} {w : qWT} {M N : qMem} {o : Nat} {e : va_E} (h : o < qN g) (he : qcell w N o (qsh g o) = e) (h1 : ∀ a, a ≠ o → M.1 a = N.1 a) (h2 : ∀ a, a ≠ o → M.2 a = N.2 a) : (qws g w M).set o (q_a w o, e) = qws g w N := by
  apply List.ext_getElem?
  intro k
  by_cases hk : k = o
  · subst hk
    rw [List.getElem?_set_self (by rw [qws_len]; exact h), qws_at h, he]
  · rw [List.getElem?_set_ne (Ne.symm hk)]
    by_cases hl : k < qN g
    · rw [qws_at hl, qws_at hl, qcell_cong (h1 k hk) (h2 k hk)]
    · rw [List.getElem?_eq_none (by rw [qws_len]; omega), List.getElem?_eq_none (by rw [qws_len]; omega)]
def qfV (M : qMem) (o k : Nat) : Option Nat → Value
  | none => .int (M.1 o k)
  | some r => .ref r
theorem qfl_get {w : qWT} {M : qMem} {o : Nat} : ∀ {fl : List (Option Nat)} {k j : Nat} {f : Option Nat}, fl[j]? = some f → (qfl w M o k fl)[j]? = some (match f with | none => .int (M.1 o (k + j)) | some r => .ref (q_a w r))
  | none :: t, k, 0, f, h => by cases h; rfl
  | some r :: t, k, 0, f, h => by cases h; rfl
  | none :: t, k, j + 1, f, h => by
    rw [qfl, List.getElem?_cons_succ, qfl_get (k := k + 1) (by simpa using h)]
    rw [show k + 1 + j = k + (j + 1) by omega]
  | some r :: t, k, j + 1, f, h => by
    rw [qfl, List.getElem?_cons_succ, qfl_get (k := k + 1) (by simpa using h)]
    rw [show k + 1 + j = k + (j + 1) by omega]
theorem qfl_len {w : qWT} {M : qMem} {o : Nat} : ∀ (fl : List (Option Nat)) (k : Nat), (qfl w M o k fl).length = fl.length
  | [], _ => rfl
  | none :: t, k => by simp only [qfl, List.length_cons, qfl_len t]
  | some _ :: t, k => by simp only [qfl, List.length_cons, qfl_len t]
theorem qfl_set {w : qWT} {M : qMem} {o j : Nat} {x : Int32} {fl : List (Option Nat)} (h : fl[j]? = some none) : (qfl w M o 0 fl).set j (.int x) = qfl w (qIs M o j x) o 0 fl := by
  have hl : j < fl.length := (List.getElem?_eq_some_iff.mp h).1
  apply List.ext_getElem?
  intro k
  by_cases hk : k = j
  · subst hk
    rw [List.getElem?_set_self (by rw [qfl_len]; exact hl), qfl_get h]
    simp [qIs]
  · rw [List.getElem?_set_ne (Ne.symm hk)]
    cases hf : fl[k]? with
    | none =>
      have := List.getElem?_eq_none_iff.mp hf
      rw [List.getElem?_eq_none (by rw [qfl_len]; exact this), List.getElem?_eq_none (by rw [qfl_len]; exact this)]
    | some f =>
      rw [qfl_get hf, qfl_get hf]
      cases f with
      | none => simp [qIs, hk]
      | some r => rfl
-- what the tables give to all methods
def qW : List Cond := lw_tbl.filter goodWord
theorem qW_t {i : Nat} {w : Cond} (h : tables_1[i]? = some w) (hg : goodWord w = true) : w ∈ qW := List.mem_filter.mpr ⟨List.mem_append_right _ (List.mem_of_getElem? h), hg⟩
theorem qW_p {i : Nat} {w : Cond} (h : (k2_sels lw_privs)[i]? = some w) (hg : goodWord w = true) : w ∈ qW := List.mem_filter.mpr ⟨List.mem_append_left _ (List.mem_of_getElem? h), hg⟩
theorem qW_good : GoodIn qW qW := fun w h => ⟨h, good_of_word (List.mem_filter.mp h).2⟩
def q_n1 : Cond := .methodLinkNest "ShiftMender$Script" 75 yX7_isRule "ShiftMender"
def q_n2 : Cond := .methodLinkNest "ShiftMender$Culprits" 114 yX7_roundedMean "ShiftMender"
def q_n3 : Cond := .methodLinkNest "ShiftMender$Records" 51 yX7_isValue "ShiftMender"
def q_n4 : Cond := .fieldLinkNest "ShiftMender$Records" 36 "ShiftMender" "USUAL_RULE" "[I" "ShiftMender"
def qNest (U : State) : Prop := va_Nw q_n1 U ∧ va_Nw q_n2 U ∧ va_Nw q_n3 U ∧ va_Nw q_n4 U
def qtab : Nat → Nat → Int32
  | 0, 3 => 0
  | 0, _ => 1
  | 1, 0 => 4
  | 1, 3 => 2
  | 1, _ => 5
  | _, 1 => 3
  | _, 3 => 0
  | _, _ => 2
def qtn : Nat → String
  | 0 => "LEAST_RULE"
  | 1 => "GREATEST_RULE"
  | _ => "USUAL_RULE"
def qStat (w : qWT) (A : Nat → Prop) (U : State) (H : Heap) : Prop := ∀ k, k < 3 → va_Z "ShiftMender" (qtn k) "[I" (.ref (q_a w (1000 + k))) A U H ∧ va_T .int (q_a w (1000 + k)) 4 (fun j => .int (qtab k j)) A U H
def qA (g : Nat) (w : qWT) (sz : Nat) : Nat → Prop := fun q => (∃ o, o < qN g ∧ q = q_a w o) ∨ sz ≤ q
theorem qA_in {g : Nat} {w : qWT} {sz o : Nat} (h : o < qN g) : qA g w sz (q_a w o) := Or.inl ⟨o, h, rfl⟩
theorem qA_mono {g : Nat} {w : qWT} {s1 s2 : Nat} (h : s1 ≤ s2) {q : Nat} (hq : qA g w s2 q) : qA g w s1 q := hq.elim Or.inl (fun z => Or.inr (Nat.le_trans h z))
theorem qNest_moved {u U : State} (hW : u.WarmedH U.vm) (h : qNest u) : qNest U := ⟨va_Nw.warmM hW h.1, va_Nw.warmM hW h.2.1, va_Nw.warmM hW h.2.2.1, va_Nw.warmF hW h.2.2.2⟩
theorem qNest_same {u U : State} (hv : u.vm = U.vm) (h : qNest u) : qNest U := ⟨va_Nw.same rfl hv h.1, va_Nw.same rfl hv h.2.1, va_Nw.same rfl hv h.2.2.1, va_Nw.same rfl hv h.2.2.2⟩
theorem qStat_moved {w : qWT} {A : Nat → Prop} {u U : State} {H : Heap} (hvm : u.vm.Alike U.vm) (h : qStat w A u H) : qStat w A U H := fun k hk => ⟨va_Z.moved hvm (h k hk).1, va_T.moved hvm (h k hk).2⟩
theorem qStat_kept {w : qWT} {A : Nat → Prop} {U : State} {H H1 : Heap} (h : qStat w A U H) (hq : ∀ a : Nat, a < H.size → ¬ A a → H1[a]? = H[a]?) : qStat w A U H1 := fun k hk => ⟨va_Z.kept (h k hk).1 hq, va_T.kept (h k hk).2 hq⟩
theorem qStat_narrow {w : qWT} {A B : Nat → Prop} {U : State} {H : Heap} (h : qStat w A U H) (hAB : ∀ q, B q → A q) : qStat w B U H := fun k hk => ⟨va_Z.narrow (h k hk).1 hAB, va_T.narrow (h k hk).2 hAB⟩
-- abstract values: a reference is an object's number
def qcv (w : qWT) : Value → Value
  | .ref i => .ref (q_a w i)
  | v => v
theorem qcv_cat (w : qWT) (v : Value) : (qcv w v).category = v.category := by cases v <;> rfl
def qcL (w : qWT) (L : List (Nat × Value)) : List (Nat × Value) := L.map (fun q => (q.1, qcv w q.2))
def qget : List (Nat × Value) → Nat → Option Value
  | [], _ => none
  | (i, v) :: t, k => match Nat.beq i k with
    | true => some v
    | false => qget t k
theorem qget_mem : ∀ {L : List (Nat × Value)} {k : Nat} {v : Value}, qget L k = some v → (k, v) ∈ L
  | (i, x) :: t, k, v, h => by
    unfold qget at h
    cases hb : Nat.beq i k with
    | true =>
      rw [hb] at h
      have e := Nat.eq_of_beq_eq_true hb
      subst e
      cases h
      exact List.mem_cons_self
    | false =>
      rw [hb] at h
      exact List.mem_cons_of_mem _ (qget_mem h)
theorem qget_at {w : qWT} {lsA : Array Slot} {n : Nat} {L : List (Nat × Value)} (h : lv_has lsA n (qcL w L)) {k : Nat} {v : Value} (hk : qget L k = some v) : lsA[k]? = some (.val (qcv w v)) := h.2.2 (k, qcv w v) (List.mem_map.mpr ⟨(k, v), qget_mem hk, rfl⟩)
def qput (L : List (Nat × Value)) (i : Nat) (v : Value) : List (Nat × Value) := (i, v) :: L.filter (fun q => !(q.1 == i) && !(q.1 + 1 == i && q.2.category == 2))
def qput2 (L : List (Nat × Value)) (i : Nat) (v : Value) : List (Nat × Value) := (i, v) :: L.filter (fun q => !(q.1 == i) && (!(q.1 == i + 1) && !(q.1 + 1 == i && q.2.category == 2)))
def qsub (L : List (Nat × Value)) (L' : List (Nat × Value)) : Prop := ∀ q ∈ L', qget L q.1 = some q.2
theorem qs0 {L : List (Nat × Value)} : qsub L [] := fun _ h => absurd h List.not_mem_nil
theorem qs1 {L T : List (Nat × Value)} {i : Nat} {v : Value} (h : qget L i = some v) (t : qsub L T) : qsub L ((i, v) :: T) := fun q hq => (List.mem_cons.mp hq).elim (fun e => by rw [e]; exact h) (t q)
theorem qsub_has {w : qWT} {lsA : Array Slot} {n : Nat} {L L' : List (Nat × Value)} (h : lv_has lsA n (qcL w L)) (hs : qsub L L') : lv_has lsA n (qcL w L') := by
  refine ⟨h.1, h.2.1, fun q hq => ?_⟩
  obtain ⟨z, hz, rfl⟩ := List.mem_map.mp hq
  exact qget_at h (hs z hz)
theorem qcL_put {w : qWT} {L : List (Nat × Value)} {i : Nat} {v : Value} : (i, qcv w v) :: (qcL w L).filter (fun q => !(q.1 == i) && !(q.1 + 1 == i && q.2.category == 2)) = qcL w (qput L i v) := by
  unfold qcL qput
  rw [List.map_cons, List.filter_map]
  congr 3
  funext q
  simp [Function.comp, qcv_cat]
theorem qcL_put2 {w : qWT} {L : List (Nat × Value)} {i : Nat} {v : Value} : (i, qcv w v) :: (qcL w L).filter (fun q => !(q.1 == i) && (!(q.1 == i + 1) && !(q.1 + 1 == i && q.2.category == 2))) = qcL w (qput2 L i v) := by
  unfold qcL qput2
  rw [List.map_cons, List.filter_map]
  congr 3
  funext q
  simp [Function.comp, qcv_cat]
theorem q_args {w : qWT} : ∀ (vs : List Value) (i : Nat), lv_args i (vs.map (qcv w)) = qcL w (lv_args i vs)
  | [], i => rfl
  | v :: vs, i => by
    simp only [List.map_cons, lv_args, qcL, qcv_cat]
    congr 1
    exact q_args vs _
theorem q_sl {w : qWT} (vs : List Value) : (lg_sl (vs.map (qcv w))).length = (lg_sl vs).length := by
  unfold lg_sl
  induction vs with
  | nil => rfl
  | cons v t ih =>
    simp only [List.map_cons, List.flatMap_cons, List.length_append, ih, qcv_cat]
    split <;> rfl
-- ===== the walk's judgement, a method's contract =====
def qCtx (g : Nat) (w : qWT) (mt : qMT) (sz : Nat) (p : Program) (s : State) (m : MethodId) (args : Array Value) (meth : Method) (c : Code) : Prop :=
  p.tables.exec = Jvm.exec ∧ c.code = m_b mt ∧ c.maxLocals = m_n mt ∧ meth.sig.returnType = m_r mt ∧ meth.locks = false ∧ s.vm.findClass (m_y mt).cls = some m.cls ∧ (∀ z ∈ qW, z.before args s = true) ∧ s.heap.size = sz ∧ va_K (q_D w) vwCl (qtys w) s ∧ qNest s ∧ qStat w (qA g w sz) s s.heap
abbrev qQ : Type := Option Value → qMem → Prop
def qPost (g : Nat) (w : qWT) (sz : Nat) (Q : qQ) : Array Value → State → Outcome → State → Prop := fun _ st oc t =>
  (∃ (v : Option Value) (M' : qMem), oc = .returned (v.map (qcv w)) ∧ Q v M' ∧ va_P (q_D w) vwCl (qws g w M') t.heap ∧ va_D (qA g w sz) (qws g w M')) ∧ va_F (qA g w sz) st t
def qPre (g : Nat) (w : qWT) (sz : Nat) (M : qMem) (U : State) : Prop :=
  U.heap.size = sz ∧ va_P (q_D w) vwCl (qws g w M) U.heap ∧ va_K (q_D w) vwCl (qtys w) U ∧ va_D (fun _ => True) (qws g w M) ∧ qNest U ∧ qStat w (qA g w sz) U U.heap
def qSem (g : Nat) (mt : qMT) (av : List Value) (M : qMem) (Q : qQ) : Prop :=
  ∀ (w : qWT) (sz : Nat), Met (q_l w) (m_y mt) (Cond.code (m_y mt) (m_b mt) (m_n mt) (m_r mt) :: qW) (m_rm mt) (va_Pc (av.map (qcv w)) (qPre g w sz M)) (qPost g w sz Q) 0 0 (qA g w sz)
def qRW (g : Nat) (w : qWT) (mt : qMT) (pc : Nat) (L : List (Nat × Value)) (st : List Value) (M : qMem) (Q : qQ) : Prop :=
  ∀ (p : Program) (e : Env) (s : State) (m : MethodId) (args : Array Value) (below : List Frame) (meth : Method) (c : Code) (sz : Nat) (H : Heap) (locs : List Loc) (lsA : Array Slot),
    qCtx g w mt sz p s m args meth c → va_P (q_D w) vwCl (qws g w M) H → va_D (qA g w sz) (qws g w M) → va_S (qA g w sz) s.heap H locs → lv_has lsA (m_n mt) (qcL w L) →
    W p (q_l w) e (m_rm mt) s m args below meth c H locs 0 0 (MQ below (qPost g w sz Q) args s 0 0 (qA g w sz)) (F0 m pc lsA (st.map (qcv w)))
theorem qD_self {g : Nat} {w : qWT} {sz : Nat} {M : qMem} (h : va_D (fun _ => True) (qws g w M)) : va_D (qA g w sz) (qws g w M) := ⟨h.1, fun k q hk => by
  have hl : k < qN g := by rw [← qws_len (g := g) (w := w) (M := M)]; exact (List.getElem?_eq_some_iff.mp hk).1
  rw [qws_at hl] at hk
  cases hk
  exact qA_in hl⟩
theorem qD_mem {g : Nat} {w : qWT} {A : Nat → Prop} {M N : qMem} (h : va_D A (qws g w M)) : va_D A (qws g w N) := by
  have key : ∀ (k : Nat) (q : Nat × va_E), (qws g w N)[k]? = some q → (qws g w M)[k]? = some (q.1, qcell w M k (qsh g k)) := fun k q hk => by
    have hl : k < qN g := by rw [← qws_len (g := g) (w := w) (M := N)]; exact (List.getElem?_eq_some_iff.mp hk).1
    rw [qws_at hl] at hk
    cases hk
    exact qws_at hl
  exact ⟨fun i j a b hi hj hab => h.1 i j _ _ (key i a hi) (key j b hj) hab, fun k q hk => (h.2 k (q.1, qcell w M k (qsh g k)) (key k q hk) : A q.1)⟩
theorem qSem.of {g : Nat} {mt : qMT} {av : List Value} {M : qMem} {Q : qQ} (hp : plainName (m_y mt).cls = true) (hn : (lg_sl av).length ≤ m_n mt) (h : ∀ w : qWT, qRW g w mt 0 (lv_args 0 av) [] M Q) : qSem g mt av M Q := by
  intro w sz
  refine Met.ofW (cc := m_b mt) (maxL := m_n mt) (ret := m_r mt) hp rfl ?_
  intro p e s m args below meth c s₁ B hml hv
  obtain ⟨rfl, hsz, hP, hK, hD, hNs, hSt⟩ := hv
  have hts := atoms_spec (ws := Cond.code (m_y mt) (m_b mt) (m_n mt) (m_r mt) :: qW) B.pre
  rw [lg_entry_eq]
  have hl := lv_entry (av.map (qcv w)) (n := m_n mt) (by rw [q_sl]; exact hn)
  rw [q_args] at hl
  exact h w p e s m _ below meth c sz s.heap [] _ ⟨B.exec, B.bytes, hml, B.returns, B.notSynchronized, findClass_of_methodNamed B.named, fun z hz => hts z (List.mem_cons_of_mem _ hz), hsz, hK, hNs, hSt⟩ hP (qD_self hD) va_S.rf hl
theorem qSem.mono {g : Nat} {mt : qMT} {av : List Value} {M : qMem} {Q Q' : qQ} (h : qSem g mt av M Q) (hQ : ∀ v N, Q v N → Q' v N) : qSem g mt av M Q' := by
  intro w sz p e ha hc hk s m args below hf happ hP hK
  obtain ⟨k, o, h1, h2, h3, ⟨⟨v, M', e1, e2, e3⟩, e4⟩, h5⟩ := h w sz p e ha hc hk s m args below hf happ hP hK
  exact ⟨k, o, h1, h2, h3, ⟨⟨v, M', e1, hQ v M' e2, e3⟩, e4⟩, h5⟩
theorem q_fits {g : Nat} {w : qWT} {sz : Nat} {M : qMem} {av : List Value} : FrameBlind (va_Pc (av.map (qcv w)) (qPre g w sz M)) := fun a U gg mk q => by
  obtain ⟨q0, q1, q2, q3, q4, q5, q6⟩ := q
  exact ⟨q0, q1, q2, va_K.moved (u := U) (U := U.calling gg mk a) (Vm.Alike.refl U.vm) q3, q4, qNest_same rfl q5, qStat_moved (u := U) (U := U.calling gg mk a) (Vm.Alike.refl U.vm) q6⟩
section QR
variable {g : Nat} {w : qWT} {mt : qMT} {pc : Nat} {L : List (Nat × Value)} {st : List Value} {M : qMem} {Q : qQ}
theorem R_eq {st' : List Value} {M' : qMem} (hs : st = st') (hM : M = M') (kk : qRW g w mt pc L st' M' Q) : qRW g w mt pc L st M Q := by subst hs; subst hM; exact kk
theorem R_M {M' : qMem} (hM : M = M') (kk : qRW g w mt pc L st M' Q) : qRW g w mt pc L st M Q := by subst hM; exact kk
theorem R_ls {L' : List (Nat × Value)} (hs : qsub L L') (kk : qRW g w mt pc L' st M Q) : qRW g w mt pc L st M Q :=
  fun p e s m args below meth c sz H locs lsA C hP hD hS hL => kk p e s m args below meth c sz H locs lsA C hP hD hS (qsub_has hL hs)
theorem R_top {x y : Int32} (h : x = y) (kk : qRW g w mt pc L (.int y :: st) M Q) : qRW g w mt pc L (.int x :: st) M Q := by subst h; exact kk
theorem R_top2 {x y z : Int32} (h : x = y) (kk : qRW g w mt pc L (.int z :: .int y :: st) M Q) : qRW g w mt pc L (.int z :: .int x :: st) M Q := by subst h; exact kk
theorem R_topL {x y : Int64} (h : x = y) (kk : qRW g w mt pc L (.long y :: st) M Q) : qRW g w mt pc L (.long x :: st) M Q := by subst h; exact kk

theorem R_iload_n {k : Fin 4} {x : Int32} (hd : decode (m_b mt) pc = .ok (.iload_n k, 1)) (hl : qget L (k : Nat) = some (.int x)) (kk : qRW g w mt (pc + 1) L (.int x :: st) M Q) : qRW g w mt pc L st M Q :=
  fun p e s m args below meth c sz H locs lsA C hP hD hS hL => lv_iload_n C.1 C.2.1 hd rfl (qget_at hL hl) (kk p e s m args below meth c sz H locs lsA C hP hD hS hL)
theorem R_iload {i : Nat} {x : Int32} (hd : decode (m_b mt) pc = .ok (.iload i, 2)) (hl : qget L i = some (.int x)) (kk : qRW g w mt (pc + 2) L (.int x :: st) M Q) : qRW g w mt pc L st M Q :=
  fun p e s m args below meth c sz H locs lsA C hP hD hS hL => lv_iload C.1 C.2.1 hd (qget_at hL hl) (kk p e s m args below meth c sz H locs lsA C hP hD hS hL)
theorem R_lload_n {k : Fin 4} {x : Int64} (hd : decode (m_b mt) pc = .ok (.lload_n k, 1)) (hl : qget L (k : Nat) = some (.long x)) (kk : qRW g w mt (pc + 1) L (.long x :: st) M Q) : qRW g w mt pc L st M Q :=
  fun p e s m args below meth c sz H locs lsA C hP hD hS hL => lv_lload_n C.1 C.2.1 hd rfl (qget_at hL hl) (kk p e s m args below meth c sz H locs lsA C hP hD hS hL)
theorem R_lload {i : Nat} {x : Int64} (hd : decode (m_b mt) pc = .ok (.lload i, 2)) (hl : qget L i = some (.long x)) (kk : qRW g w mt (pc + 2) L (.long x :: st) M Q) : qRW g w mt pc L st M Q :=
  fun p e s m args below meth c sz H locs lsA C hP hD hS hL => lv_lload C.1 C.2.1 hd (qget_at hL hl) (kk p e s m args below meth c sz H locs lsA C hP hD hS hL)
theorem R_aload_n {k : Fin 4} {x : Nat} (hd : decode (m_b mt) pc = .ok (.aload_n k, 1)) (hl : qget L (k : Nat) = some (.ref x)) (kk : qRW g w mt (pc + 1) L (.ref x :: st) M Q) : qRW g w mt pc L st M Q :=
  fun p e s m args below meth c sz H locs lsA C hP hD hS hL => lv_aload_n C.1 C.2.1 hd rfl (qget_at hL hl) (kk p e s m args below meth c sz H locs lsA C hP hD hS hL)
theorem R_aload {i : Nat} {x : Nat} (hd : decode (m_b mt) pc = .ok (.aload i, 2)) (hl : qget L i = some (.ref x)) (kk : qRW g w mt (pc + 2) L (.ref x :: st) M Q) : qRW g w mt pc L st M Q :=
  fun p e s m args below meth c sz H locs lsA C hP hD hS hL => lv_aload C.1 C.2.1 hd (qget_at hL hl) (kk p e s m args below meth c sz H locs lsA C hP hD hS hL)
theorem R_istore_n {k : Fin 4} {x : Int32} {L' : List (Nat × Value)} (hd : decode (m_b mt) pc = .ok (.istore_n k, 1)) (hi : (k : Nat) < m_n mt) (hs : qsub (qput L (k : Nat) (.int x)) L') (kk : qRW g w mt (pc + 1) L' st M Q) : qRW g w mt pc L (.int x :: st) M Q :=
  fun p e s m args below meth c sz H locs lsA C hP hD hS hL => lv_istore_n C.1 C.2.1 hd rfl hL hi (qcL_put (v := .int x)) (fun ls' hL' => (kk p e s m args below meth c sz H locs ls' C hP hD hS (qsub_has hL' hs)))
theorem R_istore {i : Nat} {x : Int32} {L' : List (Nat × Value)} (hd : decode (m_b mt) pc = .ok (.istore i, 2)) (hi : i < m_n mt) (hs : qsub (qput L i (.int x)) L') (kk : qRW g w mt (pc + 2) L' st M Q) : qRW g w mt pc L (.int x :: st) M Q :=
  fun p e s m args below meth c sz H locs lsA C hP hD hS hL => lv_istore C.1 C.2.1 hd hL hi (qcL_put (v := .int x)) (fun ls' hL' => (kk p e s m args below meth c sz H locs ls' C hP hD hS (qsub_has hL' hs)))
theorem R_lstore_n {k : Fin 4} {x : Int64} {L' : List (Nat × Value)} (hd : decode (m_b mt) pc = .ok (.lstore_n k, 1)) (hi : (k : Nat) + 1 < m_n mt) (hs : qsub (qput2 L (k : Nat) (.long x)) L') (kk : qRW g w mt (pc + 1) L' st M Q) : qRW g w mt pc L (.long x :: st) M Q :=
  fun p e s m args below meth c sz H locs lsA C hP hD hS hL => lv_lstore_n C.1 C.2.1 hd rfl hL hi (qcL_put2 (v := .long x)) (fun ls' hL' => (kk p e s m args below meth c sz H locs ls' C hP hD hS (qsub_has hL' hs)))
theorem R_lstore {i : Nat} {x : Int64} {L' : List (Nat × Value)} (hd : decode (m_b mt) pc = .ok (.lstore i, 2)) (hi : i + 1 < m_n mt) (hs : qsub (qput2 L i (.long x)) L') (kk : qRW g w mt (pc + 2) L' st M Q) : qRW g w mt pc L (.long x :: st) M Q :=
  fun p e s m args below meth c sz H locs lsA C hP hD hS hL => lv_lstore C.1 C.2.1 hd hL hi (qcL_put2 (v := .long x)) (fun ls' hL' => (kk p e s m args below meth c sz H locs ls' C hP hD hS (qsub_has hL' hs)))
theorem R_iinc {i : Nat} {n : Int} {x v : Int32} {L' : List (Nat × Value)} (hd : decode (m_b mt) pc = .ok (.iinc i n, 3)) (hl : qget L i = some (.int x)) (hv : x + Int32.ofInt n = v) (hi : i < m_n mt) (hs : qsub (qput L i (.int v)) L') (kk : qRW g w mt (pc + 3) L' st M Q) : qRW g w mt pc L st M Q := by
  intro p e s m args below meth c sz H locs lsA C hP hD hS hL
  obtain ⟨k, hk⟩ := List.getElem?_of_mem (qget_mem hl)
  exact lv_iinc (k := k) C.1 C.2.1 hd hL (by unfold qcL; rw [List.getElem?_map, hk]; rfl) hv hi (qcL_put (v := .int v)) (fun ls' hL' => (kk p e s m args below meth c sz H locs ls' C hP hD hS (qsub_has hL' hs)))
theorem R_iconst {n : Int} {v : Int32} (hd : decode (m_b mt) pc = .ok (.iconst n, 1)) (hv : Int32.ofInt n = v) (kk : qRW g w mt (pc + 1) L (.int v :: st) M Q) : qRW g w mt pc L st M Q :=
  fun p e s m args below meth c sz H locs lsA C hP hD hS hL => lv_iconst C.1 C.2.1 hd hv (kk p e s m args below meth c sz H locs lsA C hP hD hS hL)
theorem R_bipush {n : Int} {v : Int32} (hd : decode (m_b mt) pc = .ok (.bipush n, 2)) (hv : (Int8.ofInt n).toInt32 = v) (kk : qRW g w mt (pc + 2) L (.int v :: st) M Q) : qRW g w mt pc L st M Q :=
  fun p e s m args below meth c sz H locs lsA C hP hD hS hL => lv_bipush C.1 C.2.1 hd hv (kk p e s m args below meth c sz H locs lsA C hP hD hS hL)
theorem R_sipush {n : Int} {v : Int32} (hd : decode (m_b mt) pc = .ok (.sipush n, 3)) (hv : (Int16.ofInt n).toInt32 = v) (kk : qRW g w mt (pc + 3) L (.int v :: st) M Q) : qRW g w mt pc L st M Q :=
  fun p e s m args below meth c sz H locs lsA C hP hD hS hL => lv_sipush C.1 C.2.1 hd hv (kk p e s m args below meth c sz H locs lsA C hP hD hS hL)
theorem R_lconst {n : Fin 2} {v : Int64} (hd : decode (m_b mt) pc = .ok (.lconst n, 1)) (hv : Int64.ofNat (n : Nat) = v) (kk : qRW g w mt (pc + 1) L (.long v :: st) M Q) : qRW g w mt pc L st M Q :=
  fun p e s m args below meth c sz H locs lsA C hP hD hS hL => lv_lconst C.1 C.2.1 hd hv (kk p e s m args below meth c sz H locs lsA C hP hD hS hL)
theorem R_ldc {i : Nat} {v : Int32} (hd : decode (m_b mt) pc = .ok (.ldc i, 2)) (hc : Cond.constant (m_y mt).cls i v ∈ qW) (kk : qRW g w mt (pc + 2) L (.int v :: st) M Q) : qRW g w mt pc L st M Q :=
  fun p e s m args below meth c sz H locs lsA C hP hD hS hL => lv_ldc C.1 C.2.1 C.2.2.2.2.2.1 (C.2.2.2.2.2.2.1 _ hc) hd (kk p e s m args below meth c sz H locs lsA C hP hD hS hL)
theorem R_ldc2 {i : Nat} {v : Int64} (hd : decode (m_b mt) pc = .ok (.ldc2_w i, 3)) (hc : Cond.constantLong (m_y mt).cls i v ∈ qW) (kk : qRW g w mt (pc + 3) L (.long v :: st) M Q) : qRW g w mt pc L st M Q :=
  fun p e s m args below meth c sz H locs lsA C hP hD hS hL => lv_ldc2 C.1 C.2.1 C.2.2.2.2.2.1 (C.2.2.2.2.2.2.1 _ hc) hd (kk p e s m args below meth c sz H locs lsA C hP hD hS hL)
theorem R_iadd {x y : Int32} (hd : decode (m_b mt) pc = .ok (.iadd, 1)) (kk : qRW g w mt (pc + 1) L (.int (x + y) :: st) M Q) : qRW g w mt pc L (.int y :: .int x :: st) M Q :=
  fun p e s m args below meth c sz H locs lsA C hP hD hS hL => lv_iadd C.1 C.2.1 hd (kk p e s m args below meth c sz H locs lsA C hP hD hS hL)
theorem R_isub {x y : Int32} (hd : decode (m_b mt) pc = .ok (.isub, 1)) (kk : qRW g w mt (pc + 1) L (.int (x - y) :: st) M Q) : qRW g w mt pc L (.int y :: .int x :: st) M Q :=
  fun p e s m args below meth c sz H locs lsA C hP hD hS hL => lv_isub C.1 C.2.1 hd (kk p e s m args below meth c sz H locs lsA C hP hD hS hL)
theorem R_imul {x y : Int32} (hd : decode (m_b mt) pc = .ok (.imul, 1)) (kk : qRW g w mt (pc + 1) L (.int (x * y) :: st) M Q) : qRW g w mt pc L (.int y :: .int x :: st) M Q :=
  fun p e s m args below meth c sz H locs lsA C hP hD hS hL => lv_imul C.1 C.2.1 hd (kk p e s m args below meth c sz H locs lsA C hP hD hS hL)
theorem R_iand {x y : Int32} (hd : decode (m_b mt) pc = .ok (.iand, 1)) (kk : qRW g w mt (pc + 1) L (.int (x &&& y) :: st) M Q) : qRW g w mt pc L (.int y :: .int x :: st) M Q :=
  fun p e s m args below meth c sz H locs lsA C hP hD hS hL => lv_iand C.1 C.2.1 hd (kk p e s m args below meth c sz H locs lsA C hP hD hS hL)
theorem R_ior {x y : Int32} (hd : decode (m_b mt) pc = .ok (.ior, 1)) (kk : qRW g w mt (pc + 1) L (.int (x ||| y) :: st) M Q) : qRW g w mt pc L (.int y :: .int x :: st) M Q :=
  fun p e s m args below meth c sz H locs lsA C hP hD hS hL => lv_ior C.1 C.2.1 hd (kk p e s m args below meth c sz H locs lsA C hP hD hS hL)
theorem R_ixor {x y : Int32} (hd : decode (m_b mt) pc = .ok (.ixor, 1)) (kk : qRW g w mt (pc + 1) L (.int (x ^^^ y) :: st) M Q) : qRW g w mt pc L (.int y :: .int x :: st) M Q :=
  fun p e s m args below meth c sz H locs lsA C hP hD hS hL => lv_ixor C.1 C.2.1 hd (kk p e s m args below meth c sz H locs lsA C hP hD hS hL)
theorem R_ishl {x y : Int32} (hd : decode (m_b mt) pc = .ok (.ishl, 1)) (kk : qRW g w mt (pc + 1) L (.int (x <<< (y &&& 31)) :: st) M Q) : qRW g w mt pc L (.int y :: .int x :: st) M Q :=
  fun p e s m args below meth c sz H locs lsA C hP hD hS hL => lv_ishl C.1 C.2.1 hd (kk p e s m args below meth c sz H locs lsA C hP hD hS hL)
theorem R_ishr {x y : Int32} (hd : decode (m_b mt) pc = .ok (.ishr, 1)) (kk : qRW g w mt (pc + 1) L (.int (x >>> (y &&& 31)) :: st) M Q) : qRW g w mt pc L (.int y :: .int x :: st) M Q :=
  fun p e s m args below meth c sz H locs lsA C hP hD hS hL => lv_ishr C.1 C.2.1 hd (kk p e s m args below meth c sz H locs lsA C hP hD hS hL)
theorem R_idiv {x y : Int32} (hd : decode (m_b mt) pc = .ok (.idiv, 1)) (hne : ¬ y = 0) (kk : qRW g w mt (pc + 1) L (.int (x / y) :: st) M Q) : qRW g w mt pc L (.int y :: .int x :: st) M Q :=
  fun p e s m args below meth c sz H locs lsA C hP hD hS hL => lv_idiv C.1 C.2.1 hd hne (kk p e s m args below meth c sz H locs lsA C hP hD hS hL)
theorem R_irem {x y : Int32} (hd : decode (m_b mt) pc = .ok (.irem, 1)) (hne : ¬ y = 0) (kk : qRW g w mt (pc + 1) L (.int (x - x / y * y) :: st) M Q) : qRW g w mt pc L (.int y :: .int x :: st) M Q :=
  fun p e s m args below meth c sz H locs lsA C hP hD hS hL => lv_irem C.1 C.2.1 hd hne (kk p e s m args below meth c sz H locs lsA C hP hD hS hL)
theorem R_ladd {x y : Int64} (hd : decode (m_b mt) pc = .ok (.ladd, 1)) (kk : qRW g w mt (pc + 1) L (.long (x + y) :: st) M Q) : qRW g w mt pc L (.long y :: .long x :: st) M Q :=
  fun p e s m args below meth c sz H locs lsA C hP hD hS hL => lv_ladd C.1 C.2.1 hd (kk p e s m args below meth c sz H locs lsA C hP hD hS hL)
theorem R_lsub {x y : Int64} (hd : decode (m_b mt) pc = .ok (.lsub, 1)) (kk : qRW g w mt (pc + 1) L (.long (x - y) :: st) M Q) : qRW g w mt pc L (.long y :: .long x :: st) M Q :=
  fun p e s m args below meth c sz H locs lsA C hP hD hS hL => lv_lsub C.1 C.2.1 hd (kk p e s m args below meth c sz H locs lsA C hP hD hS hL)
theorem R_lmul {x y : Int64} (hd : decode (m_b mt) pc = .ok (.lmul, 1)) (kk : qRW g w mt (pc + 1) L (.long (x * y) :: st) M Q) : qRW g w mt pc L (.long y :: .long x :: st) M Q :=
  fun p e s m args below meth c sz H locs lsA C hP hD hS hL => lv_lmul C.1 C.2.1 hd (kk p e s m args below meth c sz H locs lsA C hP hD hS hL)
theorem R_lxor {x y : Int64} (hd : decode (m_b mt) pc = .ok (.lxor, 1)) (kk : qRW g w mt (pc + 1) L (.long (x ^^^ y) :: st) M Q) : qRW g w mt pc L (.long y :: .long x :: st) M Q :=
  fun p e s m args below meth c sz H locs lsA C hP hD hS hL => lv_lxor C.1 C.2.1 hd (kk p e s m args below meth c sz H locs lsA C hP hD hS hL)
theorem R_ldiv {x y : Int64} (hd : decode (m_b mt) pc = .ok (.ldiv, 1)) (hne : ¬ y = 0) (kk : qRW g w mt (pc + 1) L (.long (x / y) :: st) M Q) : qRW g w mt pc L (.long y :: .long x :: st) M Q :=
  fun p e s m args below meth c sz H locs lsA C hP hD hS hL => lv_ldiv C.1 C.2.1 hd hne (kk p e s m args below meth c sz H locs lsA C hP hD hS hL)
theorem R_lrem {x y : Int64} (hd : decode (m_b mt) pc = .ok (.lrem, 1)) (hne : ¬ y = 0) (kk : qRW g w mt (pc + 1) L (.long (x - x / y * y) :: st) M Q) : qRW g w mt pc L (.long y :: .long x :: st) M Q :=
  fun p e s m args below meth c sz H locs lsA C hP hD hS hL => lv_lrem C.1 C.2.1 hd hne (kk p e s m args below meth c sz H locs lsA C hP hD hS hL)
theorem R_ineg {x : Int32} (hd : decode (m_b mt) pc = .ok (.ineg, 1)) (kk : qRW g w mt (pc + 1) L (.int (-x) :: st) M Q) : qRW g w mt pc L (.int x :: st) M Q :=
  fun p e s m args below meth c sz H locs lsA C hP hD hS hL => lv_ineg C.1 C.2.1 hd (kk p e s m args below meth c sz H locs lsA C hP hD hS hL)
theorem R_lneg {x : Int64} (hd : decode (m_b mt) pc = .ok (.lneg, 1)) (kk : qRW g w mt (pc + 1) L (.long (-x) :: st) M Q) : qRW g w mt pc L (.long x :: st) M Q :=
  fun p e s m args below meth c sz H locs lsA C hP hD hS hL => lv_lneg C.1 C.2.1 hd (kk p e s m args below meth c sz H locs lsA C hP hD hS hL)
theorem R_i2l {x : Int32} (hd : decode (m_b mt) pc = .ok (.i2l, 1)) (kk : qRW g w mt (pc + 1) L (.long x.toInt64 :: st) M Q) : qRW g w mt pc L (.int x :: st) M Q :=
  fun p e s m args below meth c sz H locs lsA C hP hD hS hL => lv_i2l C.1 C.2.1 hd rfl (kk p e s m args below meth c sz H locs lsA C hP hD hS hL)
theorem R_l2i {x : Int64} (hd : decode (m_b mt) pc = .ok (.l2i, 1)) (kk : qRW g w mt (pc + 1) L (.int x.toInt32 :: st) M Q) : qRW g w mt pc L (.long x :: st) M Q :=
  fun p e s m args below meth c sz H locs lsA C hP hD hS hL => lv_l2i C.1 C.2.1 hd rfl (kk p e s m args below meth c sz H locs lsA C hP hD hS hL)
theorem R_i2c {x : Int32} (hd : decode (m_b mt) pc = .ok (.i2c, 1)) (kk : qRW g w mt (pc + 1) L (.int (x.toUInt32 % 65536).toInt32 :: st) M Q) : qRW g w mt pc L (.int x :: st) M Q :=
  fun p e s m args below meth c sz H locs lsA C hP hD hS hL => lv_i2c C.1 C.2.1 hd rfl (kk p e s m args below meth c sz H locs lsA C hP hD hS hL)
theorem R_dup {v : Value} (hd : decode (m_b mt) pc = .ok (.dup, 1)) (hv : v.category = 1) (kk : qRW g w mt (pc + 1) L (v :: v :: st) M Q) : qRW g w mt pc L (v :: st) M Q :=
  fun p e s m args below meth c sz H locs lsA C hP hD hS hL => lv_dup C.1 C.2.1 hd (by rw [qcv_cat]; exact hv) (kk p e s m args below meth c sz H locs lsA C hP hD hS hL)
theorem R_pop {v : Value} (hd : decode (m_b mt) pc = .ok (.pop, 1)) (hv : v.category = 1) (kk : qRW g w mt (pc + 1) L (st) M Q) : qRW g w mt pc L (v :: st) M Q :=
  fun p e s m args below meth c sz H locs lsA C hP hD hS hL => lv_pop C.1 C.2.1 hd (by rw [qcv_cat]; exact hv) (kk p e s m args below meth c sz H locs lsA C hP hD hS hL)
theorem R_dup2 {v u : Value} (hd : decode (m_b mt) pc = .ok (.dup2, 1)) (hv : v.category = 1) (hu : u.category = 1) (kk : qRW g w mt (pc + 1) L (v :: u :: v :: u :: st) M Q) : qRW g w mt pc L (v :: u :: st) M Q :=
  fun p e s m args below meth c sz H locs lsA C hP hD hS hL => lv_dup2_11 C.1 C.2.1 hd (by rw [qcv_cat]; exact hv) (by rw [qcv_cat]; exact hu) (kk p e s m args below meth c sz H locs lsA C hP hD hS hL)
theorem R_dup_x1 {v u : Value} (hd : decode (m_b mt) pc = .ok (.dup_x1, 1)) (hv : v.category = 1) (hu : u.category = 1) (kk : qRW g w mt (pc + 1) L (v :: u :: v :: st) M Q) : qRW g w mt pc L (v :: u :: st) M Q :=
  fun p e s m args below meth c sz H locs lsA C hP hD hS hL => lv_dup_x1 C.1 C.2.1 hd (by rw [qcv_cat]; exact hv) (by rw [qcv_cat]; exact hu) (kk p e s m args below meth c sz H locs lsA C hP hD hS hL)
-- eq
theorem R_if_eq {x : Int32} {off : Int} {tgt : Nat} (hd : decode (m_b mt) pc = .ok (.ifCond .eq off, 3)) (ht : (pc : Int) + off = (tgt : Int)) (kt : (x = 0) → qRW g w mt tgt L st M Q) (kf : ¬ (x = 0) → qRW g w mt (pc + 3) L st M Q) : qRW g w mt pc L (.int x :: st) M Q :=
  fun p e s m args below meth c sz H locs lsA C hP hD hS hL => lv_if_eq C.1 C.2.1 hd ht (fun z => kt z p e s m args below meth c sz H locs lsA C hP hD hS hL) (fun z => kf z p e s m args below meth c sz H locs lsA C hP hD hS hL)
theorem R_icmp_eq {x y : Int32} {off : Int} {tgt : Nat} (hd : decode (m_b mt) pc = .ok (.if_icmp .eq off, 3)) (ht : (pc : Int) + off = (tgt : Int)) (kt : (x = y) → qRW g w mt tgt L st M Q) (kf : ¬ (x = y) → qRW g w mt (pc + 3) L st M Q) : qRW g w mt pc L (.int y :: .int x :: st) M Q :=
  fun p e s m args below meth c sz H locs lsA C hP hD hS hL => lv_icmp_eq C.1 C.2.1 hd ht (fun z => kt z p e s m args below meth c sz H locs lsA C hP hD hS hL) (fun z => kf z p e s m args below meth c sz H locs lsA C hP hD hS hL)
-- ne
theorem R_if_ne {x : Int32} {off : Int} {tgt : Nat} (hd : decode (m_b mt) pc = .ok (.ifCond .ne off, 3)) (ht : (pc : Int) + off = (tgt : Int)) (kt : ¬ (x = 0) → qRW g w mt tgt L st M Q) (kf : (x = 0) → qRW g w mt (pc + 3) L st M Q) : qRW g w mt pc L (.int x :: st) M Q :=
  fun p e s m args below meth c sz H locs lsA C hP hD hS hL => lv_if_ne C.1 C.2.1 hd ht (fun z => kt z p e s m args below meth c sz H locs lsA C hP hD hS hL) (fun z => kf z p e s m args below meth c sz H locs lsA C hP hD hS hL)
theorem R_icmp_ne {x y : Int32} {off : Int} {tgt : Nat} (hd : decode (m_b mt) pc = .ok (.if_icmp .ne off, 3)) (ht : (pc : Int) + off = (tgt : Int)) (kt : ¬ (x = y) → qRW g w mt tgt L st M Q) (kf : (x = y) → qRW g w mt (pc + 3) L st M Q) : qRW g w mt pc L (.int y :: .int x :: st) M Q :=
  fun p e s m args below meth c sz H locs lsA C hP hD hS hL => lv_icmp_ne C.1 C.2.1 hd ht (fun z => kt z p e s m args below meth c sz H locs lsA C hP hD hS hL) (fun z => kf z p e s m args below meth c sz H locs lsA C hP hD hS hL)
-- lt
theorem R_if_lt {x : Int32} {off : Int} {tgt : Nat} (hd : decode (m_b mt) pc = .ok (.ifCond .lt off, 3)) (ht : (pc : Int) + off = (tgt : Int)) (kt : (x < 0) → qRW g w mt tgt L st M Q) (kf : ¬ (x < 0) → qRW g w mt (pc + 3) L st M Q) : qRW g w mt pc L (.int x :: st) M Q :=
  fun p e s m args below meth c sz H locs lsA C hP hD hS hL => lv_if_lt C.1 C.2.1 hd ht (fun z => kt z p e s m args below meth c sz H locs lsA C hP hD hS hL) (fun z => kf z p e s m args below meth c sz H locs lsA C hP hD hS hL)
theorem R_icmp_lt {x y : Int32} {off : Int} {tgt : Nat} (hd : decode (m_b mt) pc = .ok (.if_icmp .lt off, 3)) (ht : (pc : Int) + off = (tgt : Int)) (kt : (x < y) → qRW g w mt tgt L st M Q) (kf : ¬ (x < y) → qRW g w mt (pc + 3) L st M Q) : qRW g w mt pc L (.int y :: .int x :: st) M Q :=
  fun p e s m args below meth c sz H locs lsA C hP hD hS hL => lv_icmp_lt C.1 C.2.1 hd ht (fun z => kt z p e s m args below meth c sz H locs lsA C hP hD hS hL) (fun z => kf z p e s m args below meth c sz H locs lsA C hP hD hS hL)
-- ge
theorem R_if_ge {x : Int32} {off : Int} {tgt : Nat} (hd : decode (m_b mt) pc = .ok (.ifCond .ge off, 3)) (ht : (pc : Int) + off = (tgt : Int)) (kt : (0 ≤ x) → qRW g w mt tgt L st M Q) (kf : ¬ (0 ≤ x) → qRW g w mt (pc + 3) L st M Q) : qRW g w mt pc L (.int x :: st) M Q :=
  fun p e s m args below meth c sz H locs lsA C hP hD hS hL => lv_if_ge C.1 C.2.1 hd ht (fun z => kt z p e s m args below meth c sz H locs lsA C hP hD hS hL) (fun z => kf z p e s m args below meth c sz H locs lsA C hP hD hS hL)
theorem R_icmp_ge {x y : Int32} {off : Int} {tgt : Nat} (hd : decode (m_b mt) pc = .ok (.if_icmp .ge off, 3)) (ht : (pc : Int) + off = (tgt : Int)) (kt : (y ≤ x) → qRW g w mt tgt L st M Q) (kf : ¬ (y ≤ x) → qRW g w mt (pc + 3) L st M Q) : qRW g w mt pc L (.int y :: .int x :: st) M Q :=
  fun p e s m args below meth c sz H locs lsA C hP hD hS hL => lv_icmp_ge C.1 C.2.1 hd ht (fun z => kt z p e s m args below meth c sz H locs lsA C hP hD hS hL) (fun z => kf z p e s m args below meth c sz H locs lsA C hP hD hS hL)
-- gt
theorem R_if_gt {x : Int32} {off : Int} {tgt : Nat} (hd : decode (m_b mt) pc = .ok (.ifCond .gt off, 3)) (ht : (pc : Int) + off = (tgt : Int)) (kt : (0 < x) → qRW g w mt tgt L st M Q) (kf : ¬ (0 < x) → qRW g w mt (pc + 3) L st M Q) : qRW g w mt pc L (.int x :: st) M Q :=
  fun p e s m args below meth c sz H locs lsA C hP hD hS hL => lv_if_gt C.1 C.2.1 hd ht (fun z => kt z p e s m args below meth c sz H locs lsA C hP hD hS hL) (fun z => kf z p e s m args below meth c sz H locs lsA C hP hD hS hL)
theorem R_icmp_gt {x y : Int32} {off : Int} {tgt : Nat} (hd : decode (m_b mt) pc = .ok (.if_icmp .gt off, 3)) (ht : (pc : Int) + off = (tgt : Int)) (kt : (y < x) → qRW g w mt tgt L st M Q) (kf : ¬ (y < x) → qRW g w mt (pc + 3) L st M Q) : qRW g w mt pc L (.int y :: .int x :: st) M Q :=
  fun p e s m args below meth c sz H locs lsA C hP hD hS hL => lv_icmp_gt C.1 C.2.1 hd ht (fun z => kt z p e s m args below meth c sz H locs lsA C hP hD hS hL) (fun z => kf z p e s m args below meth c sz H locs lsA C hP hD hS hL)
-- le
theorem R_if_le {x : Int32} {off : Int} {tgt : Nat} (hd : decode (m_b mt) pc = .ok (.ifCond .le off, 3)) (ht : (pc : Int) + off = (tgt : Int)) (kt : (x ≤ 0) → qRW g w mt tgt L st M Q) (kf : ¬ (x ≤ 0) → qRW g w mt (pc + 3) L st M Q) : qRW g w mt pc L (.int x :: st) M Q :=
  fun p e s m args below meth c sz H locs lsA C hP hD hS hL => lv_if_le C.1 C.2.1 hd ht (fun z => kt z p e s m args below meth c sz H locs lsA C hP hD hS hL) (fun z => kf z p e s m args below meth c sz H locs lsA C hP hD hS hL)
theorem R_icmp_le {x y : Int32} {off : Int} {tgt : Nat} (hd : decode (m_b mt) pc = .ok (.if_icmp .le off, 3)) (ht : (pc : Int) + off = (tgt : Int)) (kt : (x ≤ y) → qRW g w mt tgt L st M Q) (kf : ¬ (x ≤ y) → qRW g w mt (pc + 3) L st M Q) : qRW g w mt pc L (.int y :: .int x :: st) M Q :=
  fun p e s m args below meth c sz H locs lsA C hP hD hS hL => lv_icmp_le C.1 C.2.1 hd ht (fun z => kt z p e s m args below meth c sz H locs lsA C hP hD hS hL) (fun z => kf z p e s m args below meth c sz H locs lsA C hP hD hS hL)
theorem R_goto {off : Int} {tgt : Nat} (hd : decode (m_b mt) pc = .ok (.goto off, 3)) (ht : (pc : Int) + off = (tgt : Int)) (kk : qRW g w mt tgt L st M Q) : qRW g w mt pc L st M Q :=
  fun p e s m args below meth c sz H locs lsA C hP hD hS hL => lv_goto C.1 C.2.1 hd ht (kk p e s m args below meth c sz H locs lsA C hP hD hS hL)
theorem R_lcmp {x y : Int64} (hd : decode (m_b mt) pc = .ok (.lcmp, 1)) (kk : qRW g w mt (pc + 1) L (.int (lg_cmp x y) :: st) M Q) : qRW g w mt pc L (.long y :: .long x :: st) M Q :=
  fun p e s m args below meth c sz H locs lsA C hP hD hS hL => W.lcmp C.1 C.2.1 hd (kk p e s m args below meth c sz H locs lsA C hP hD hS hL)
theorem R_tableIn {dflt lo hi : Int} {offs : Array Int} {len : Nat} {x : Int32} {off : Int} {tgt : Nat} (hd : decode (m_b mt) pc = .ok (.tableswitch dflt lo hi offs, len)) (h1 : ¬ x.toInt < lo) (h2 : ¬ hi < x.toInt) (ho : offs[(x.toInt - lo).toNat]? = some off) (ht : (pc : Int) + off = (tgt : Int)) (kk : qRW g w mt tgt L st M Q) : qRW g w mt pc L (.int x :: st) M Q :=
  fun p e s m args below meth c sz H locs lsA C hP hD hS hL => lv_tableIn C.1 C.2.1 hd h1 h2 ho ht (kk p e s m args below meth c sz H locs lsA C hP hD hS hL)
theorem R_tableOut {dflt lo hi : Int} {offs : Array Int} {len : Nat} {x : Int32} {tgt : Nat} (hd : decode (m_b mt) pc = .ok (.tableswitch dflt lo hi offs, len)) (h : x.toInt < lo ∨ hi < x.toInt) (ht : (pc : Int) + dflt = (tgt : Int)) (kk : qRW g w mt tgt L st M Q) : qRW g w mt pc L (.int x :: st) M Q :=
  fun p e s m args below meth c sz H locs lsA C hP hD hS hL => lv_tableOut C.1 C.2.1 hd h ht (kk p e s m args below meth c sz H locs lsA C hP hD hS hL)
theorem q_ret {sz : Nat} {s : State} {H : Heap} {locs : List Loc} {v : Option Value} {a : Array Value} (hP : va_P (q_D w) vwCl (qws g w M) H) (hD : va_D (qA g w sz) (qws g w M)) (hS : va_S (qA g w sz) s.heap H locs) (hq : Q v M) (t : State) (ht : t.heap = H) : qPost g w sz Q a s (.returned (v.map (qcv w))) t :=
  ⟨⟨v, M, rfl, hq, by rw [ht]; exact hP, hD⟩, hS.F ht⟩
theorem R_ireturn {x : Int32} {ty : FieldType} (hd : decode (m_b mt) pc = .ok (.ireturn, 1)) (hr : m_r mt = some ty) (hn : narrow ty (.int x) = .int x) (hq : Q (some (.int x)) M) : qRW g w mt pc L [.int x] M Q :=
  fun p e s m args below meth c sz H locs lsA C hP hD hS hL => W.zret C.1 C.2.1 (C.2.2.2.1.trans hr) hn (fun t ht hW => q_ret (v := some (.int x)) hP hD hS hq t ht) hS.2.2 hd C.2.2.2.2.1
theorem R_lreturn {x : Int64} (hd : decode (m_b mt) pc = .ok (.lreturn, 1)) (hr : m_r mt = some .long) (hq : Q (some (.long x)) M) : qRW g w mt pc L [.long x] M Q :=
  fun p e s m args below meth c sz H locs lsA C hP hD hS hL => W.lret C.1 C.2.1 (C.2.2.2.1.trans hr) (fun t ht hW => q_ret (v := some (.long x)) hP hD hS hq t ht) hS.2.2 hd C.2.2.2.2.1
theorem R_return (hd : decode (m_b mt) pc = .ok (.return_, 1)) (hr : m_r mt = none) (hq : Q none M) : qRW g w mt pc L [] M Q :=
  fun p e s m args below meth c sz H locs lsA C hP hD hS hL => W.vret C.1 C.2.1 (C.2.2.2.1.trans hr) (fun t ht hW => q_ret (v := none) hP hD hS hq t ht) hS.2.2 hd C.2.2.2.2.1
theorem R_areturn {x : Nat} {n : String} (hd : decode (m_b mt) pc = .ok (.areturn, 1)) (hr : m_r mt = some (.object n)) (hq : Q (some (.ref x)) M) : qRW g w mt pc L [.ref x] M Q :=
  fun p e s m args below meth c sz H locs lsA C hP hD hS hL => W.aret C.1 C.2.1 (C.2.2.2.1.trans hr) (Or.inl ⟨n, rfl⟩) (Or.inr ⟨_, rfl⟩) (fun t ht hW => q_ret (v := some (.ref x)) hP hD hS hq t ht) hS.2.2 hd C.2.2.2.2.1
-- fields
def qCK (ci : Nat) (C : String) (T : u_T) (N : Nat) (ty : Nat → FieldType) : Prop := vwCl[ci]? = some (C, T, N) ∧ (∀ z ∈ u_ws C T N, z ∈ qW) ∧ (∀ k, k < N → parseFieldDescriptor (T k).2.2.1 = some (ty k)) ∧ ∀ a, a < N → ∀ b, b < N → a ≠ b → (T a).2.1 ≠ (T b).2.1
def qLF (own : String) (idx ci k : Nat) (fty : FieldType) : Prop := ∃ (C : String) (T : u_T) (N : Nat) (ty : Nat → FieldType), qCK ci C T N ty ∧ k < N ∧ Cond.fieldLink own idx C (T k).2.1 (T k).2.2.1 ∈ qW ∧ (T k).1 = C ∧ (T k).2.2.2 = false ∧ ty k = fty
def qLG (own : String) (idx ci k : Nat) : Prop := ∃ (C : String) (T : u_T) (N : Nat) (ty : Nat → FieldType), qCK ci C T N ty ∧ k < N ∧ Cond.fieldLink own idx C (T k).2.1 (T k).2.2.1 ∈ qW ∧ (T k).1 = C
theorem qLF.get {own : String} {idx ci k : Nat} {f : FieldType} (h : qLF own idx ci k f) : qLG own idx ci k := by
  obtain ⟨C, T, N, ty, h1, h2, h3, h4, -⟩ := h
  exact ⟨C, T, N, ty, h1, h2, h3, h4⟩
theorem R_gett {idx ci k o : Nat} {fl : List (Option Nat)} {f : Option Nat} (hd : decode (m_b mt) pc = .ok (.getfield idx, 3)) (lk : qLG (m_y mt).cls idx ci k) (ho : o < qN g) (hs : qsh g o = .inl (ci, fl)) (hf : fl[k]? = some f) (kk : qRW g w mt (pc + 3) L (qfV M o k f :: st) M Q) : qRW g w mt pc L (.ref o :: st) M Q := by
  intro p e s m args below meth c sz H locs lsA C hP hD hS hL
  obtain ⟨CC, T, N, ty, ⟨h1, h2, h3, h4⟩, h5, h6, h7⟩ := lk
  have he := qws_at (w := w) (M := M) ho
  rw [hs] at he
  refine va_get (D := q_D w) (ci := ci) (v := qcv w (qfV M o k f)) (C := CC) (T := T) (N := N) C.1 C.2.1 C.2.2.2.2.2.2.1 h2 C.2.2.2.2.2.1 C.2.2.2.2.2.2.2.2.1 hP o he h1 k h5 (C.2.2.2.2.2.2.1 _ h6) (by rw [h7]; exact fun _ z => z) (by rw [qfl_get hf, Nat.zero_add]; cases f <;> rfl) hd ?_
  cases f with
  | none => exact kk p e s m args below meth c sz H locs lsA C hP hD hS hL
  | some r => exact kk p e s m args below meth c sz H locs lsA C hP hD hS hL
theorem R_getI {idx ci k o : Nat} {fl : List (Option Nat)} (hd : decode (m_b mt) pc = .ok (.getfield idx, 3)) (lk : qLG (m_y mt).cls idx ci k) (ho : o < qN g) (hs : qsh g o = .inl (ci, fl)) (hf : fl[k]? = some none) (kk : qRW g w mt (pc + 3) L (.int (M.1 o k) :: st) M Q) : qRW g w mt pc L (.ref o :: st) M Q := R_gett hd lk ho hs hf kk
theorem R_getR {idx ci k o r : Nat} {fl : List (Option Nat)} (hd : decode (m_b mt) pc = .ok (.getfield idx, 3)) (lk : qLG (m_y mt).cls idx ci k) (ho : o < qN g) (hs : qsh g o = .inl (ci, fl)) (hf : fl[k]? = some (some r)) (kk : qRW g w mt (pc + 3) L (.ref r :: st) M Q) : qRW g w mt pc L (.ref o :: st) M Q := R_gett hd lk ho hs hf kk
theorem R_putI {idx ci k o : Nat} {x : Int32} {fl : List (Option Nat)} {fty : FieldType} (hd : decode (m_b mt) pc = .ok (.putfield idx, 3)) (lk : qLF (m_y mt).cls idx ci k fty) (ho : o < qN g) (hs : qsh g o = .inl (ci, fl)) (hf : fl[k]? = some none) (hn : narrow fty (.int x) = .int x) (hfit : fits fty (.int x) = true) (kk : qRW g w mt (pc + 3) L st (qIs M o k x) Q) : qRW g w mt pc L (.int x :: .ref o :: st) M Q := by
  intro p e s m args below meth c sz H locs lsA C hP hD hS hL
  obtain ⟨CC, T, N, ty, ⟨h1, h2, h3, h4⟩, h5, h6, h7, h8, h9⟩ := lk
  have he := qws_at (w := w) (M := M) ho
  rw [hs] at he
  have hset : (qws g w M).set o (q_a w o, .inr (ci, (qfl w M o 0 fl).set k (.int x))) = qws g w (qIs M o k x) :=
    qws_set ho (by rw [hs, qfl_set hf]; rfl) (fun a ha => (qIs_no ha).symm) (fun a ha => rfl)
  refine va_put (D := q_D w) (ci := ci) (v := .int x) (ty := fty) (C := CC) (T := T) (N := N) C.1 C.2.1 C.2.2.2.2.2.2.1 h2 ty h3 h4 C.2.2.2.2.2.1 C.2.2.2.2.2.2.2.2.1 hP hD hS o he h1 k h5 (C.2.2.2.2.2.2.1 _ h6) (by rw [h7]; exact fun _ z => z) h8 (by rw [h3 k h5, h9]) hn hfit (by rw [qfl_len]; exact (List.getElem?_eq_some_iff.mp hf).1) hd (fun H1 locs1 hP1 hD1 hS1 => ?_)
  rw [hset] at hP1 hD1
  exact kk p e s m args below meth c sz H1 locs1 lsA C hP1 hD1 hS1 hL

theorem R_iald {o n b : Nat} {i : Int32} (hd : decode (m_b mt) pc = .ok (.iaload, 1)) (ho : o < qN g) (hs : qsh g o = .inr (n, 0, b)) (hin : vp_in i n) (kk : qRW g w mt (pc + 1) L (.int (M.1 o i.toNatClampNeg) :: st) M Q) : qRW g w mt pc L (.int i :: .ref o :: st) M Q := by
  intro p e s m args below meth c sz H locs lsA C hP hD hS hL
  have he := qws_at (w := w) (M := M) ho
  rw [hs] at he
  exact va_iald C.1 C.2.1 C.2.2.2.2.2.2.2.2.1 hP o 0 he rfl hin hd (kk p e s m args below meth c sz H locs lsA C hP hD hS hL)
theorem R_ialdN {o n b j : Nat} (hd : decode (m_b mt) pc = .ok (.iaload, 1)) (ho : o < qN g) (hs : qsh g o = .inr (n, 0, b)) (hj : j < n) (hn : n < 2147483648) (kk : qRW g w mt (pc + 1) L (.int (M.1 o j) :: st) M Q) : qRW g w mt pc L (.int (nI j) :: .ref o :: st) M Q :=
  R_iald hd ho hs (vp_in_nI hj hn) (by rw [nI_clamp (by omega)]; exact kk)
theorem R_iast {o n b : Nat} {i : Int32} {x : Int32} (hd : decode (m_b mt) pc = .ok (.iastore, 1)) (ho : o < qN g) (hs : qsh g o = .inr (n, 0, b)) (hin : vp_in i n) (kk : qRW g w mt (pc + 1) L st (qIs M o i.toNatClampNeg x) Q) : qRW g w mt pc L (.int x :: .int i :: .ref o :: st) M Q := by
  intro p e s m args below meth c sz H locs lsA C hP hD hS hL
  have he := qws_at (w := w) (M := M) ho
  rw [hs] at he
  refine va_iast C.1 C.2.1 C.2.2.2.2.2.2.2.2.1 hP hD hS o 0 he rfl hin hd (fun H1 locs1 hP1 hD1 hS1 => ?_)
  rw [qws_set (M := M) (N := qIs M o i.toNatClampNeg x) ho (by rw [hs]; simp only [qcell, qIs_u]) (fun a ha => (qIs_no ha).symm) (fun a ha => rfl)] at hP1 hD1
  exact kk p e s m args below meth c sz H1 locs1 lsA C hP1 hD1 hS1 hL
theorem R_iastN {o n b j : Nat} {x : Int32} (hd : decode (m_b mt) pc = .ok (.iastore, 1)) (ho : o < qN g) (hs : qsh g o = .inr (n, 0, b)) (hj : j < n) (hn : n < 2147483648) (kk : qRW g w mt (pc + 1) L st (qIs M o j x) Q) : qRW g w mt pc L (.int x :: .int (nI j) :: .ref o :: st) M Q :=
  R_iast hd ho hs (vp_in_nI hj hn) (by rw [nI_clamp (by omega)]; exact kk)
theorem R_cald {o n b : Nat} {i : Int32} (hd : decode (m_b mt) pc = .ok (.caload, 1)) (ho : o < qN g) (hs : qsh g o = .inr (n, 1, b)) (hin : vp_in i n) (kk : qRW g w mt (pc + 1) L (.int (M.1 o i.toNatClampNeg) :: st) M Q) : qRW g w mt pc L (.int i :: .ref o :: st) M Q := by
  intro p e s m args below meth c sz H locs lsA C hP hD hS hL
  have he := qws_at (w := w) (M := M) ho
  rw [hs] at he
  exact va_cald C.1 C.2.1 C.2.2.2.2.2.2.2.2.1 hP o 1 he rfl hin hd (kk p e s m args below meth c sz H locs lsA C hP hD hS hL)
theorem R_caldN {o n b j : Nat} (hd : decode (m_b mt) pc = .ok (.caload, 1)) (ho : o < qN g) (hs : qsh g o = .inr (n, 1, b)) (hj : j < n) (hn : n < 2147483648) (kk : qRW g w mt (pc + 1) L (.int (M.1 o j) :: st) M Q) : qRW g w mt pc L (.int (nI j) :: .ref o :: st) M Q :=
  R_cald hd ho hs (vp_in_nI hj hn) (by rw [nI_clamp (by omega)]; exact kk)
theorem R_cast {o n b : Nat} {i : Int32} {x : Int32} (hd : decode (m_b mt) pc = .ok (.castore, 1)) (ho : o < qN g) (hs : qsh g o = .inr (n, 1, b)) (hin : vp_in i n) (kk : qRW g w mt (pc + 1) L st (qIs M o i.toNatClampNeg (vp_nar .char x)) Q) : qRW g w mt pc L (.int x :: .int i :: .ref o :: st) M Q := by
  intro p e s m args below meth c sz H locs lsA C hP hD hS hL
  have he := qws_at (w := w) (M := M) ho
  rw [hs] at he
  refine va_cast C.1 C.2.1 C.2.2.2.2.2.2.2.2.1 hP hD hS o 1 he rfl hin hd (fun H1 locs1 hP1 hD1 hS1 => ?_)
  rw [qws_set (M := M) (N := qIs M o i.toNatClampNeg (vp_nar .char x)) ho (by rw [hs]; simp only [qcell, qIs_u]) (fun a ha => (qIs_no ha).symm) (fun a ha => rfl)] at hP1 hD1
  exact kk p e s m args below meth c sz H1 locs1 lsA C hP1 hD1 hS1 hL
theorem R_castN {o n b j : Nat} {x : Int32} (hd : decode (m_b mt) pc = .ok (.castore, 1)) (ho : o < qN g) (hs : qsh g o = .inr (n, 1, b)) (hj : j < n) (hn : n < 2147483648) (kk : qRW g w mt (pc + 1) L st (qIs M o j (vp_nar .char x)) Q) : qRW g w mt pc L (.int x :: .int (nI j) :: .ref o :: st) M Q :=
  R_cast hd ho hs (vp_in_nI hj hn) (by rw [nI_clamp (by omega)]; exact kk)
theorem R_lald {o n b : Nat} {i : Int32} (hd : decode (m_b mt) pc = .ok (.laload, 1)) (ho : o < qN g) (hs : qsh g o = .inr (n, 2, b)) (hin : vp_in i n) (kk : qRW g w mt (pc + 1) L (.long (M.2 o i.toNatClampNeg) :: st) M Q) : qRW g w mt pc L (.int i :: .ref o :: st) M Q := by
  intro p e s m args below meth c sz H locs lsA C hP hD hS hL
  have he := qws_at (w := w) (M := M) ho
  rw [hs] at he
  exact va_lald C.1 C.2.1 C.2.2.2.2.2.2.2.2.1 hP o 2 he rfl hin hd (kk p e s m args below meth c sz H locs lsA C hP hD hS hL)
theorem R_laldN {o n b j : Nat} (hd : decode (m_b mt) pc = .ok (.laload, 1)) (ho : o < qN g) (hs : qsh g o = .inr (n, 2, b)) (hj : j < n) (hn : n < 2147483648) (kk : qRW g w mt (pc + 1) L (.long (M.2 o j) :: st) M Q) : qRW g w mt pc L (.int (nI j) :: .ref o :: st) M Q :=
  R_lald hd ho hs (vp_in_nI hj hn) (by rw [nI_clamp (by omega)]; exact kk)
theorem R_last {o n b : Nat} {i : Int32} {x : Int64} (hd : decode (m_b mt) pc = .ok (.lastore, 1)) (ho : o < qN g) (hs : qsh g o = .inr (n, 2, b)) (hin : vp_in i n) (kk : qRW g w mt (pc + 1) L st (qLs M o i.toNatClampNeg x) Q) : qRW g w mt pc L (.long x :: .int i :: .ref o :: st) M Q := by
  intro p e s m args below meth c sz H locs lsA C hP hD hS hL
  have he := qws_at (w := w) (M := M) ho
  rw [hs] at he
  refine va_last C.1 C.2.1 C.2.2.2.2.2.2.2.2.1 hP hD hS o 2 he rfl hin hd (fun H1 locs1 hP1 hD1 hS1 => ?_)
  rw [qws_set (M := M) (N := qLs M o i.toNatClampNeg x) ho (by rw [hs]; simp only [qcell, qLs_u]) (fun a ha => rfl) (fun a ha => (qLs_no ha).symm)] at hP1 hD1
  exact kk p e s m args below meth c sz H1 locs1 lsA C hP1 hD1 hS1 hL
theorem R_lastN {o n b j : Nat} {x : Int64} (hd : decode (m_b mt) pc = .ok (.lastore, 1)) (ho : o < qN g) (hs : qsh g o = .inr (n, 2, b)) (hj : j < n) (hn : n < 2147483648) (kk : qRW g w mt (pc + 1) L st (qLs M o j x) Q) : qRW g w mt pc L (.long x :: .int (nI j) :: .ref o :: st) M Q :=
  R_last hd ho hs (vp_in_nI hj hn) (by rw [nI_clamp (by omega)]; exact kk)
theorem R_aald3 {o n b : Nat} {i : Int32} (hd : decode (m_b mt) pc = .ok (.aaload, 1)) (ho : o < qN g) (hs : qsh g o = .inr (n, 3, b)) (hin : vp_in i n) (kk : qRW g w mt (pc + 1) L (.ref (b + i.toNatClampNeg) :: st) M Q) : qRW g w mt pc L (.int i :: .ref o :: st) M Q := by
  intro p e s m args below meth c sz H locs lsA C hP hD hS hL
  have he := qws_at (w := w) (M := M) ho
  rw [hs] at he
  have hlt : i.toNatClampNeg < n := Nat.not_le.mp fun q => hin (Or.inr q)
  exact W.aald (v := va_rf (some (q_a w (b + i.toNatClampNeg)))) (ty := .array .int) C.1 C.2.1 (hP o _ he) ((C.2.2.2.2.2.2.2.2.1.2 3 _ rfl).1 n (fun j => va_rf (some (q_a w (b + j))))) rfl (fun q => by cases q) (by show ¬ (i < 0 ∨ (arrV _ _ _).slots.size ≤ _); rw [arrV_size]; exact hin) (by show (arrV _ _ _).slots[_]? = _; rw [arrV_read _ _ hlt]) rfl rfl hd (kk p e s m args below meth c sz H locs lsA C hP hD hS hL)
theorem R_aald3N {o n b j : Nat} (hd : decode (m_b mt) pc = .ok (.aaload, 1)) (ho : o < qN g) (hs : qsh g o = .inr (n, 3, b)) (hj : j < n) (hn : n < 2147483648) (kk : qRW g w mt (pc + 1) L (.ref (b + j) :: st) M Q) : qRW g w mt pc L (.int (nI j) :: .ref o :: st) M Q :=
  R_aald3 hd ho hs (vp_in_nI hj hn) (by rw [nI_clamp (by omega)]; exact kk)
theorem R_aald4 {o n b : Nat} {i : Int32} (hd : decode (m_b mt) pc = .ok (.aaload, 1)) (ho : o < qN g) (hs : qsh g o = .inr (n, 4, b)) (hin : vp_in i n) (kk : qRW g w mt (pc + 1) L (.ref (b + i.toNatClampNeg) :: st) M Q) : qRW g w mt pc L (.int i :: .ref o :: st) M Q := by
  intro p e s m args below meth c sz H locs lsA C hP hD hS hL
  have he := qws_at (w := w) (M := M) ho
  rw [hs] at he
  have hlt : i.toNatClampNeg < n := Nat.not_le.mp fun q => hin (Or.inr q)
  exact W.aald (v := va_rf (some (q_a w (b + i.toNatClampNeg)))) (ty := .array .long) C.1 C.2.1 (hP o _ he) ((C.2.2.2.2.2.2.2.2.1.2 4 _ rfl).1 n (fun j => va_rf (some (q_a w (b + j))))) rfl (fun q => by cases q) (by show ¬ (i < 0 ∨ (arrV _ _ _).slots.size ≤ _); rw [arrV_size]; exact hin) (by show (arrV _ _ _).slots[_]? = _; rw [arrV_read _ _ hlt]) rfl rfl hd (kk p e s m args below meth c sz H locs lsA C hP hD hS hL)
theorem R_aald4N {o n b j : Nat} (hd : decode (m_b mt) pc = .ok (.aaload, 1)) (ho : o < qN g) (hs : qsh g o = .inr (n, 4, b)) (hj : j < n) (hn : n < 2147483648) (kk : qRW g w mt (pc + 1) L (.ref (b + j) :: st) M Q) : qRW g w mt pc L (.int (nI j) :: .ref o :: st) M Q :=
  R_aald4 hd ho hs (vp_in_nI hj hn) (by rw [nI_clamp (by omega)]; exact kk)
theorem R_gets {idx k : Nat} (hd : decode (m_b mt) pc = .ok (.getstatic idx, 3)) (hk : k < 3) (hl : Cond.fieldLink (m_y mt).cls idx "ShiftMender" (qtn k) "[I" ∈ qW) (kk : qRW g w mt (pc + 3) L (.ref (1000 + k) :: st) M Q) : qRW g w mt pc L st M Q :=
  fun p e s m args below meth c sz H locs lsA C hP hD hS hL => va_gets C.1 C.2.1 (C.2.2.2.2.2.2.2.2.2.2 k hk).1 (by have h := C.2.2.2.2.2.2.2.1; subst h; exact hS) C.2.2.2.2.2.1 (C.2.2.2.2.2.2.1 _ hl) (fun _ z => z) hd (kk p e s m args below meth c sz H locs lsA C hP hD hS hL)
theorem R_getsN {idx k : Nat} (hd : decode (m_b mt) pc = .ok (.getstatic idx, 3)) (hk : k < 3) (hl : ∀ U, qNest U → va_Nw (.fieldLinkNest (m_y mt).cls idx "ShiftMender" (qtn k) "[I" "ShiftMender") U) (kk : qRW g w mt (pc + 3) L (.ref (1000 + k) :: st) M Q) : qRW g w mt pc L st M Q :=
  fun p e s m args below meth c sz H locs lsA C hP hD hS hL => va_getsN C.1 C.2.1 (C.2.2.2.2.2.2.2.2.2.2 k hk).1 (by have h := C.2.2.2.2.2.2.2.1; subst h; exact hS) C.2.2.2.2.2.1 (va_Nw.use rfl (hl s C.2.2.2.2.2.2.2.2.2.1)) (fun _ z => z) hd (kk p e s m args below meth c sz H locs lsA C hP hD hS hL)
theorem R_tald {k : Nat} {i : Int32} (hd : decode (m_b mt) pc = .ok (.iaload, 1)) (hk : k < 3) (hin : vp_in i 4) (kk : qRW g w mt (pc + 1) L (.int (qtab k i.toNatClampNeg) :: st) M Q) : qRW g w mt pc L (.int i :: .ref (1000 + k) :: st) M Q :=
  fun p e s m args below meth c sz H locs lsA C hP hD hS hL => va_ti C.1 C.2.1 (C.2.2.2.2.2.2.2.2.2.2 k hk).2 hS hin rfl hd (kk p e s m args below meth c sz H locs lsA C hP hD hS hL)
-- calls
theorem q_back {Qc : qQ} {p : Program} {e : Env} {s : State} {m : MethodId} {args : Array Value} {below : List Frame} {meth : Method} {c : Code} {sz : Nat} {H : Heap} {locs : List Loc} {lsA : Array Slot} {stk : List Value} {a : Array Value}
    (C : qCtx g w mt sz p s m args meth c) (hD : va_D (qA g w sz) (qws g w M)) (hS : va_S (qA g w sz) s.heap H locs) (hL : lv_has lsA (m_n mt) (qcL w L))
    (hr : va_Run p (q_l w) e (m_rm mt) s m args below meth c H locs 0 0 0 0 (F0 m pc lsA stk) (st.map (qcv w)) (qPost g w H.size Qc a) (qA g w H.size))
    (kk : ∀ v N, Qc v N → qRW g w mt (pc + 3) L (v.toList ++ st) N Q) : W p (q_l w) e (m_rm mt) s m args below meth c H locs 0 0 (MQ below (qPost g w sz Q) args s 0 0 (qA g w sz)) (F0 m pc lsA stk) := by
  intro T hT X
  obtain ⟨v, st₀, t, T', LL, h0, X', hLL, e1, e2, ⟨⟨u, N, hv, hq, hP1, hD1⟩, hz, hk⟩, stp⟩ := hr T hT X
  have hv' : v = u.map (qcv w) := by cases hv; rfl
  subst hv'
  rw [h0] at hz hk
  have hle : sz ≤ H.size := by rw [← C.2.2.2.2.2.2.2.1]; exact hS.1
  have hA : ∀ q, qA g w H.size q → qA g w sz q := fun q h => qA_mono hle h
  have hst : (u.map (qcv w)).toList ++ st.map (qcv w) = (u.toList ++ st).map (qcv w) := by cases u <;> simp
  have K := kk u N hq p e s m args below meth c sz T'.heap (locs ++ LL) lsA C (by rw [e1]; exact hP1) (qD_mem hD)
    ⟨Nat.le_trans hS.1 (by rw [e1]; exact hz), fun q h1 h2 => by rw [e1, hk q (Nat.lt_of_lt_of_le h1 hS.1) (fun z => h2 (hA q z))]; exact hS.2.1 q h1 h2, fun q hq => by
      rcases List.mem_append.mp hq with h | h
      · exact hS.2.2 q h
      · exact hA _ (hLL q h)⟩ hL
  rw [← hst] at K
  obtain ⟨t2, a1, b1⟩ := K T' rfl X'
  exact ⟨t2, stp t2 a1, b1⟩
theorem q_pre {p : Program} {s : State} {m : MethodId} {args : Array Value} {meth : Method} {c : Code} {sz : Nat} {H : Heap} {locs : List Loc} (C : qCtx g w mt sz p s m args meth c) (hP : va_P (q_D w) vwCl (qws g w M) H) (hD : va_D (qA g w sz) (qws g w M)) (hS : va_S (qA g w sz) s.heap H locs) (U : State) (hU : U.heap = H) (hW : s.WarmedH U.vm) : qPre g w H.size M U := by
  have hle : sz ≤ H.size := by rw [← C.2.2.2.2.2.2.2.1]; exact hS.1
  refine ⟨by rw [hU], by rw [hU]; exact hP, va_K.moved hW.alike C.2.2.2.2.2.2.2.2.1, hD.weaken (fun _ _ _ _ => trivial), qNest_moved hW C.2.2.2.2.2.2.2.2.2.1, ?_⟩
  rw [hU]
  exact qStat_narrow (qStat_moved hW.alike (qStat_kept C.2.2.2.2.2.2.2.2.2.2 (fun a h1 h2 => hS.2.1 a h1 h2))) (fun q h => qA_mono hle h)
theorem q_cat {st : List Value} : ((st.map (qcv w)).map fun v => v.category) = st.map fun v => v.category := by
  rw [List.map_map]
  exact congrArg (fun f => st.map f) (funext (qcv_cat w))
def qRoom (mt mc : qMT) : Bool := Nat.ble (mc.2.2.2.2.1 + 1) mt.2.2.2.2.1 && Nat.ble (8 + (m_n mc + 11) + mc.2.2.2.2.2) mt.2.2.2.2.2
theorem qRoom_spec {mt mc : qMT} (h : qRoom mt mc = true) : (m_rm mc).frames + 1 ≤ (m_rm mt).frames ∧ 8 + (m_n mc + 11) + (m_rm mc).locals ≤ (m_rm mt).locals := by
  simp only [qRoom, Bool.and_eq_true, Nat.ble_eq] at h
  exact h
def qMI (mc : qMT) (n : Nat) : Prop := Cond.code (m_y mc) (m_b mc) (m_n mc) (m_r mc) ∈ qW ∧ Cond.initialized (m_y mc).cls ∈ qW ∧ ((m_y mc).cls ≠ "java/lang/invoke/MethodHandle" ∧ (m_y mc).cls ≠ "java/lang/invoke/VarHandle") ∧ (parseMethodDescriptor (m_y mc).desc).map (fun d => d.parameters.length) = some n
def qMV (mc : qMT) (n : Nat) : Prop := qMI mc n ∧ Cond.instanceMethod (m_y mc) ∈ qW ∧ Cond.selects (m_y mc).cls (m_y mc) (m_y mc) ∈ qW
def qMS (mc : qMT) (n : Nat) : Prop := qMI mc n ∧ Cond.static (m_y mc) ∈ qW
theorem q_cb {mc : qMT} {n idx : Nat} {p : Program} {s : State} {m : MethodId} {args : Array Value} {meth : Method} {c : Code} {sz : Nat} (C : qCtx g w mt sz p s m args meth c) (hm : qMI mc n) (hl : Cond.methodLink (m_y mt).cls idx (m_y mc) ∈ qW) (hR : qRoom mt mc = true) :
    CallB (m_rm mt) s args (m_y mt).cls idx (m_y mc) (m_b mc) (m_n mc) (m_r mc) (Cond.code (m_y mc) (m_b mc) (m_n mc) (m_r mc) :: qW) (m_rm mc) 0 0 n := by
  obtain ⟨h1, h2, h3, h4⟩ := hm
  have hts := C.2.2.2.2.2.2.1
  have hG : GoodIn qW (Cond.code (m_y mc) (m_b mc) (m_n mc) (m_r mc) :: qW) := fun z hz => by
    rcases List.mem_cons.mp hz with rfl | hz
    · exact qW_good _ h1
    · exact qW_good z hz
  refine ⟨rfl, rfl, (qRoom_spec hR).1, (qRoom_spec hR).2, pay_in hts hG, List.mem_cons_self, hts _ h1, hts _ h2, h3, fun sig h => ?_, hts _ hl⟩
  rw [h] at h4
  exact (Option.some.inj h4).symm
theorem R_callV {mc : qMT} {n idx r : Nat} {As : List Value} {ci : Nat} {fl : List (Option Nat)} {Qc : qQ} {stk : List Value} (hd : decode (m_b mt) pc = .ok (.invokevirtual idx, 3)) (hl : Cond.methodLink (m_y mt).cls idx (m_y mc) ∈ qW) (hm : qMV mc n) (hR : qRoom mt mc = true) (ho : r < qN g) (hs : qsh g r = .inl (ci, fl)) (hci : vwCl[ci]?.map (fun q => q.1) = some (m_y mc).cls) (hst : stk = As.reverse ++ .ref r :: st) (hn : As.length = n) (hcat : (st.map fun v => v.category).sum ≤ 8) (hM : qSem g mc (.ref r :: As) M Qc)
    (kk : ∀ v N, Qc v N → qRW g w mt (pc + 3) L (v.toList ++ st) N Q) : qRW g w mt pc L stk M Q := by
  intro p e s m args below meth c sz H locs lsA C hP hD hS hL
  subst hst
  have hts := C.2.2.2.2.2.2.1
  have he := qws_at (w := w) (M := M) ho
  rw [hs] at he
  obtain ⟨q, hq, hqe⟩ : ∃ q, vwCl[ci]? = some q ∧ q.1 = (m_y mc).cls := by
    cases hq : vwCl[ci]? with
    | none => rw [hq] at hci; cases hci
    | some q => rw [hq] at hci; exact ⟨q, rfl, Option.some.inj hci⟩
  have hrec := va_recv C.2.2.2.2.2.2.2.2.1 hP hq he
  rw [hqe] at hrec
  refine q_back C hD hS hL (va_runV (As := As.map (qcv w)) (C := (m_y mc).cls) (n := n) (Pc := va_Pc ((Value.ref r :: As).map (qcv w)) (qPre g w H.size M)) ⟨C.1, C.2.1, C.2.2.1, C.2.2.2.2.2.1, hts⟩ (hM w H.size) ⟨q_cb C hm.1 hl hR, hts _ hm.2.1, hts _ hm.2.2⟩ ⟨q_fits, hrec, fun U hU hW => ⟨rfl, q_pre C hP hD hS U hU hW⟩⟩ rfl (by rw [List.length_map]; exact hn) hL.1 (by simp [List.map_append, List.map_reverse, qcv]) (lv_room (by rw [q_cat]; exact hcat)) hd ⟨Nat.zero_le _, Nat.zero_le _⟩) kk
theorem R_callS {mc : qMT} {n idx : Nat} {As : List Value} {Qc : qQ} {stk : List Value} (hd : decode (m_b mt) pc = .ok (.invokestatic idx, 3)) (hl : Cond.methodLink (m_y mt).cls idx (m_y mc) ∈ qW) (hm : qMS mc n) (hR : qRoom mt mc = true) (hst : stk = As.reverse ++ st) (hn : As.length = n) (hcat : (st.map fun v => v.category).sum ≤ 8) (hM : qSem g mc As M Qc)
    (kk : ∀ v N, Qc v N → qRW g w mt (pc + 3) L (v.toList ++ st) N Q) : qRW g w mt pc L stk M Q := by
  intro p e s m args below meth c sz H locs lsA C hP hD hS hL
  subst hst
  have hts := C.2.2.2.2.2.2.1
  refine q_back C hD hS hL (va_runS (As := As.map (qcv w)) (n := n) (Pc := va_Pc (As.map (qcv w)) (qPre g w H.size M)) ⟨C.1, C.2.1, C.2.2.1, C.2.2.2.2.2.1, hts⟩ (hM w H.size) ⟨q_cb C hm.1 hl hR, hts _ hm.2⟩ ⟨q_fits, fun U hU hW => ⟨rfl, q_pre C hP hD hS U hU hW⟩⟩ rfl (by rw [List.length_map]; exact hn) hL.1 (by simp [List.map_append, List.map_reverse]) (lv_room (by rw [q_cat]; exact hcat)) hd ⟨Nat.zero_le _, Nat.zero_le _⟩) kk
theorem R_callSN {mc : qMT} {n idx : Nat} {host : String} {As : List Value} {Qc : qQ} {stk : List Value} (hd : decode (m_b mt) pc = .ok (.invokestatic idx, 3)) (hl : ∀ U, qNest U → va_Nw (.methodLinkNest (m_y mt).cls idx (m_y mc) host) U) (hm : qMS mc n) (hR : qRoom mt mc = true) (hst : stk = As.reverse ++ st) (hn : As.length = n) (hcat : (st.map fun v => v.category).sum ≤ 8) (hM : qSem g mc As M Qc)
    (kk : ∀ v N, Qc v N → qRW g w mt (pc + 3) L (v.toList ++ st) N Q) : qRW g w mt pc L stk M Q := by
  intro p e s m args below meth c sz H locs lsA C hP hD hS hL
  subst hst
  have hts := C.2.2.2.2.2.2.1
  obtain ⟨h1, h2, h3, h4⟩ := hm.1
  have hG : GoodIn qW (Cond.code (m_y mc) (m_b mc) (m_n mc) (m_r mc) :: qW) := fun z hz => by
    rcases List.mem_cons.mp hz with rfl | hz
    · exact qW_good _ h1
    · exact qW_good z hz
  refine q_back C hD hS hL (va_runSN (host := host) (As := As.map (qcv w)) (n := n) (Pc := va_Pc (As.map (qcv w)) (qPre g w H.size M)) ⟨C.1, C.2.1, C.2.2.1, C.2.2.2.2.2.1, hts⟩ (hM w H.size) ⟨⟨⟨rfl, rfl, (qRoom_spec hR).1, (qRoom_spec hR).2, pay_in hts hG, List.mem_cons_self⟩, hts _ h1, hts _ h2, h3, fun sig h => by rw [h] at h4; exact (Option.some.inj h4).symm, va_Nw.use rfl (hl s C.2.2.2.2.2.2.2.2.2.1)⟩, hts _ hm.2, trivial⟩ ⟨q_fits, fun U hU hW => ⟨rfl, q_pre C hP hD hS U hU hW⟩⟩ rfl (by rw [List.length_map]; exact hn) hL.1 (by simp [List.map_append, List.map_reverse]) (lv_room (by rw [q_cat]; exact hcat)) hd ⟨Nat.zero_le _, Nat.zero_le _⟩) kk
end QR
