
-- ===== the world of a new object =====
theorem blk_at {D : va_G} {cl : List vw_C} {w : qWT} {u : Nat → Nat} {lo n o : Nat} {H : Heap} (h : va_P D cl (blk w u lo n) H) (h1 : lo ≤ o) (h2 : o < lo + n) : va_at D cl (u o, qcell (wA w u) qM0 o (qsh 0 o)) H := by
  refine h (o - lo) _ ?_
  have e : (List.range' lo n)[o - lo]? = some o := by
    rw [List.getElem?_range' (by omega)]
    congr 1; omega
  unfold blk
  rw [List.getElem?_map, e]; rfl
def rfB (lo hi : Nat) (ex : List Nat) : qShp → Bool
  | .inl (_, fl) => fl.all (fun f => match f with
    | none => true
    | some r => (decide (lo ≤ r) && decide (r < hi)) || decide (r ∈ ex))
  | .inr (n, k, b) => decide (k < 3) || (decide (lo ≤ b) && decide (b + n ≤ hi))
theorem qfl_tr {w : qWT} {u a : Nat → Nat} {M : qMem} {o : Nat} : ∀ (fl : List (Option Nat)) (k : Nat), (∀ r, some r ∈ fl → u r = a r) → qfl (wA w u) M o k fl = qfl (wA w a) M o k fl
  | [], _, _ => rfl
  | none :: t, k, h => by simp only [qfl]; rw [qfl_tr t (k + 1) (fun r hr => h r (List.mem_cons_of_mem _ hr))]
  | some r :: t, k, h => by
    simp only [qfl]
    rw [qfl_tr t (k + 1) (fun r hr => h r (List.mem_cons_of_mem _ hr)), show q_a (wA w u) r = q_a (wA w a) r from h r List.mem_cons_self]
theorem at_tr {D : va_G} {cl : List vw_C} {w : qWT} {u a : Nat → Nat} {M : qMem} {o x lo hi : Nat} {ex : List Nat} {s : qShp} {H : Heap} (hb : rfB lo hi ex s = true) (h1 : ∀ r, lo ≤ r → r < hi → u r = a r) (h2 : ∀ r, r ∈ ex → u r = a r) (h : va_at D cl (x, qcell (wA w u) M o s) H) : va_at D cl (x, qcell (wA w a) M o s) H := by
  rcases s with ⟨ci, fl⟩ | ⟨n, k, b⟩
  · have e : qfl (wA w u) M o 0 fl = qfl (wA w a) M o 0 fl := qfl_tr fl 0 (fun r hr => by
      have hz := List.all_eq_true.mp hb (some r) hr
      have hz : ((decide (lo ≤ r) && decide (r < hi)) || decide (r ∈ ex)) = true := hz
      rw [Bool.or_eq_true, Bool.and_eq_true, decide_eq_true_eq, decide_eq_true_eq, decide_eq_true_eq] at hz
      rcases hz with hz | hz
      · exact h1 r hz.1 hz.2
      · exact h2 r hz)
    have h9 : va_at D cl (x, .inr (ci, qfl (wA w u) M o 0 fl)) H := h
    rw [e] at h9; exact h9
  · have hz : (decide (k < 3) || (decide (lo ≤ b) && decide (b + n ≤ hi))) = true := hb
    rw [Bool.or_eq_true, Bool.and_eq_true, decide_eq_true_eq, decide_eq_true_eq, decide_eq_true_eq] at hz
    match k, hz, h with
    | 0, _, h => exact h
    | 1, _, h => exact h
    | 2, _, h => exact h
    | 3, hz, h =>
      have hz : lo ≤ b ∧ b + n ≤ hi := by rcases hz with hz | hz; omega; exact hz
      have h9 : H[x]? = some (vp_cell (q_k w 3) (n, .inr (.inr (.inr (.inr (fun j => some (u (b + j)))))))) := h
      show H[x]? = some (vp_cell (q_k w 3) (n, .inr (.inr (.inr (.inr (fun j => some (a (b + j))))))))
      rw [h9, g_arrQ (fun j hj => by rw [h1 (b + j) (by omega) (by omega)])]
    | (k + 4), hz, h =>
      have hz : lo ≤ b ∧ b + n ≤ hi := by rcases hz with hz | hz; omega; exact hz
      have h9 : H[x]? = some (vp_cell (q_k w 4) (n, .inr (.inr (.inr (.inr (fun j => some (u (b + j)))))))) := h
      show H[x]? = some (vp_cell (q_k w 4) (n, .inr (.inr (.inr (.inr (fun j => some (a (b + j))))))))
      rw [h9, g_arrQ (fun j hj => by rw [h1 (b + j) (by omega) (by omega)])]
def aX (w : qWT) (h0 : Nat) (u9 u20 u31 u42 u53 u64 u75 : Nat → Nat) : Nat → Nat := fun o => if o = 0 then h0 else if o < 14 then u9 o else if o < 25 then u20 o else if o < 36 then u42 o else if o < 90 then u53 o else if o < 96 then u64 o else if o < 101 then u75 o else if o < 106 then u31 o else if o < 1000 then u53 o else q_a w o
theorem aX_hi {w : qWT} {h0 : Nat} {u9 u20 u31 u42 u53 u64 u75 : Nat → Nat} {o : Nat} (h : 1000 ≤ o) : aX w h0 u9 u20 u31 u42 u53 u64 u75 o = q_a w o := by
  unfold aX
  rw [if_neg (show ¬ o = 0 by omega), if_neg (show ¬ o < 14 by omega), if_neg (show ¬ o < 25 by omega), if_neg (show ¬ o < 36 by omega), if_neg (show ¬ o < 90 by omega), if_neg (show ¬ o < 96 by omega), if_neg (show ¬ o < 101 by omega), if_neg (show ¬ o < 106 by omega), if_neg (show ¬ o < 1000 by omega)]
theorem aX_1 {w : qWT} {h0 : Nat} {u9 u20 u31 u42 u53 u64 u75 : Nat → Nat} {o : Nat} (h1 : 1 ≤ o) (h2 : o < 14) : aX w h0 u9 u20 u31 u42 u53 u64 u75 o = u9 o := by
  unfold aX
  rw [if_neg (show ¬ o = 0 by omega), if_pos (show o < 14 by omega)]
theorem aX_2 {w : qWT} {h0 : Nat} {u9 u20 u31 u42 u53 u64 u75 : Nat → Nat} {o : Nat} (h1 : 14 ≤ o) (h2 : o < 25) : aX w h0 u9 u20 u31 u42 u53 u64 u75 o = u20 o := by
  unfold aX
  rw [if_neg (show ¬ o = 0 by omega), if_neg (show ¬ o < 14 by omega), if_pos (show o < 25 by omega)]
theorem aX_3 {w : qWT} {h0 : Nat} {u9 u20 u31 u42 u53 u64 u75 : Nat → Nat} {o : Nat} (h1 : 25 ≤ o) (h2 : o < 36) : aX w h0 u9 u20 u31 u42 u53 u64 u75 o = u42 o := by
  unfold aX
  rw [if_neg (show ¬ o = 0 by omega), if_neg (show ¬ o < 14 by omega), if_neg (show ¬ o < 25 by omega), if_pos (show o < 36 by omega)]
theorem aX_4 {w : qWT} {h0 : Nat} {u9 u20 u31 u42 u53 u64 u75 : Nat → Nat} {o : Nat} (h1 : 36 ≤ o) (h2 : o < 90) : aX w h0 u9 u20 u31 u42 u53 u64 u75 o = u53 o := by
  unfold aX
  rw [if_neg (show ¬ o = 0 by omega), if_neg (show ¬ o < 14 by omega), if_neg (show ¬ o < 25 by omega), if_neg (show ¬ o < 36 by omega), if_pos (show o < 90 by omega)]
theorem aX_5 {w : qWT} {h0 : Nat} {u9 u20 u31 u42 u53 u64 u75 : Nat → Nat} {o : Nat} (h1 : 90 ≤ o) (h2 : o < 96) : aX w h0 u9 u20 u31 u42 u53 u64 u75 o = u64 o := by
  unfold aX
  rw [if_neg (show ¬ o = 0 by omega), if_neg (show ¬ o < 14 by omega), if_neg (show ¬ o < 25 by omega), if_neg (show ¬ o < 36 by omega), if_neg (show ¬ o < 90 by omega), if_pos (show o < 96 by omega)]
theorem aX_6 {w : qWT} {h0 : Nat} {u9 u20 u31 u42 u53 u64 u75 : Nat → Nat} {o : Nat} (h1 : 96 ≤ o) (h2 : o < 101) : aX w h0 u9 u20 u31 u42 u53 u64 u75 o = u75 o := by
  unfold aX
  rw [if_neg (show ¬ o = 0 by omega), if_neg (show ¬ o < 14 by omega), if_neg (show ¬ o < 25 by omega), if_neg (show ¬ o < 36 by omega), if_neg (show ¬ o < 90 by omega), if_neg (show ¬ o < 96 by omega), if_pos (show o < 101 by omega)]
theorem aX_7 {w : qWT} {h0 : Nat} {u9 u20 u31 u42 u53 u64 u75 : Nat → Nat} {o : Nat} (h1 : 101 ≤ o) (h2 : o < 106) : aX w h0 u9 u20 u31 u42 u53 u64 u75 o = u31 o := by
  unfold aX
  rw [if_neg (show ¬ o = 0 by omega), if_neg (show ¬ o < 14 by omega), if_neg (show ¬ o < 25 by omega), if_neg (show ¬ o < 36 by omega), if_neg (show ¬ o < 90 by omega), if_neg (show ¬ o < 96 by omega), if_neg (show ¬ o < 101 by omega), if_pos (show o < 106 by omega)]
theorem aX_8 {w : qWT} {h0 : Nat} {u9 u20 u31 u42 u53 u64 u75 : Nat → Nat} {o : Nat} (h1 : 106 ≤ o) (h2 : o < 117) : aX w h0 u9 u20 u31 u42 u53 u64 u75 o = u53 o := by
  unfold aX
  rw [if_neg (show ¬ o = 0 by omega), if_neg (show ¬ o < 14 by omega), if_neg (show ¬ o < 25 by omega), if_neg (show ¬ o < 36 by omega), if_neg (show ¬ o < 90 by omega), if_neg (show ¬ o < 96 by omega), if_neg (show ¬ o < 101 by omega), if_neg (show ¬ o < 106 by omega), if_pos (show o < 1000 by omega)]
theorem rf_1 : ∀ k : Fin 117, 1 ≤ k.val → k.val < 14 → rfB 1 14 [] (qsh 0 k.val) = true := by decide +kernel
theorem rf_2 : ∀ k : Fin 117, 14 ≤ k.val → k.val < 25 → rfB 14 25 [] (qsh 0 k.val) = true := by decide +kernel
theorem rf_3 : ∀ k : Fin 117, 25 ≤ k.val → k.val < 36 → rfB 25 36 [] (qsh 0 k.val) = true := by decide +kernel
theorem rf_4 : ∀ k : Fin 117, 36 ≤ k.val → k.val < 90 → rfB 36 90 [111] (qsh 0 k.val) = true := by decide +kernel
theorem rf_5 : ∀ k : Fin 117, 90 ≤ k.val → k.val < 96 → rfB 90 96 [] (qsh 0 k.val) = true := by decide +kernel
theorem rf_6 : ∀ k : Fin 117, 96 ≤ k.val → k.val < 101 → rfB 96 101 [] (qsh 0 k.val) = true := by decide +kernel
theorem rf_7 : ∀ k : Fin 117, 101 ≤ k.val → k.val < 106 → rfB 101 106 [] (qsh 0 k.val) = true := by decide +kernel
theorem rf_8 : ∀ k : Fin 117, 106 ≤ k.val → k.val < 117 → rfB 106 117 [] (qsh 0 k.val) = true := by decide +kernel
set_option maxRecDepth 100000 in
set_option maxHeartbeats 4000000 in
theorem glueX {w : qWT} {H : Heap} {h0 : Nat} {u9 u20 u31 u42 u53 u64 u75 : Nat → Nat} (hP : va_P (q_D w) vwCl ((((((([(h0, .inr (7, [.ref (u9 1), .ref (u20 14), .ref (u31 101), .ref (u42 30), .ref (u53 36), .ref (u64 90), .ref (u75 96)]))] ++ blk w u9 1 13) ++ blk w u20 14 11) ++ blk w u31 101 5) ++ blk w u42 25 11) ++ (blk w u53 36 54 ++ blk w u53 106 11)) ++ blk w u64 90 6) ++ blk w u75 96 5) H) : va_P (q_D w) vwCl (qws 0 (wA w (aX w h0 u9 u20 u31 u42 u53 u64 u75)) qM0) H := by
  have hB1 : va_P (q_D w) vwCl (blk w u9 1 13) H := fun k q hk2 => hP _ q (g_left (g_left (g_left (g_left (g_left (g_left (g_right hk2)))))))
  have hB2 : va_P (q_D w) vwCl (blk w u20 14 11) H := fun k q hk2 => hP _ q (g_left (g_left (g_left (g_left (g_left (g_right hk2))))))
  have hB3 : va_P (q_D w) vwCl (blk w u42 25 11) H := fun k q hk2 => hP _ q (g_left (g_left (g_left (g_right hk2))))
  have hB4 : va_P (q_D w) vwCl (blk w u53 36 54) H := fun k q hk2 => hP _ q (g_left (g_left (g_right (g_left hk2))))
  have hB5 : va_P (q_D w) vwCl (blk w u64 90 6) H := fun k q hk2 => hP _ q (g_left (g_right hk2))
  have hB6 : va_P (q_D w) vwCl (blk w u75 96 5) H := fun k q hk2 => hP _ q (g_right hk2)
  have hB7 : va_P (q_D w) vwCl (blk w u31 101 5) H := fun k q hk2 => hP _ q (g_left (g_left (g_left (g_left (g_right hk2)))))
  have hB8 : va_P (q_D w) vwCl (blk w u53 106 11) H := fun k q hk2 => hP _ q (g_left (g_left (g_right (g_right hk2))))
  intro k q hk
  have hk9 : k < 117 := by have := (List.getElem?_eq_some_iff.mp hk).1; rw [qws_len] at this; exact this
  rw [qws_at (g := 0) hk9] at hk
  cases hk
  have hc : k = 0 ∨ (1 ≤ k ∧ k < 14) ∨ (14 ≤ k ∧ k < 25) ∨ (25 ≤ k ∧ k < 36) ∨ (36 ≤ k ∧ k < 90) ∨ (90 ≤ k ∧ k < 96) ∨ (96 ≤ k ∧ k < 101) ∨ (101 ≤ k ∧ k < 106) ∨ (106 ≤ k ∧ k < 117) := by omega
  rcases hc with rfl | hc | hc | hc | hc | hc | hc | hc | hc
  · exact hP 0 _ rfl
  · show va_at (q_D w) vwCl ((aX w h0 u9 u20 u31 u42 u53 u64 u75) k, qcell (wA w (aX w h0 u9 u20 u31 u42 u53 u64 u75)) qM0 k (qsh 0 k)) H
    have e : (aX w h0 u9 u20 u31 u42 u53 u64 u75) k = u9 k := aX_1 hc.1 hc.2
    have h9 := at_tr (a := (aX w h0 u9 u20 u31 u42 u53 u64 u75)) (rf_1 ⟨k, hk9⟩ hc.1 hc.2) (fun r q1 q2 => (aX_1 q1 q2).symm) (fun r hr => absurd hr (by simp)) (blk_at hB1 hc.1 hc.2)
    rw [← e] at h9; exact h9
  · show va_at (q_D w) vwCl ((aX w h0 u9 u20 u31 u42 u53 u64 u75) k, qcell (wA w (aX w h0 u9 u20 u31 u42 u53 u64 u75)) qM0 k (qsh 0 k)) H
    have e : (aX w h0 u9 u20 u31 u42 u53 u64 u75) k = u20 k := aX_2 hc.1 hc.2
    have h9 := at_tr (a := (aX w h0 u9 u20 u31 u42 u53 u64 u75)) (rf_2 ⟨k, hk9⟩ hc.1 hc.2) (fun r q1 q2 => (aX_2 q1 q2).symm) (fun r hr => absurd hr (by simp)) (blk_at hB2 hc.1 hc.2)
    rw [← e] at h9; exact h9
  · show va_at (q_D w) vwCl ((aX w h0 u9 u20 u31 u42 u53 u64 u75) k, qcell (wA w (aX w h0 u9 u20 u31 u42 u53 u64 u75)) qM0 k (qsh 0 k)) H
    have e : (aX w h0 u9 u20 u31 u42 u53 u64 u75) k = u42 k := aX_3 hc.1 hc.2
    have h9 := at_tr (a := (aX w h0 u9 u20 u31 u42 u53 u64 u75)) (rf_3 ⟨k, hk9⟩ hc.1 hc.2) (fun r q1 q2 => (aX_3 q1 q2).symm) (fun r hr => absurd hr (by simp)) (blk_at hB3 hc.1 hc.2)
    rw [← e] at h9; exact h9
  · show va_at (q_D w) vwCl ((aX w h0 u9 u20 u31 u42 u53 u64 u75) k, qcell (wA w (aX w h0 u9 u20 u31 u42 u53 u64 u75)) qM0 k (qsh 0 k)) H
    have e : (aX w h0 u9 u20 u31 u42 u53 u64 u75) k = u53 k := aX_4 hc.1 hc.2
    have h9 := at_tr (a := (aX w h0 u9 u20 u31 u42 u53 u64 u75)) (rf_4 ⟨k, hk9⟩ hc.1 hc.2) (fun r q1 q2 => (aX_4 q1 q2).symm) (fun r hr => by rw [List.mem_singleton.mp hr, aX_8 (by omega) (by omega)]) (blk_at hB4 hc.1 hc.2)
    rw [← e] at h9; exact h9
  · show va_at (q_D w) vwCl ((aX w h0 u9 u20 u31 u42 u53 u64 u75) k, qcell (wA w (aX w h0 u9 u20 u31 u42 u53 u64 u75)) qM0 k (qsh 0 k)) H
    have e : (aX w h0 u9 u20 u31 u42 u53 u64 u75) k = u64 k := aX_5 hc.1 hc.2
    have h9 := at_tr (a := (aX w h0 u9 u20 u31 u42 u53 u64 u75)) (rf_5 ⟨k, hk9⟩ hc.1 hc.2) (fun r q1 q2 => (aX_5 q1 q2).symm) (fun r hr => absurd hr (by simp)) (blk_at hB5 hc.1 hc.2)
    rw [← e] at h9; exact h9
  · show va_at (q_D w) vwCl ((aX w h0 u9 u20 u31 u42 u53 u64 u75) k, qcell (wA w (aX w h0 u9 u20 u31 u42 u53 u64 u75)) qM0 k (qsh 0 k)) H
    have e : (aX w h0 u9 u20 u31 u42 u53 u64 u75) k = u75 k := aX_6 hc.1 hc.2
    have h9 := at_tr (a := (aX w h0 u9 u20 u31 u42 u53 u64 u75)) (rf_6 ⟨k, hk9⟩ hc.1 hc.2) (fun r q1 q2 => (aX_6 q1 q2).symm) (fun r hr => absurd hr (by simp)) (blk_at hB6 hc.1 hc.2)
    rw [← e] at h9; exact h9
  · show va_at (q_D w) vwCl ((aX w h0 u9 u20 u31 u42 u53 u64 u75) k, qcell (wA w (aX w h0 u9 u20 u31 u42 u53 u64 u75)) qM0 k (qsh 0 k)) H
    have e : (aX w h0 u9 u20 u31 u42 u53 u64 u75) k = u31 k := aX_7 hc.1 hc.2
    have h9 := at_tr (a := (aX w h0 u9 u20 u31 u42 u53 u64 u75)) (rf_7 ⟨k, hk9⟩ hc.1 hc.2) (fun r q1 q2 => (aX_7 q1 q2).symm) (fun r hr => absurd hr (by simp)) (blk_at hB7 hc.1 hc.2)
    rw [← e] at h9; exact h9
  · show va_at (q_D w) vwCl ((aX w h0 u9 u20 u31 u42 u53 u64 u75) k, qcell (wA w (aX w h0 u9 u20 u31 u42 u53 u64 u75)) qM0 k (qsh 0 k)) H
    have e : (aX w h0 u9 u20 u31 u42 u53 u64 u75) k = u53 k := aX_8 hc.1 hc.2
    have h9 := at_tr (a := (aX w h0 u9 u20 u31 u42 u53 u64 u75)) (rf_8 ⟨k, hk9⟩ hc.1 hc.2) (fun r q1 q2 => (aX_8 q1 q2).symm) (fun r hr => absurd hr (by simp)) (blk_at hB8 hc.1 hc.2)
    rw [← e] at h9; exact h9
set_option maxRecDepth 100000 in
set_option maxHeartbeats 4000000 in
theorem glueXD {w : qWT} {A : Nat → Prop} {h0 : Nat} {u9 u20 u31 u42 u53 u64 u75 : Nat → Nat} (hD : va_D A ((((((([(h0, .inr (7, [.ref (u9 1), .ref (u20 14), .ref (u31 101), .ref (u42 30), .ref (u53 36), .ref (u64 90), .ref (u75 96)]))] ++ blk w u9 1 13) ++ blk w u20 14 11) ++ blk w u31 101 5) ++ blk w u42 25 11) ++ (blk w u53 36 54 ++ blk w u53 106 11)) ++ blk w u64 90 6) ++ blk w u75 96 5)) : va_D A (qws 0 (wA w (aX w h0 u9 u20 u31 u42 u53 u64 u75)) qM0) := (hD.sub (ws' := (((((((([(h0, .inr (7, [.ref (u9 1), .ref (u20 14), .ref (u31 101), .ref (u42 30), .ref (u53 36), .ref (u64 90), .ref (u75 96)]))] ++ blk w u9 1 13) ++ blk w u20 14 11) ++ blk w u42 25 11) ++ blk w u53 36 54) ++ blk w u64 90 6) ++ blk w u75 96 5) ++ blk w u31 101 5) ++ blk w u53 106 11)) [0, 1, 2, 3, 4, 5, 6, 7, 8, 9, 10, 11, 12, 13, 14, 15, 16, 17, 18, 19, 20, 21, 22, 23, 24, 30, 31, 32, 33, 34, 35, 36, 37, 38, 39, 40, 41, 42, 43, 44, 45, 46, 47, 48, 49, 50, 51, 52, 53, 54, 55, 56, 57, 58, 59, 60, 61, 62, 63, 64, 65, 66, 67, 68, 69, 70, 71, 72, 73, 74, 75, 76, 77, 78, 79, 80, 81, 82, 83, 84, 85, 86, 87, 88, 89, 90, 91, 92, 93, 94, 106, 107, 108, 109, 110, 111, 112, 113, 114, 115, 116, 25, 26, 27, 28, 29, 95, 96, 97, 98, 99, 100, 101, 102, 103, 104, 105] (by decide +kernel) rfl).fst rfl
set_option maxRecDepth 100000 in
set_option maxHeartbeats 4000000 in
theorem c_lay9 {M : qMem} {tx : List Nat} {d : dT} (hT : XT M tx) (htB : txB tx) (hr : rdR tx = .inr d) (hH0 : XH M []) (hk2 : 2 ≤ dK d) : qSem 0 mX7_layScript [.ref 0] M (fun r N => r = some (.int (nI (dK d))) ∧ XR 14 N d ∧ XH N [] ∧ XL N [] ∧ (∀ o, (o < 90 ∨ 101 ≤ o) ∧ ¬ (3 ≤ o ∧ o < 25) → N.1 o = M.1 o ∧ N.2 o = M.2 o) ∧ N.1 14 7 = M.1 14 7 + nI 1) := by
  obtain ⟨hDB, hD4⟩ := rdR_G hr
  have hK6 := hDB.2.1
  refine qSem.of (by decide +kernel) (Nat.le_of_ble_eq_true rfl) (fun w => ?_)
  refine R_ls (L' := [(0, .ref 0)]) (qs1 rfl qs0) ?_
  refine R_aload_n dX7_layScript_0 rfl ?_
  refine R_getR dX7_layScript_1 lg_RX7_12 (by decide) rfl rfl ?_
  refine R_callV (mc := mX4_read) (As := []) (r := 1) dX7_layScript_4 lm_RX7_81 mv_X4_read rfl (by decide) rfl rfl rfl rfl (Nat.le_of_ble_eq_true rfl) (c_read hT htB) ?_
  rintro _ _ ⟨hq, hO⟩
  rw [hr] at hq
  obtain ⟨rfl, hq2⟩ := hq
  refine R_bipush (v := -4) dX7_layScript_7 rfl ?_
  refine R_icmp_ne (tgt := 26) dX7_layScript_9 (by decide) (fun h_9 => by exact absurd rfl h_9) (fun h_9 => ?_)
  refine R_aload_n dX7_layScript_12 rfl ?_
  refine R_getR dX7_layScript_13 lg_RX7_12 (by decide) rfl rfl ?_
  refine R_callV (mc := mX4_draft) (As := []) (r := 1) dX7_layScript_16 lm_RX7_84 mv_X4_draft rfl (by decide) rfl rfl rfl rfl (Nat.le_of_ble_eq_true rfl) c_draft ?_
  rintro _ _ ⟨rfl, rfl⟩
  refine R_callV (mc := mX3_stations) (As := []) (r := 3) dX7_layScript_19 lm_RX7_88 mv_X3_stations rfl (by decide) rfl rfl rfl rfl (Nat.le_of_ble_eq_true rfl) c_stations_3 ?_
  rintro _ _ ⟨rfl, rfl⟩
  refine R_top (y := nI (dK d)) hq2.2.1 ?_
  refine R_iconst (v := nI 2) dX7_layScript_22 rfl ?_
  refine R_icmp_geN (tgt := 29) dX7_layScript_23 (by decide) (by omega) (by omega) (fun h_23 => ?_) (fun h_23 => ?_)
  · refine R_aload_n dX7_layScript_29 rfl ?_
    refine R_getR dX7_layScript_30 lg_RX7_19 (by decide) rfl rfl ?_
    refine R_aload_n dX7_layScript_33 rfl ?_
    refine R_getR dX7_layScript_34 lg_RX7_12 (by decide) rfl rfl ?_
    refine R_callV (mc := mX4_draft) (As := []) (r := 1) dX7_layScript_37 lm_RX7_84 mv_X4_draft rfl (by decide) rfl rfl rfl rfl (Nat.le_of_ble_eq_true rfl) c_draft ?_
    rintro _ _ ⟨rfl, rfl⟩
    refine R_callV (mc := mX3_copyFrom) (As := [_]) (r := 14) dX7_layScript_40 lm_RX7_91 mv_X3_copyFrom rfl (by decide) rfl rfl rfl rfl (Nat.le_of_ble_eq_true rfl) (c_copyFrom hq2 hDB) ?_
    rintro _ _ ⟨rfl, hR, hO2, hv⟩
    refine R_aload_n dX7_layScript_43 rfl ?_
    refine R_getR dX7_layScript_44 lg_RX7_54 (by decide) rfl rfl ?_
    refine R_callV (mc := mX2_clear) (As := []) (r := 96) dX7_layScript_47 lm_RX7_95 mv_X2_clear rfl (by decide) rfl rfl rfl rfl (Nat.le_of_ble_eq_true rfl) c_gclear ?_
    rintro _ _ ⟨rfl, hL, hO3⟩
    refine R_aload_n dX7_layScript_50 rfl ?_
    refine R_getR dX7_layScript_51 lg_RX7_47 (by decide) rfl rfl ?_
    refine R_callV (mc := mX1_clear) (As := []) (r := 90) dX7_layScript_54 lm_RX7_96 mv_X1_clear rfl (by decide) rfl rfl rfl rfl (Nat.le_of_ble_eq_true rfl) (c_hclear (hH0.off (fun o a b => by rw [(hO3 o (by unfold oLe; omega)).1, (hO2 o (by unfold oRe; omega)).1, (hO o (by unfold oDr; omega)).1]))) ?_
    rintro _ _ ⟨rfl, hH, hO4⟩
    refine R_aload_n dX7_layScript_57 rfl ?_
    refine R_getR dX7_layScript_58 lg_RX7_19 (by decide) rfl rfl ?_
    refine R_callV (mc := mX3_stations) (As := []) (r := 14) dX7_layScript_61 lm_RX7_88 mv_X3_stations rfl (by decide) rfl rfl rfl rfl (Nat.le_of_ble_eq_true rfl) c_stations_14 ?_
    rintro _ _ ⟨rfl, rfl⟩
    refine R_top (y := nI (dK d)) (by rw [(hO4 14 (by unfold oHi; omega)).1, (hO3 14 (by unfold oLe; omega)).1]; exact hR.2.1) ?_
    refine R_ireturn dX7_layScript_64 rfl rfl ?_
    have e := @lay_e _ _ _ _ _ hO hO2 hO3 hO4
    have e14 := @lay_e4 _ _ _ hO3 hO4
    refine ⟨rfl, hR.off hK6 (fun o a b => e14 (by omega)), hH, hL.off (fun o a b => (hO4 o (by unfold oHi; omega)).1), fun o ho => e ho, ?_⟩
    rw [e14 (o := 14) (by omega), hv, (hO 14 (by unfold oDr; omega)).1]
  · refine R_bipush (v := -2) dX7_layScript_26 rfl ?_
    refine R_ireturn dX7_layScript_28 rfl rfl ?_
    exact absurd hk2 (by omega)

-- ===== what a new object holds =====
def d0 : dT := match rdR tx0 with
  | .inr d => d
  | .inl _ => dFresh
theorem rd_tx0 : rdR tx0 = .inr d0 ∧ dK d0 = 5 ∧ dY d0 = 14 := by
  have h : (match rdR tx0 with
    | .inr d => decide (dK d = 5) && decide (dY d = 14)
    | .inl _ => false) = true := by decide +kernel
  unfold d0
  cases e : rdR tx0 with
  | inl f => rw [e] at h; cases h
  | inr d =>
    rw [e] at h
    have h : (decide (dK d = 5) && decide (dY d = 14)) = true := h
    rw [Bool.and_eq_true, decide_eq_true_eq, decide_eq_true_eq] at h
    exact ⟨rfl, h.1, h.2⟩
theorem txB_0 : txB tx0 := by
  have h : ∀ i : Fin 103, 32 ≤ lt tx0 i.val ∧ lt tx0 i.val ≤ 126 := by decide +kernel
  exact ⟨by decide, fun i hi => h ⟨i, hi⟩⟩
theorem txB_take {tx : List Nat} (h : txB tx) (i : Nat) : txB (tx.take i) := by
  refine ⟨by rw [List.length_take]; have := h.1; omega, fun j hj => ?_⟩
  rw [List.length_take] at hj
  have e : lt (tx.take i) j = lt tx j := by
    unfold lt
    rw [List.getD_eq_getElem?_getD, List.getD_eq_getElem?_getD, List.getElem?_take, if_pos (by omega)]
  rw [e]; exact h.2 j (by omega)
theorem XH_0 {M : qMem} (h1 : M.1 90 1 = nI 0) (h2 : M.1 90 2 = nI 0) : XH M [] := ⟨0, by decide, h1, h2, Nat.zero_le _, fun i x hi => by cases hi⟩
def s0 : sT := (d0, [], [], [])
theorem XI_0 {M N : qMem} (hM : ∀ o, o ≠ 1 → o ≠ 2 → M.1 o = qM0.1 o) (hM2 : M.2 = qM0.2) (hR : XR 14 N d0) (hH : XH N []) (hL : XL N []) (e : ∀ o, (o < 90 ∨ 101 ≤ o) ∧ ¬ (3 ≤ o ∧ o < 25) → N.1 o = M.1 o ∧ N.2 o = M.2 o) (h7 : N.1 14 7 = M.1 14 7 + nI 1) : XI 5 (qIs N 1 1 (nI 0)) s0 := by
  obtain ⟨hr, h5, h14⟩ := rd_tx0
  obtain ⟨hDB, -⟩ := rdR_G hr
  have hK6 := hDB.2.1
  have e7 : N.1 14 7 = nI 1 := by rw [h7, hM 14 (by decide) (by decide)]; decide
  have e36 : N.1 36 1 = -1 := by rw [(e 36 (by omega)).1, hM 36 (by decide) (by decide)]; decide
  have hz : ∀ o, (o < 90 ∨ 101 ≤ o) ∧ ¬ (3 ≤ o ∧ o < 25) → (qIs N 1 1 (nI 0)).2 o 0 = 0 := fun o ho => by rw [qIs_2, (e o ho).2, hM2]; rfl
  refine ⟨hR.off hK6 (fun o a b => by rw [qIs_no (by omega)]), hDB, ⟨by show 4 ≤ dY d0; omega, by show 2 ≤ dK d0; omega⟩, ⟨⟨hz 28 (by omega), hz 29 (by omega)⟩, ⟨hz 104 (by omega), hz 105 (by omega)⟩, ⟨hz 109 (by omega), hz 110 (by omega)⟩⟩, hH.off (fun o a b => by rw [qIs_no (by omega)]), hL.off (fun o a b => by rw [qIs_no (by omega)]), ⟨by rw [qIs_eq]; rfl, fun i hi => absurd hi (Nat.not_lt_zero i)⟩, ⟨Nat.zero_le _, fun i hi => absurd hi (Nat.not_lt_zero i)⟩, ⟨⟨1, by rw [qIs_no (by decide)]; exact e7, by decide, Or.inl (by rw [qIs_no (by decide)]; exact e36)⟩, fun z => ?_⟩, True.intro⟩
  · rw [qIs_no (by decide), qIs_no (by decide), e7, e36] at z
    exact absurd z (by decide)
