
-- ===== size, the next culprit =====
def szT (d : dT) (P : pT) (B : Nat → Nat → Bool) (c t : Nat) : Nat → Int64
  | 0 => 0
  | p + 1 => if isO P p c && B p t then szT d P B c t p + (if pf P p = c then shf d (pf P p) (ps P p) t else - shf d (pf P p) (ps P p) t) else szT d P B c t p
def szF (d : dT) (P : pT) (B : Nat → Nat → Bool) (c t : Nat) : Int32 := rmean (szT d P B c t P.length) (cnt P B c t)
def BB (d : dT) (P : pT) (B : Nat → Nat → Bool) : Prop := ∀ p t, p < P.length → B p t = true → brk d (pf P p) (ps P p) t = true
theorem brk_lt {d : dT} (hB : dB d) {u v t : Nat} (h : brk d u v t = true) : t < dY d := by
  have k : ∀ n, n ≤ bN d u v → brT d u v t n = true → t < dY d := by
    intro n
    induction n with
    | zero => intro _ h; cases h
    | succ n ih =>
      intro hn h
      unfold brT at h
      rw [Bool.or_eq_true, decide_eq_true_eq] at h
      rcases h with h | h
      · exact ih (by omega) h
      · rw [← h]; exact bY_lt hB hn
  exact k _ (Nat.le_refl _) h
def fIn (f : Nat → Nat → Nat) (c : Nat) (s : Nat × Option (Nat × Nat)) : Nat → Nat × Option (Nat × Nat)
  | 0 => s
  | t + 1 => if (fIn f c s t).1 < f c t then (f c t, some (c, t)) else fIn f c s t
def fAl (f : Nat → Nat → Nat) (Y : Nat) (s : Nat × Option (Nat × Nat)) : Nat → Nat × Option (Nat × Nat)
  | 0 => s
  | c + 1 => fIn f c (fAl f Y s c) Y
def fnd (d : dT) (f : Nat → Nat → Nat) : Nat × Option (Nat × Nat) := fAl f (dY d) (dR d 2 - 1, none) (dK d)
def oN (x : Option (Nat × Nat)) : Nat := match x with
  | none => 0
  | some _ => 1
theorem fIn_b {f : Nat → Nat → Nat} (hf : ∀ c t, f c t ≤ 15) {c : Nat} {s : Nat × Option (Nat × Nat)} (hs : s.1 ≤ 15) : ∀ n, (fIn f c s n).1 ≤ 15
  | 0 => hs
  | n + 1 => by
    unfold fIn
    split
    · exact hf c n
    · exact fIn_b hf hs n
theorem fAl_b {f : Nat → Nat → Nat} (hf : ∀ c t, f c t ≤ 15) {Y : Nat} {s : Nat × Option (Nat × Nat)} (hs : s.1 ≤ 15) : ∀ n, (fAl f Y s n).1 ≤ 15
  | 0 => hs
  | n + 1 => fIn_b hf (fAl_b hf hs n) Y
/-- the place that was found is a place -/
def fOk (K Y : Nat) (x : Option (Nat × Nat)) : Prop := ∀ q, x = some q → q.1 < K ∧ q.2 < Y
theorem fIn_ok {f : Nat → Nat → Nat} {c K Y : Nat} {s : Nat × Option (Nat × Nat)} (hc : c < K) (hs : fOk K Y s.2) : ∀ n, n ≤ Y → fOk K Y (fIn f c s n).2
  | 0, _ => hs
  | n + 1, hn => by
    unfold fIn
    split
    · intro q hq; cases hq; exact ⟨hc, by omega⟩
    · exact fIn_ok hc hs n (by omega)
theorem fAl_ok {f : Nat → Nat → Nat} {K Y : Nat} {s : Nat × Option (Nat × Nat)} (hs : fOk K Y s.2) : ∀ n, n ≤ K → fOk K Y (fAl f Y s n).2
  | 0, _ => hs
  | n + 1, hn => fIn_ok (by omega) (fAl_ok hs n (by omega)) Y (Nat.le_refl Y)
theorem cnt_15 {P : pT} {B : Nat → Nat → Bool} (h : P.length ≤ 15) (c t : Nat) : cnt P B c t ≤ 15 := Nat.le_trans (cnI_le _ _ _ _ _) h

theorem CB.mv {M N : qMem} {P : pT} (h : CB M P) (e : ∀ o, 36 ≤ o → o < 86 → N.1 o = M.1 o) : CB N P := ⟨by rw [e 36 (by omega) (by omega)]; exact h.1, h.2.1, fun p hp => by rw [e 37 (by omega) (by omega), e 38 (by omega) (by omega)]; exact h.2.2 p hp⟩
theorem CO.mv {M N : qMem} {P : pT} {B : Nat → Nat → Bool} (h : CO M P B) (hC : CB M P) (e : ∀ o, 36 ≤ o → o < 86 → N.1 o = M.1 o) : CO N P B := fun p t hp ht => by have := hC.2.1; rw [e (44 + p) (by omega) (by omega)]; exact h p t hp ht
theorem CH.mv {M N : qMem} {P : pT} {d : dT} (h : CH M P d) (e : N.2 = M.2) : CH N P d := fun p t hp ht hb => by rw [e]; exact h p t hp ht hb
theorem CV.mv {b : Nat} {M N : qMem} {P : pT} {B : Nat → Nat → Bool} (h : CV b M P B) (e : ∀ c, c < 6 → N.1 (b + c) = M.1 (b + c)) : CV b N P B := fun c t hc ht => by rw [e c hc]; exact h c t hc ht
set_option maxRecDepth 100000 in
set_option maxHeartbeats 4000000 in
theorem l_size {w : qWT} {M : qMem} {d : dT} {P : pT} {B : Nat → Nat → Bool} (hC : CB M P) (hO : CO M P B) (hH : CH M P d) (hb : BB d P B) {c t : Nat} (hc : c < 6) (ht : t < 16) : ∀ (fu : Nat) (p : Nat), (16 - p) < fu → (p ≤ P.length) → qRW 0 w mX0_size 8 [(0, .ref 36), (1, .int (nI c)), (2, .int (nI t)), (3, .long (szT d P B c t p)), (5, .int (nI (cnI P B c t p))), (6, .int (nI p))] [] M (qr (szF d P B c t) M) := by
  intro fu
  induction fu with
  | zero => intro p hn; exact absurd hn (Nat.not_lt_zero _)
  | succ fu ih =>
    intro p hn hp
    have hP := hC.2.1
    have hcn := cnI_le P B c t p
    refine R_iload dX0_size_8 rfl ?_
    refine R_aload_n dX0_size_10 rfl ?_
    refine R_getI dX0_size_11 (lf_RX0_77).get (by decide) rfl rfl ?_
    refine R_top (y := nI P.length) hC.1 ?_
    refine R_icmp_geN (tgt := 85) dX0_size_14 (by decide) (by omega) (by omega) (fun h_14 => ?_) (fun h_14 => ?_)
    · refine R_lload_n dX0_size_85 rfl ?_
      refine R_iload dX0_size_86 rfl ?_
      refine R_callSN (mc := mX7_roundedMean) (As := [_, _]) dX0_size_88 lm_RX0_114 mv_X7_roundedMean rfl rfl rfl (Nat.le_of_ble_eq_true rfl) (c_rmean (by omega)) ?_
      rintro _ _ ⟨rfl, rfl⟩
      refine R_ireturn dX0_size_91 rfl rfl ?_
      have e : p = P.length := by omega
      subst e
      exact ⟨rfl, rfl⟩
    · obtain ⟨q1, q2, q3, q4⟩ := hC.2.2 p h_14
      have hop := hO p t h_14 ht
      refine R_aload_n dX0_size_17 rfl ?_
      refine R_iload dX0_size_18 rfl ?_
      refine R_iload_n dX0_size_20 rfl ?_
      refine R_callV (mc := mX0_isOf) (As := [_, _]) (r := 36) dX0_size_21 lm_RX0_111 mv_X0_isOf rfl (by decide) rfl rfl rfl rfl (Nat.le_of_ble_eq_true rfl) (c_isOf hC h_14 hc) ?_
      rintro _ _ ⟨rfl, ⟨rfl, hi⟩ | ⟨rfl, hi⟩⟩
      · refine R_if_eqN (tgt := 79) dX0_size_24 (by decide) (by omega) (fun h_24 => by exact absurd h_24 (by decide)) (fun h_24 => ?_)
        refine R_aload_n dX0_size_27 rfl ?_
        refine R_getR dX0_size_28 lg_RX0_31 (by decide) rfl rfl ?_
        refine R_iload dX0_size_31 rfl ?_
        refine R_aald3N dX0_size_33 (by decide) rfl (by omega) (by decide) ?_
        refine R_iload_n dX0_size_34 rfl ?_
        refine R_ialdN dX0_size_35 (show 44 + p < 117 by have := ((by omega) : p < 15); omega) (sh_opn (by omega)) (by omega) (by decide) ?_
        refine R_top (y := if B p t then nI 1 else nI 0) hop ?_
        refine R_iconst (v := nI 1) dX0_size_36 rfl ?_
        refine R_icmp_ne (tgt := 79) dX0_size_37 (by decide) (fun h_37 => ?_) (fun h_37 => ?_)
        · have hBf : B p t = false := by cases e : B p t with | false => rfl | true => rw [e] at h_37; exact absurd rfl h_37
          refine R_iincN (n := 1) (L' := [(0, .ref 36), (1, .int (nI c)), (2, .int (nI t)), (3, .long (szT d P B c t p)), (5, .int (nI (cnI P B c t p))), (6, .int (nI (p + 1)))]) dX0_size_79 rfl (by decide) (qs1 rfl (qs1 rfl (qs1 rfl (qs1 rfl (qs1 rfl (qs1 rfl qs0)))))) ?_
          refine R_goto (tgt := 8) dX0_size_82 (by decide) ?_
          refine R_ls (L' := [(0, .ref 36), (1, .int (nI c)), (2, .int (nI t)), (3, .long (szT d P B c t p)), (5, .int (nI (cnI P B c t p))), (6, .int (nI (p + 1)))]) (qs1 rfl (qs1 rfl (qs1 rfl (qs1 rfl (qs1 rfl (qs1 rfl qs0)))))) ?_
          exact (by have h := ih (p + 1) (by omega) h_14; rw [show szT d P B c t (p + 1) = if isO P p c && B p t then szT d P B c t p + (if pf P p = c then shf d (pf P p) (ps P p) t else - shf d (pf P p) (ps P p) t) else szT d P B c t p from rfl, show cnI P B c t (p + 1) = cnI P B c t p + (if isO P p c && B p t then 1 else 0) from rfl] at h; first | (rw [hi, hBt, Bool.and_true, if_pos rfl, if_pos rfl, if_pos h_49] at h; exact h) | (rw [hi, hBt, Bool.and_true, if_pos rfl, if_pos rfl, if_neg h_49] at h; exact h) | (rw [hBf, Bool.and_false, if_neg (by decide), if_neg (by decide)] at h; exact h) | (rw [Bool.eq_false_iff.mpr hi, Bool.false_and, if_neg (by decide), if_neg (by decide)] at h; exact h))
        · have hBt : B p t = true := by cases e : B p t with | true => rfl | false => rw [e] at h_37; exact absurd h_37 (by decide)
          have hsh := hH p t h_14 ht (hb p t h_14 hBt)
          refine R_lload_n dX0_size_40 rfl ?_
          refine R_aload_n dX0_size_41 rfl ?_
          refine R_getR dX0_size_42 lg_RX0_22 (by decide) rfl rfl ?_
          refine R_iload dX0_size_45 rfl ?_
          refine R_ialdN dX0_size_47 (by decide) rfl (by omega) (by decide) ?_
          refine R_top (y := nI (pf P p)) q1 ?_
          refine R_iload_n dX0_size_48 rfl ?_
          refine R_icmp_neN (tgt := 64) dX0_size_49 (by decide) (by omega) (by omega) (fun h_49 => ?_) (fun h_49 => ?_)
          · refine R_aload_n dX0_size_64 rfl ?_
            refine R_getR dX0_size_65 lg_RX0_36 (by decide) rfl rfl ?_
            refine R_iload dX0_size_68 rfl ?_
            refine R_aald4N dX0_size_70 (by decide) rfl (by omega) (by decide) ?_
            refine R_iload_n dX0_size_71 rfl ?_
            refine R_laldN dX0_size_72 (show 59 + p < 117 by have := ((by omega) : p < 15); omega) (sh_shf (by omega)) (by omega) (by decide) ?_
            refine R_topL (y := shf d (pf P p) (ps P p) t) hsh ?_
            refine R_lneg dX0_size_73 ?_
            refine R_ladd dX0_size_74 ?_
            refine R_lstore_n (L' := [(0, .ref 36), (1, .int (nI c)), (2, .int (nI t)), (3, .long _), (5, .int (nI (cnI P B c t p))), (6, .int (nI p))]) dX0_size_75 (by decide) (qs1 rfl (qs1 rfl (qs1 rfl (qs1 rfl (qs1 rfl (qs1 rfl qs0)))))) ?_
            refine R_iincN (n := 1) (L' := [(0, .ref 36), (1, .int (nI c)), (2, .int (nI t)), (3, .long _), (5, .int (nI ((cnI P B c t p) + 1))), (6, .int (nI p))]) dX0_size_76 rfl (by decide) (qs1 rfl (qs1 rfl (qs1 rfl (qs1 rfl (qs1 rfl (qs1 rfl qs0)))))) ?_
            refine R_iincN (n := 1) (L' := [(0, .ref 36), (1, .int (nI c)), (2, .int (nI t)), (3, .long _), (5, .int (nI ((cnI P B c t p) + 1))), (6, .int (nI (p + 1)))]) dX0_size_79 rfl (by decide) (qs1 rfl (qs1 rfl (qs1 rfl (qs1 rfl (qs1 rfl (qs1 rfl qs0)))))) ?_
            refine R_goto (tgt := 8) dX0_size_82 (by decide) ?_
            refine R_ls (L' := [(0, .ref 36), (1, .int (nI c)), (2, .int (nI t)), (3, .long _), (5, .int (nI ((cnI P B c t p) + 1))), (6, .int (nI (p + 1)))]) (qs1 rfl (qs1 rfl (qs1 rfl (qs1 rfl (qs1 rfl (qs1 rfl qs0)))))) ?_
            exact (by have h := ih (p + 1) (by omega) h_14; rw [show szT d P B c t (p + 1) = if isO P p c && B p t then szT d P B c t p + (if pf P p = c then shf d (pf P p) (ps P p) t else - shf d (pf P p) (ps P p) t) else szT d P B c t p from rfl, show cnI P B c t (p + 1) = cnI P B c t p + (if isO P p c && B p t then 1 else 0) from rfl] at h; first | (rw [hi, hBt, Bool.and_true, if_pos rfl, if_pos rfl, if_pos h_49] at h; exact h) | (rw [hi, hBt, Bool.and_true, if_pos rfl, if_pos rfl, if_neg h_49] at h; exact h) | (rw [hBf, Bool.and_false, if_neg (by decide), if_neg (by decide)] at h; exact h) | (rw [Bool.eq_false_iff.mpr hi, Bool.false_and, if_neg (by decide), if_neg (by decide)] at h; exact h))
          · refine R_aload_n dX0_size_52 rfl ?_
            refine R_getR dX0_size_53 lg_RX0_36 (by decide) rfl rfl ?_
            refine R_iload dX0_size_56 rfl ?_
            refine R_aald4N dX0_size_58 (by decide) rfl (by omega) (by decide) ?_
            refine R_iload_n dX0_size_59 rfl ?_
            refine R_laldN dX0_size_60 (show 59 + p < 117 by have := ((by omega) : p < 15); omega) (sh_shf (by omega)) (by omega) (by decide) ?_
            refine R_topL (y := shf d (pf P p) (ps P p) t) hsh ?_
            refine R_goto (tgt := 74) dX0_size_61 (by decide) ?_
            refine R_ladd dX0_size_74 ?_
            refine R_lstore_n (L' := [(0, .ref 36), (1, .int (nI c)), (2, .int (nI t)), (3, .long _), (5, .int (nI (cnI P B c t p))), (6, .int (nI p))]) dX0_size_75 (by decide) (qs1 rfl (qs1 rfl (qs1 rfl (qs1 rfl (qs1 rfl (qs1 rfl qs0)))))) ?_
            refine R_iincN (n := 1) (L' := [(0, .ref 36), (1, .int (nI c)), (2, .int (nI t)), (3, .long _), (5, .int (nI ((cnI P B c t p) + 1))), (6, .int (nI p))]) dX0_size_76 rfl (by decide) (qs1 rfl (qs1 rfl (qs1 rfl (qs1 rfl (qs1 rfl (qs1 rfl qs0)))))) ?_
            refine R_iincN (n := 1) (L' := [(0, .ref 36), (1, .int (nI c)), (2, .int (nI t)), (3, .long _), (5, .int (nI ((cnI P B c t p) + 1))), (6, .int (nI (p + 1)))]) dX0_size_79 rfl (by decide) (qs1 rfl (qs1 rfl (qs1 rfl (qs1 rfl (qs1 rfl (qs1 rfl qs0)))))) ?_
            refine R_goto (tgt := 8) dX0_size_82 (by decide) ?_
            refine R_ls (L' := [(0, .ref 36), (1, .int (nI c)), (2, .int (nI t)), (3, .long _), (5, .int (nI ((cnI P B c t p) + 1))), (6, .int (nI (p + 1)))]) (qs1 rfl (qs1 rfl (qs1 rfl (qs1 rfl (qs1 rfl (qs1 rfl qs0)))))) ?_
            exact (by have h := ih (p + 1) (by omega) h_14; rw [show szT d P B c t (p + 1) = if isO P p c && B p t then szT d P B c t p + (if pf P p = c then shf d (pf P p) (ps P p) t else - shf d (pf P p) (ps P p) t) else szT d P B c t p from rfl, show cnI P B c t (p + 1) = cnI P B c t p + (if isO P p c && B p t then 1 else 0) from rfl] at h; first | (rw [hi, hBt, Bool.and_true, if_pos rfl, if_pos rfl, if_pos h_49] at h; exact h) | (rw [hi, hBt, Bool.and_true, if_pos rfl, if_pos rfl, if_neg h_49] at h; exact h) | (rw [hBf, Bool.and_false, if_neg (by decide), if_neg (by decide)] at h; exact h) | (rw [Bool.eq_false_iff.mpr hi, Bool.false_and, if_neg (by decide), if_neg (by decide)] at h; exact h))
      · refine R_if_eqN (tgt := 79) dX0_size_24 (by decide) (by omega) (fun h_24 => ?_) (fun h_24 => by exact absurd h_24 (by decide))
        refine R_iincN (n := 1) (L' := [(0, .ref 36), (1, .int (nI c)), (2, .int (nI t)), (3, .long (szT d P B c t p)), (5, .int (nI (cnI P B c t p))), (6, .int (nI (p + 1)))]) dX0_size_79 rfl (by decide) (qs1 rfl (qs1 rfl (qs1 rfl (qs1 rfl (qs1 rfl (qs1 rfl qs0)))))) ?_
        refine R_goto (tgt := 8) dX0_size_82 (by decide) ?_
        refine R_ls (L' := [(0, .ref 36), (1, .int (nI c)), (2, .int (nI t)), (3, .long (szT d P B c t p)), (5, .int (nI (cnI P B c t p))), (6, .int (nI (p + 1)))]) (qs1 rfl (qs1 rfl (qs1 rfl (qs1 rfl (qs1 rfl (qs1 rfl qs0)))))) ?_
        exact (by have h := ih (p + 1) (by omega) h_14; rw [show szT d P B c t (p + 1) = if isO P p c && B p t then szT d P B c t p + (if pf P p = c then shf d (pf P p) (ps P p) t else - shf d (pf P p) (ps P p) t) else szT d P B c t p from rfl, show cnI P B c t (p + 1) = cnI P B c t p + (if isO P p c && B p t then 1 else 0) from rfl] at h; first | (rw [hi, hBt, Bool.and_true, if_pos rfl, if_pos rfl, if_pos h_49] at h; exact h) | (rw [hi, hBt, Bool.and_true, if_pos rfl, if_pos rfl, if_neg h_49] at h; exact h) | (rw [hBf, Bool.and_false, if_neg (by decide), if_neg (by decide)] at h; exact h) | (rw [Bool.eq_false_iff.mpr hi, Bool.false_and, if_neg (by decide), if_neg (by decide)] at h; exact h))
set_option maxRecDepth 100000 in
set_option maxHeartbeats 4000000 in
theorem c_size {M : qMem} {d : dT} {P : pT} {B : Nat → Nat → Bool} (hC : CB M P) (hO : CO M P B) (hH : CH M P d) (hb : BB d P B) {c t : Nat} (hc : c < 6) (ht : t < 16) : qSem 0 mX0_size [.ref 36, .int (nI c), .int (nI t)] M (qr (szF d P B c t) M) := by
  refine qSem.of (by decide +kernel) (Nat.le_of_ble_eq_true rfl) (fun w => ?_)
  refine R_ls (L' := [(0, .ref 36), (1, .int (nI c)), (2, .int (nI t))]) (qs1 rfl (qs1 rfl (qs1 rfl qs0))) ?_
  refine R_lconst (v := 0) dX0_size_0 rfl ?_
  refine R_lstore_n (L' := [(0, .ref 36), (1, .int (nI c)), (2, .int (nI t)), (3, .long (0))]) dX0_size_1 (by decide) (qs1 rfl (qs1 rfl (qs1 rfl (qs1 rfl qs0)))) ?_
  refine R_iconst (v := nI 0) dX0_size_2 rfl ?_
  refine R_istore (L' := [(0, .ref 36), (1, .int (nI c)), (2, .int (nI t)), (3, .long (0)), (5, .int (nI 0))]) dX0_size_3 (by decide) (qs1 rfl (qs1 rfl (qs1 rfl (qs1 rfl (qs1 rfl qs0))))) ?_
  refine R_iconst (v := nI 0) dX0_size_5 rfl ?_
  refine R_istore (L' := [(0, .ref 36), (1, .int (nI c)), (2, .int (nI t)), (3, .long (0)), (5, .int (nI 0)), (6, .int (nI 0))]) dX0_size_6 (by decide) (qs1 rfl (qs1 rfl (qs1 rfl (qs1 rfl (qs1 rfl (qs1 rfl qs0)))))) ?_
  refine R_ls (L' := [(0, .ref 36), (1, .int (nI c)), (2, .int (nI t)), (3, .long (0)), (5, .int (nI 0)), (6, .int (nI 0))]) (qs1 rfl (qs1 rfl (qs1 rfl (qs1 rfl (qs1 rfl (qs1 rfl qs0)))))) ?_
  exact (l_size hC hO hH hb hc ht 17 0 (by omega) (Nat.zero_le _))

/-- found so far, at place n -/
def FI (M K : qMem) (n : Nat) (x : Option (Nat × Nat)) : Prop := (∀ q, x = some q → K.1 86 n = nI q.1 ∧ K.1 87 n = nI q.2) ∧ K.2 = M.2 ∧ (∀ o, o ≠ 86 → o ≠ 87 → K.1 o = M.1 o) ∧ ∀ j, j ≠ n → K.1 86 j = M.1 86 j ∧ K.1 87 j = M.1 87 j
theorem FI_put {M K : qMem} {n c t : Nat} {x : Option (Nat × Nat)} (h : FI M K n x) : FI M (qIs (qIs K 86 n (nI c)) 87 n (nI t)) n (some (c, t)) :=
  ⟨fun q hq => (by cases hq; exact ⟨by rw [qIs_no (by decide), qIs_eq], qIs_eq _ _ _ _⟩), h.2.1, fun o h1 h2 => by rw [qIs_no h2, qIs_no h1]; exact h.2.2.1 o h1 h2, fun j hj => ⟨by rw [qIs_no (by decide), qIs_nk hj]; exact (h.2.2.2 j hj).1, by rw [qIs_nk hj, qIs_no (by decide)]; exact (h.2.2.2 j hj).2⟩⟩
set_option maxRecDepth 100000 in
set_option maxHeartbeats 4000000 in
theorem l_fnd2 {w : qWT} {M : qMem} {d : dT} {P : pT} {B : Nat → Nat → Bool} (hX : XR 14 M d) (hB : dB d) (hC : CB M P) (hO : CO M P B) (hH : CH M P d) (hb : BB d P B) (hW : CV 80 M P B) {n : Nat} (hn6 : n < 96) (h11 : M.1 36 9 = nI n) {c : Nat} (hc : c < dK d) (hk : ∀ K : qMem, FI M K n (fAl (cnt P B) (dY d) (dR d 2 - 1, none) (c + 1)).2 → qRW 0 w mX0_findCulprit 93 [(0, .ref 36), (1, .ref 14), (2, .int (nI (fAl (cnt P B) (dY d) (dR d 2 - 1, none) (c + 1)).1)), (3, .int (nI (oN (fAl (cnt P B) (dY d) (dR d 2 - 1, none) (c + 1)).2))), (4, .int (nI c))] [] K (fun v N => ((fnd d (cnt P B)).2 = none ∧ v = some (.int (nI 0)) ∧ (∀ o, o ≠ 86 → o ≠ 87 → N.1 o = M.1 o) ∧ (∀ j, j ≠ n → N.1 86 j = M.1 86 j ∧ N.1 87 j = M.1 87 j) ∧ N.2 = M.2) ∨ (∃ q, (fnd d (cnt P B)).2 = some q ∧ v = some (.int (nI 1)) ∧ N.1 86 n = nI q.1 ∧ N.1 87 n = nI q.2 ∧ N.1 88 n = nI (fnd d (cnt P B)).1 ∧ N.1 89 n = szF d P B q.1 q.2 ∧ (∀ o, o < 86 ∨ 90 ≤ o → N.1 o = M.1 o) ∧ (∀ o j, j ≠ n → N.1 o j = M.1 o j) ∧ N.2 = M.2))) : ∀ (fu : Nat) (t : Nat) (K : qMem), (dY d + 1 - t) < fu → (t ≤ dY d) → (FI M K n (fIn (cnt P B) c (fAl (cnt P B) (dY d) (dR d 2 - 1, none) c) t).2) → qRW 0 w mX0_findCulprit 25 [(0, .ref 36), (1, .ref 14), (2, .int (nI ((fIn (cnt P B) c (fAl (cnt P B) (dY d) (dR d 2 - 1, none) c) t).1))), (3, .int (nI (oN (fIn (cnt P B) c (fAl (cnt P B) (dY d) (dR d 2 - 1, none) c) t).2))), (4, .int (nI c)), (5, .int (nI t))] [] K (fun v N => ((fnd d (cnt P B)).2 = none ∧ v = some (.int (nI 0)) ∧ (∀ o, o ≠ 86 → o ≠ 87 → N.1 o = M.1 o) ∧ (∀ j, j ≠ n → N.1 86 j = M.1 86 j ∧ N.1 87 j = M.1 87 j) ∧ N.2 = M.2) ∨ (∃ q, (fnd d (cnt P B)).2 = some q ∧ v = some (.int (nI 1)) ∧ N.1 86 n = nI q.1 ∧ N.1 87 n = nI q.2 ∧ N.1 88 n = nI (fnd d (cnt P B)).1 ∧ N.1 89 n = szF d P B q.1 q.2 ∧ (∀ o, o < 86 ∨ 90 ≤ o → N.1 o = M.1 o) ∧ (∀ o j, j ≠ n → N.1 o j = M.1 o j) ∧ N.2 = M.2)) := by
  intro fu
  induction fu with
  | zero => intro t K hn; exact absurd hn (Nat.not_lt_zero _)
  | succ fu ih =>
    intro t K hn ht hI
    have hK6 := hB.2.1
    have hY16 := hB.1
    have hP := hC.2.1
    have hXK : XR 14 K d := hX.off hK6 (fun o h1 h2 => hI.2.2.1 o (by omega) (by omega))
    have hT5 := hB.2.2.2.2.2.1
    have hb1 := fAl_b (f := cnt P B) (fun c t => cnt_15 hP c t) (Y := dY d) (s := (dR d 2 - 1, none)) (by show dR d 2 - 1 ≤ 15; omega) c
    have hb2 := fIn_b (f := cnt P B) (fun c t => cnt_15 hP c t) (c := c) hb1 t
    have hct := cnt_15 (B := B) hP c t
    refine R_iload dX0_findCulprit_25 rfl ?_
    refine R_aload_n dX0_findCulprit_27 rfl ?_
    refine R_callV (mc := mX3_years) (As := []) (r := 14) dX0_findCulprit_28 lm_RX0_104 mv_X3_years rfl (by decide) rfl rfl rfl rfl (Nat.le_of_ble_eq_true rfl) c_years_14 ?_
    rintro _ _ ⟨rfl, rfl⟩
    refine R_top (y := nI (dY d)) hXK.1 ?_
    refine R_icmp_geN (tgt := 93) dX0_findCulprit_31 (by decide) (by omega) (by omega) (fun h_38 => ?_) (fun h_38 => ?_)
    · have e : t = dY d := by omega
      subst e
      refine R_ls (L' := [(0, .ref 36), (1, .ref 14), (2, .int (nI (fAl (cnt P B) (dY d) (dR d 2 - 1, none) (c + 1)).1)), (3, .int (nI (oN (fAl (cnt P B) (dY d) (dR d 2 - 1, none) (c + 1)).2))), (4, .int (nI c))]) (qs1 rfl (qs1 rfl (qs1 rfl (qs1 rfl (qs1 rfl qs0))))) ?_
      exact hk K hI
    · refine R_aload_n dX0_findCulprit_34 rfl ?_
      refine R_getR dX0_findCulprit_35 lg_RX0_42 (by decide) rfl rfl ?_
      refine R_iload dX0_findCulprit_38 rfl ?_
      refine R_aald3N dX0_findCulprit_40 (by decide) rfl (by omega) (by decide) ?_
      refine R_iload dX0_findCulprit_41 rfl ?_
      refine R_ialdN dX0_findCulprit_43 (show 80 + c < 117 by have := ((by omega) : c < 6); omega) (sh_lef (by omega)) (by omega) (by decide) ?_
      refine R_top (y := nI (cnt P B c t)) (by rw [hI.2.2.1 (80 + c) (by omega) (by omega)]; exact hW c t (by omega) (by omega)) ?_
      refine R_iload_n dX0_findCulprit_44 rfl ?_
      refine R_icmp_leN (tgt := 87) dX0_findCulprit_45 (by decide) (by omega) (by omega) (fun h_51 => ?_) (fun h_51 => ?_)
      · refine R_iincN (n := 1) (L' := [(0, .ref 36), (1, .ref 14), (2, .int (nI ((fIn (cnt P B) c (fAl (cnt P B) (dY d) (dR d 2 - 1, none) c) t).1))), (3, .int (nI (oN (fIn (cnt P B) c (fAl (cnt P B) (dY d) (dR d 2 - 1, none) c) t).2))), (4, .int (nI c)), (5, .int (nI (t + 1)))]) dX0_findCulprit_87 rfl (by decide) (qs1 rfl (qs1 rfl (qs1 rfl (qs1 rfl (qs1 rfl (qs1 rfl qs0)))))) ?_
        refine R_goto (tgt := 25) dX0_findCulprit_90 (by decide) ?_
        refine R_ls (L' := [(0, .ref 36), (1, .ref 14), (2, .int (nI ((fIn (cnt P B) c (fAl (cnt P B) (dY d) (dR d 2 - 1, none) c) t).1))), (3, .int (nI (oN (fIn (cnt P B) c (fAl (cnt P B) (dY d) (dR d 2 - 1, none) c) t).2))), (4, .int (nI c)), (5, .int (nI (t + 1)))]) (qs1 rfl (qs1 rfl (qs1 rfl (qs1 rfl (qs1 rfl (qs1 rfl qs0)))))) ?_
        exact (by have e : fIn (cnt P B) c (fAl (cnt P B) (dY d) (dR d 2 - 1, none) c) (t + 1) = if (fIn (cnt P B) c (fAl (cnt P B) (dY d) (dR d 2 - 1, none) c) t).1 < cnt P B c t then (cnt P B c t, some (c, t)) else fIn (cnt P B) c (fAl (cnt P B) (dY d) (dR d 2 - 1, none) c) t := rfl; have h := ih (t + 1) _ (by omega) (by omega) (by first | (rw [e, if_pos h_51]; exact FI_put hI) | (rw [e, if_neg (by omega)]; exact hI)); first | (rw [e, if_pos h_51] at h; exact h) | (rw [e, if_neg (by omega)] at h; exact h))
      · refine R_aload_n dX0_findCulprit_48 rfl ?_
        refine R_getR dX0_findCulprit_49 lg_RX0_42 (by decide) rfl rfl ?_
        refine R_iload dX0_findCulprit_52 rfl ?_
        refine R_aald3N dX0_findCulprit_54 (by decide) rfl (by omega) (by decide) ?_
        refine R_iload dX0_findCulprit_55 rfl ?_
        refine R_ialdN dX0_findCulprit_57 (show 80 + c < 117 by have := ((by omega) : c < 6); omega) (sh_lef (by omega)) (by omega) (by decide) ?_
        refine R_top (y := nI (cnt P B c t)) (by rw [hI.2.2.1 (80 + c) (by omega) (by omega)]; exact hW c t (by omega) (by omega)) ?_
        refine R_istore_n (L' := [(0, .ref 36), (1, .ref 14), (2, .int (nI (cnt P B c t))), (3, .int (nI (oN (fIn (cnt P B) c (fAl (cnt P B) (dY d) (dR d 2 - 1, none) c) t).2))), (4, .int (nI c)), (5, .int (nI t))]) dX0_findCulprit_58 (by decide) (qs1 rfl (qs1 rfl (qs1 rfl (qs1 rfl (qs1 rfl (qs1 rfl qs0)))))) ?_
        refine R_iconst (v := nI 1) dX0_findCulprit_59 rfl ?_
        refine R_istore_n (L' := [(0, .ref 36), (1, .ref 14), (2, .int (nI (cnt P B c t))), (3, .int (nI 1)), (4, .int (nI c)), (5, .int (nI t))]) dX0_findCulprit_60 (by decide) (qs1 rfl (qs1 rfl (qs1 rfl (qs1 rfl (qs1 rfl (qs1 rfl qs0)))))) ?_
        refine R_aload_n dX0_findCulprit_61 rfl ?_
        refine R_getR dX0_findCulprit_62 lg_RX0_45 (by decide) rfl rfl ?_
        refine R_iconst (v := nI 0) dX0_findCulprit_65 rfl ?_
        refine R_aald3C (r := 86) dX0_findCulprit_66 (by decide) rfl (by decide) (by decide) rfl ?_
        refine R_aload_n dX0_findCulprit_67 rfl ?_
        refine R_getI dX0_findCulprit_68 (lf_RX0_67).get (by decide) rfl rfl ?_
        refine R_top (y := nI n) (by rw [hI.2.2.1 36 (by decide) (by decide)]; exact h11) ?_
        refine R_iload dX0_findCulprit_71 rfl ?_
        refine R_iastN dX0_findCulprit_73 (by decide) rfl (by omega) (by decide) ?_
        refine R_aload_n dX0_findCulprit_74 rfl ?_
        refine R_getR dX0_findCulprit_75 lg_RX0_45 (by decide) rfl rfl ?_
        refine R_iconst (v := nI 1) dX0_findCulprit_78 rfl ?_
        refine R_aald3C (r := 87) dX0_findCulprit_79 (by decide) rfl (by decide) (by decide) rfl ?_
        refine R_aload_n dX0_findCulprit_80 rfl ?_
        refine R_getI dX0_findCulprit_81 (lf_RX0_67).get (by decide) rfl rfl ?_
        refine R_top (y := nI n) (by rw [qIs_no (by decide), hI.2.2.1 36 (by decide) (by decide)]; exact h11) ?_
        refine R_iload dX0_findCulprit_84 rfl ?_
        refine R_iastN dX0_findCulprit_86 (by decide) rfl (by omega) (by decide) ?_
        refine R_iincN (n := 1) (L' := [(0, .ref 36), (1, .ref 14), (2, .int (nI (cnt P B c t))), (3, .int (nI 1)), (4, .int (nI c)), (5, .int (nI (t + 1)))]) dX0_findCulprit_87 rfl (by decide) (qs1 rfl (qs1 rfl (qs1 rfl (qs1 rfl (qs1 rfl (qs1 rfl qs0)))))) ?_
        refine R_goto (tgt := 25) dX0_findCulprit_90 (by decide) ?_
        refine R_ls (L' := [(0, .ref 36), (1, .ref 14), (2, .int (nI (cnt P B c t))), (3, .int (nI 1)), (4, .int (nI c)), (5, .int (nI (t + 1)))]) (qs1 rfl (qs1 rfl (qs1 rfl (qs1 rfl (qs1 rfl (qs1 rfl qs0)))))) ?_
        exact (by have e : fIn (cnt P B) c (fAl (cnt P B) (dY d) (dR d 2 - 1, none) c) (t + 1) = if (fIn (cnt P B) c (fAl (cnt P B) (dY d) (dR d 2 - 1, none) c) t).1 < cnt P B c t then (cnt P B c t, some (c, t)) else fIn (cnt P B) c (fAl (cnt P B) (dY d) (dR d 2 - 1, none) c) t := rfl; have h := ih (t + 1) _ (by omega) (by omega) (by first | (rw [e, if_pos h_51]; exact FI_put hI) | (rw [e, if_neg (by omega)]; exact hI)); first | (rw [e, if_pos h_51] at h; exact h) | (rw [e, if_neg (by omega)] at h; exact h))
set_option maxRecDepth 100000 in
set_option maxHeartbeats 4000000 in
theorem l_fnd1 {w : qWT} {M : qMem} {d : dT} {P : pT} {B : Nat → Nat → Bool} (hX : XR 14 M d) (hB : dB d) (hC : CB M P) (hO : CO M P B) (hH : CH M P d) (hb : BB d P B) (hW : CV 80 M P B) {n : Nat} (hn6 : n < 96) (h11 : M.1 36 9 = nI n) : ∀ (fu : Nat) (c : Nat) (K : qMem), (dK d + 1 - c) < fu → (c ≤ dK d) → (FI M K n (fAl (cnt P B) (dY d) (dR d 2 - 1, none) c).2) → qRW 0 w mX0_findCulprit 13 [(0, .ref 36), (1, .ref 14), (2, .int (nI ((fAl (cnt P B) (dY d) (dR d 2 - 1, none) c).1))), (3, .int (nI (oN (fAl (cnt P B) (dY d) (dR d 2 - 1, none) c).2))), (4, .int (nI c))] [] K (fun v N => ((fnd d (cnt P B)).2 = none ∧ v = some (.int (nI 0)) ∧ (∀ o, o ≠ 86 → o ≠ 87 → N.1 o = M.1 o) ∧ (∀ j, j ≠ n → N.1 86 j = M.1 86 j ∧ N.1 87 j = M.1 87 j) ∧ N.2 = M.2) ∨ (∃ q, (fnd d (cnt P B)).2 = some q ∧ v = some (.int (nI 1)) ∧ N.1 86 n = nI q.1 ∧ N.1 87 n = nI q.2 ∧ N.1 88 n = nI (fnd d (cnt P B)).1 ∧ N.1 89 n = szF d P B q.1 q.2 ∧ (∀ o, o < 86 ∨ 90 ≤ o → N.1 o = M.1 o) ∧ (∀ o j, j ≠ n → N.1 o j = M.1 o j) ∧ N.2 = M.2)) := by
  intro fu
  induction fu with
  | zero => intro c K hn; exact absurd hn (Nat.not_lt_zero _)
  | succ fu ih =>
    intro c K hn hc hI
    have hK6 := hB.2.1
    have hY16 := hB.1
    have hP := hC.2.1
    have hXK : XR 14 K d := hX.off hK6 (fun o h1 h2 => hI.2.2.1 o (by omega) (by omega))
    have hT5 := hB.2.2.2.2.2.1
    have hb1 := fAl_b (f := cnt P B) (fun c t => cnt_15 hP c t) (Y := dY d) (s := (dR d 2 - 1, none)) (by show dR d 2 - 1 ≤ 15; omega) c
    refine R_iload dX0_findCulprit_13 rfl ?_
    refine R_aload_n dX0_findCulprit_15 rfl ?_
    refine R_callV (mc := mX3_stations) (As := []) (r := 14) dX0_findCulprit_16 lm_RX0_56 mv_X3_stations rfl (by decide) rfl rfl rfl rfl (Nat.le_of_ble_eq_true rfl) c_stations_14 ?_
    rintro _ _ ⟨rfl, rfl⟩
    refine R_top (y := nI (dK d)) hXK.2.1 ?_
    refine R_icmp_geN (tgt := 99) dX0_findCulprit_19 (by decide) (by omega) (by omega) (fun h_23 => ?_) (fun h_23 => ?_)
    · have e : c = dK d := by omega
      subst e
      have hfo : fOk (dK d) (dY d) (fAl (cnt P B) (dY d) (dR d 2 - 1, none) (dK d)).2 := fAl_ok (fun q hq => (by cases hq)) (dK d) (Nat.le_refl _)
      generalize hs : fAl (cnt P B) (dY d) (dR d 2 - 1, none) (dK d) = s at *
      have hs1 : fnd d (cnt P B) = s := hs
      obtain ⟨m, x⟩ := s
      refine R_ls (L' := [(0, .ref 36), (1, .ref 14), (2, .int (nI m)), (3, .int (nI (oN x)))]) (qs1 rfl (qs1 rfl (qs1 rfl (qs1 rfl qs0)))) ?_
      refine R_iload_n dX0_findCulprit_99 rfl ?_
      refine R_if_eqN (tgt := 152) dX0_findCulprit_100 (by decide) (by cases x <;> simp [oN]) (fun h_104 => ?_) (fun h_104 => ?_)
      · have hx : x = none := by cases x with | none => rfl | some q => exact absurd h_104 (by simp [oN])
        subst hx
        refine R_iload_n dX0_findCulprit_152 rfl ?_
        refine R_top (y := nI 0) rfl ?_
        refine R_ireturn dX0_findCulprit_153 rfl rfl ?_
        exact Or.inl ⟨by rw [hs1], rfl, hI.2.2.1, hI.2.2.2, hI.2.1⟩
      · obtain ⟨q, rfl⟩ : ∃ q, x = some q := by cases x with | none => exact absurd h_104 (by simp [oN]) | some q => exact ⟨q, rfl⟩
        have hq := hI.1 q rfl
        have hqo := hfo q rfl
        have hm : m ≤ 15 := hb1
        refine R_aload_n dX0_findCulprit_103 rfl ?_
        refine R_getR dX0_findCulprit_104 lg_RX0_45 (by decide) rfl rfl ?_
        refine R_iconst (v := nI 2) dX0_findCulprit_107 rfl ?_
        refine R_aald3C (r := 88) dX0_findCulprit_108 (by decide) rfl (by decide) (by decide) rfl ?_
        refine R_aload_n dX0_findCulprit_109 rfl ?_
        refine R_getI dX0_findCulprit_110 (lf_RX0_67).get (by decide) rfl rfl ?_
        refine R_top (y := nI n) (by rw [hI.2.2.1 36 (by decide) (by decide)]; exact h11) ?_
        refine R_iload_n dX0_findCulprit_113 rfl ?_
        refine R_iastN dX0_findCulprit_114 (by decide) rfl (by omega) (by decide) ?_
        refine R_aload_n dX0_findCulprit_115 rfl ?_
        refine R_getR dX0_findCulprit_116 lg_RX0_45 (by decide) rfl rfl ?_
        refine R_iconst (v := nI 3) dX0_findCulprit_119 rfl ?_
        refine R_aald3C (r := 89) dX0_findCulprit_120 (by decide) rfl (by decide) (by decide) rfl ?_
        refine R_aload_n dX0_findCulprit_121 rfl ?_
        refine R_getI dX0_findCulprit_122 (lf_RX0_67).get (by decide) rfl rfl ?_
        refine R_top (y := nI n) (by rw [qIs_no (by decide)]; rw [hI.2.2.1 36 (by decide) (by decide)]; exact h11) ?_
        refine R_aload_n dX0_findCulprit_125 rfl ?_
        refine R_aload_n dX0_findCulprit_126 rfl ?_
        refine R_getR dX0_findCulprit_127 lg_RX0_45 (by decide) rfl rfl ?_
        refine R_iconst (v := nI 0) dX0_findCulprit_130 rfl ?_
        refine R_aald3C (r := 86) dX0_findCulprit_131 (by decide) rfl (by decide) (by decide) rfl ?_
        refine R_aload_n dX0_findCulprit_132 rfl ?_
        refine R_getI dX0_findCulprit_133 (lf_RX0_67).get (by decide) rfl rfl ?_
        refine R_top (y := nI n) (by rw [qIs_no (by decide)]; rw [hI.2.2.1 36 (by decide) (by decide)]; exact h11) ?_
        refine R_ialdN dX0_findCulprit_136 (by decide) rfl (by omega) (by decide) ?_
        refine R_top (y := nI q.1) (by rw [qIs_no (by decide)]; exact hq.1) ?_
        refine R_aload_n dX0_findCulprit_137 rfl ?_
        refine R_getR dX0_findCulprit_138 lg_RX0_45 (by decide) rfl rfl ?_
        refine R_iconst (v := nI 1) dX0_findCulprit_141 rfl ?_
        refine R_aald3C (r := 87) dX0_findCulprit_142 (by decide) rfl (by decide) (by decide) rfl ?_
        refine R_aload_n dX0_findCulprit_143 rfl ?_
        refine R_getI dX0_findCulprit_144 (lf_RX0_67).get (by decide) rfl rfl ?_
        refine R_top (y := nI n) (by rw [qIs_no (by decide)]; rw [hI.2.2.1 36 (by decide) (by decide)]; exact h11) ?_
        refine R_ialdN dX0_findCulprit_147 (by decide) rfl (by omega) (by decide) ?_
        refine R_top (y := nI q.2) (by rw [qIs_no (by decide)]; exact hq.2) ?_
        refine R_callV (mc := mX0_size) (As := [_, _]) (r := 36) dX0_findCulprit_148 lm_RX0_107 mv_X0_size rfl (by decide) rfl rfl rfl rfl (Nat.le_of_ble_eq_true rfl) (c_size (P := P) (B := B) (d := d) (hC.mv (fun o h1 h2 => by rw [qIs_no (by omega)]; exact hI.2.2.1 o (by omega) (by omega))) (hO.mv hC (fun o h1 h2 => by rw [qIs_no (by omega)]; exact hI.2.2.1 o (by omega) (by omega))) (hH.mv (by rw [qIs_2]; exact hI.2.1)) hb (by omega) (by omega)) ?_
        rintro _ _ ⟨rfl, rfl⟩
        refine R_iastN dX0_findCulprit_151 (by decide) rfl (by omega) (by decide) ?_
        refine R_iload_n dX0_findCulprit_152 rfl ?_
        refine R_top (y := nI 1) rfl ?_
        refine R_ireturn dX0_findCulprit_153 rfl rfl ?_
        refine Or.inr ⟨q, by rw [hs1], rfl, by rw [qIs_no (by decide), qIs_no (by decide)]; exact hq.1, by rw [qIs_no (by decide), qIs_no (by decide)]; exact hq.2, by rw [qIs_no (by decide), qIs_eq, hs1], qIs_eq _ _ _ _, fun o ho => by rw [qIs_no (by omega), qIs_no (by omega)]; exact hI.2.2.1 o (by omega) (by omega), fun o j hj => ?_, hI.2.1⟩
        rw [qIs_nk hj, qIs_nk hj]
        rcases Nat.lt_or_ge o 86 with z | z <;> first | (rw [hI.2.2.1 o (by omega) (by omega)]; done) | (rcases Nat.lt_or_ge o 88 with y | y <;> first | (rw [hI.2.2.1 o (by omega) (by omega)]; done) | (rcases (show o = 86 ∨ o = 87 by omega) with rfl | rfl; exact (hI.2.2.2 j hj).1; exact (hI.2.2.2 j hj).2))
    · refine R_iconst (v := nI 0) dX0_findCulprit_22 rfl ?_
      refine R_istore (L' := [(0, .ref 36), (1, .ref 14), (2, .int (nI ((fAl (cnt P B) (dY d) (dR d 2 - 1, none) c).1))), (3, .int (nI (oN (fAl (cnt P B) (dY d) (dR d 2 - 1, none) c).2))), (4, .int (nI c)), (5, .int (nI 0))]) dX0_findCulprit_23 (by decide) (qs1 rfl (qs1 rfl (qs1 rfl (qs1 rfl (qs1 rfl (qs1 rfl qs0)))))) ?_
      refine R_ls (L' := [(0, .ref 36), (1, .ref 14), (2, .int (nI ((fAl (cnt P B) (dY d) (dR d 2 - 1, none) c).1))), (3, .int (nI (oN (fAl (cnt P B) (dY d) (dR d 2 - 1, none) c).2))), (4, .int (nI c)), (5, .int (nI 0))]) (qs1 rfl (qs1 rfl (qs1 rfl (qs1 rfl (qs1 rfl (qs1 rfl qs0)))))) ?_
      exact (l_fnd2 (w := w) hX hB hC hO hH hb hW hn6 h11 (c := c) (by omega) (fun K hI => by refine R_iincN (n := 1) (L' := [(0, .ref 36), (1, .ref 14), (2, .int (nI (fAl (cnt P B) (dY d) (dR d 2 - 1, none) (c + 1)).1)), (3, .int (nI (oN (fAl (cnt P B) (dY d) (dR d 2 - 1, none) (c + 1)).2))), (4, .int (nI (c + 1)))]) dX0_findCulprit_93 rfl (by decide) (qs1 rfl (qs1 rfl (qs1 rfl (qs1 rfl (qs1 rfl qs0))))) ?_; refine R_goto (tgt := 13) dX0_findCulprit_96 (by decide) ?_; exact ih (c + 1) K (by omega) (by omega) hI) (dY d + 2) 0 K (by omega) (by omega) hI)
set_option maxRecDepth 100000 in
set_option maxHeartbeats 4000000 in
theorem c_fnd {M : qMem} {d : dT} {P : pT} {B : Nat → Nat → Bool} (hX : XR 14 M d) (hB : dB d) (hC : CB M P) (hO : CO M P B) (hH : CH M P d) (hb : BB d P B) (hW : CV 80 M P B) {n : Nat} (hn6 : n < 96) (h11 : M.1 36 9 = nI n) : qSem 0 mX0_findCulprit [.ref 36, .ref 14] M (fun v N => ((fnd d (cnt P B)).2 = none ∧ v = some (.int (nI 0)) ∧ (∀ o, o ≠ 86 → o ≠ 87 → N.1 o = M.1 o) ∧ (∀ j, j ≠ n → N.1 86 j = M.1 86 j ∧ N.1 87 j = M.1 87 j) ∧ N.2 = M.2) ∨ (∃ q, (fnd d (cnt P B)).2 = some q ∧ v = some (.int (nI 1)) ∧ N.1 86 n = nI q.1 ∧ N.1 87 n = nI q.2 ∧ N.1 88 n = nI (fnd d (cnt P B)).1 ∧ N.1 89 n = szF d P B q.1 q.2 ∧ (∀ o, o < 86 ∨ 90 ≤ o → N.1 o = M.1 o) ∧ (∀ o j, j ≠ n → N.1 o j = M.1 o j) ∧ N.2 = M.2)) := by
  have hK6 := hB.2.1
  have hY16 := hB.1
  have hP := hC.2.1
  have hT5 := hB.2.2.2.2.2.1
  refine qSem.of (by decide +kernel) (Nat.le_of_ble_eq_true rfl) (fun w => ?_)
  refine R_ls (L' := [(0, .ref 36), (1, .ref 14)]) (qs1 rfl (qs1 rfl qs0)) ?_
  refine R_aload_n dX0_findCulprit_0 rfl ?_
  refine R_iconst (v := nI 2) dX0_findCulprit_1 rfl ?_
  refine R_callV (mc := mX3_ruleOf) (As := [_]) (r := 14) dX0_findCulprit_2 lm_RX0_83 mv_X3_ruleOf rfl (by decide) rfl rfl rfl rfl (Nat.le_of_ble_eq_true rfl) (c_ruleOf_14 (by omega)) ?_
  rintro _ _ ⟨rfl, rfl⟩
  refine R_top (y := nI (dR d 2)) (hX.2.2.2.2.2.2 2 (by omega)) ?_
  refine R_iconst (v := nI 1) dX0_findCulprit_5 rfl ?_
  refine R_isubN dX0_findCulprit_6 (by omega) ?_
  refine R_istore_n (L' := [(0, .ref 36), (1, .ref 14), (2, .int (nI ((dR d 2) - 1)))]) dX0_findCulprit_7 (by decide) (qs1 rfl (qs1 rfl (qs1 rfl qs0))) ?_
  refine R_iconst (v := nI 0) dX0_findCulprit_8 rfl ?_
  refine R_istore_n (L' := [(0, .ref 36), (1, .ref 14), (2, .int (nI ((dR d 2) - 1))), (3, .int (nI 0))]) dX0_findCulprit_9 (by decide) (qs1 rfl (qs1 rfl (qs1 rfl (qs1 rfl qs0)))) ?_
  refine R_iconst (v := nI 0) dX0_findCulprit_10 rfl ?_
  refine R_istore (L' := [(0, .ref 36), (1, .ref 14), (2, .int (nI ((dR d 2) - 1))), (3, .int (nI 0)), (4, .int (nI 0))]) dX0_findCulprit_11 (by decide) (qs1 rfl (qs1 rfl (qs1 rfl (qs1 rfl (qs1 rfl qs0))))) ?_
  refine R_ls (L' := [(0, .ref 36), (1, .ref 14), (2, .int (nI ((dR d 2) - 1))), (3, .int (nI 0)), (4, .int (nI 0))]) (qs1 rfl (qs1 rfl (qs1 rfl (qs1 rfl (qs1 rfl qs0))))) ?_
  exact (l_fnd1 hX hB hC hO hH hb hW hn6 h11 (dK d + 2) 0 M (by omega) (by omega) ⟨fun q hq => (by cases hq), rfl, fun o h1 h2 => rfl, fun j hj => ⟨rfl, rfl⟩⟩)
