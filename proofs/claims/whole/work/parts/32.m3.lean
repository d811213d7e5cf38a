
-- ===== the model: the row of a pair, its sums =====
/-- all the same but for some cells -/
def cOff (S : Nat → Nat → Prop) (M N : qMem) : Prop := ∀ o k, ¬ S o k → N.1 o k = M.1 o k ∧ N.2 o k = M.2 o k
theorem cOff.rf {S : Nat → Nat → Prop} {M : qMem} : cOff S M M := fun _ _ _ => ⟨rfl, rfl⟩
theorem cOff.tr {S : Nat → Nat → Prop} {M N K : qMem} (h1 : cOff S M N) (h2 : cOff S N K) : cOff S M K := fun o k h => ⟨((h2 o k h).1).trans (h1 o k h).1, ((h2 o k h).2).trans (h1 o k h).2⟩
theorem cOff.mono {S T : Nat → Nat → Prop} {M N : qMem} (h : cOff S M N) (hs : ∀ o k, S o k → T o k) : cOff T M N := fun o k ho => h o k (fun z => ho (hs o k z))
theorem cOff.is {S : Nat → Nat → Prop} {M N : qMem} {o k : Nat} {x : Int32} (h : cOff S M N) (hs : S o k) : cOff S M (qIs N o k x) := fun a b ha => by
  have e : ¬ (a = o ∧ b = k) := fun z => ha (by rw [z.1, z.2]; exact hs)
  exact ⟨by rw [qIs_1, if_neg e]; exact (h a b ha).1, (h a b ha).2⟩
theorem cOff.ls {S : Nat → Nat → Prop} {M N : qMem} {o k : Nat} {x : Int64} (h : cOff S M N) (hs : S o k) : cOff S M (qLs N o k x) := fun a b ha => by
  have e : ¬ (a = o ∧ b = k) := fun z => ha (by rw [z.1, z.2]; exact hs)
  exact ⟨(h a b ha).1, by rw [qLs_2, if_neg e]; exact (h a b ha).2⟩
/-- the cells of the row and its sums -/
def sSc (o k : Nat) : Prop := (10 ≤ o ∧ o < 14) ∨ (o = 0 ∧ (k = 16 ∨ k = 20))
theorem MR.co {M N : qMem} {d : dT} {S : Nat → Nat → Prop} (h : MR M d) (hO : cOff S M N) (hs : ∀ o k, S o k → (5 ≤ o ∨ (o = 0 ∧ k ≠ 2 ∧ k ≠ 3))) : MR N d :=
  h.off (hO 0 2 (fun z => by have := hs _ _ z; omega)).1 (hO 0 3 (fun z => by have := hs _ _ z; omega)).1 (funext fun k => (hO 2 k (fun z => by have := hs _ _ z; omega)).1) (funext fun k => (hO 3 k (fun z => by have := hs _ _ z; omega)).1) (funext fun k => (hO 4 k (fun z => by have := hs _ _ z; omega)).1)
theorem MR.sc {M N : qMem} {d : dT} (h : MR M d) (hO : cOff sSc M N) : MR N d := h.co hO (fun o k z => by unfold sSc at z; omega)
def MS (M : qMem) (l : List (Nat × Int32)) : Prop := M.1 0 16 = nI l.length ∧ l.length ≤ 16 ∧ ∀ i, i < l.length → M.2 10 i = (en l i).toInt64 ∧ M.1 11 i = nI (yr l i)
theorem MS.off {M N : qMem} {l : List (Nat × Int32)} (h : MS M l) (e1 : N.1 0 16 = M.1 0 16) (e2 : N.2 10 = M.2 10) (e3 : N.1 11 = M.1 11) : MS N l :=
  ⟨by rw [e1]; exact h.1, h.2.1, fun i hi => by rw [e2, e3]; exact h.2.2 i hi⟩
theorem MS_add {M N : qMem} {l : List (Nat × Int32)} {t : Nat} {x : Int32} (h : MS M l) (hl : l.length < 16) (e1 : N.1 0 16 = nI (l.length + 1)) (e2 : ∀ i, N.2 10 i = if i = l.length then x.toInt64 else M.2 10 i) (e3 : ∀ i, N.1 11 i = if i = l.length then nI t else M.1 11 i) : MS N (l ++ [(t, x)]) := by
  refine ⟨by rw [e1, List.length_append]; rfl, by rw [List.length_append]; exact hl, fun i hi => ?_⟩
  rw [List.length_append] at hi
  rw [e2, e3]
  rcases Nat.lt_or_ge i l.length with q | q
  · rw [if_neg (by omega), if_neg (by omega), en_app q, yr_app q]; exact h.2.2 i q
  · have e : i = l.length := by simp at hi; omega
    subst e; rw [if_pos rfl, if_pos rfl, en_last, yr_last]; exact ⟨rfl, rfl⟩
theorem serTo_n {d : dT} {u v t : Nat} (h : dV d u t = none ∨ dV d v t = none) : serTo d u v (t + 1) = serTo d u v t := by
  rw [serTo_succ]
  have e : serAt d u v t = none := by
    unfold serAt
    rcases h with h | h
    · rw [h]
    · rw [h]; cases dV d u t <;> rfl
  rw [e]; exact List.append_nil _
theorem serTo_s {d : dT} {u v t : Nat} {a b : Int32} (h1 : dV d u t = some a) (h2 : dV d v t = some b) : serTo d u v (t + 1) = serTo d u v t ++ [(t, a - b)] := by
  rw [serTo_succ]
  have e : serAt d u v t = some (t, a - b) := by unfold serAt; rw [h1, h2]
  rw [e]; rfl
set_option maxRecDepth 100000 in
set_option maxHeartbeats 4000000 in
theorem m_rowL {w : qWT} {M : qMem} {d : dT} (hX : MR M d) (hB : dB d) (hK2 : 2 ≤ dK d) (hY4 : 4 ≤ dY d) {u v_ : Nat} (hu : u < dK d) (hv : v_ < dK d) : ∀ (fu : Nat) (t : Nat) (K : qMem), (dY d + 1 - t) < fu → (t ≤ dY d) → (MS K (serTo d u v_ t)) → (cOff sSc M K) → qRW 1 w mX8_rowOf 7 [(0, .ref 0), (1, .int (nI u)), (2, .int (nI v_)), (3, .int (nI t))] [] K (fun v N => v = none ∧ MS N (ser d u v_) ∧ cOff sSc M N) := by
  intro fu
  induction fu with
  | zero => intro t K hn; exact absurd hn (Nat.not_lt_zero _)
  | succ fu ih =>
    intro t K hn ht hS hO
    have hK6 := hB.2.1
    have hY16 := hB.1
    have hXK := hX.sc hO
    have hsl := serTo_len d u v_ t
    refine R_iload_n dX8_rowOf_7 rfl ?_
    refine R_aload_n dX8_rowOf_8 rfl ?_
    refine R_getI dX8_rowOf_9 (lf_RX8_151).get (by decide) rfl rfl ?_
    refine R_top (y := nI (dY d)) hXK.1.2.1 ?_
    refine R_icmp_geN (tgt := 82) dX8_rowOf_12 (by decide) (by omega) (by omega) (fun h_12 => ?_) (fun h_12 => ?_)
    · refine R_return dX8_rowOf_82 rfl ?_
      have e : t = dY d := by omega
      subst e
      exact ⟨rfl, hS, hO⟩
    · refine R_aload_n dX8_rowOf_15 rfl ?_
      refine R_iload_n dX8_rowOf_16 rfl ?_
      refine R_iload_n dX8_rowOf_17 rfl ?_
      refine R_callV (mc := mX8_isThere) (As := [_, _]) (r := 0) dX8_rowOf_18 lm_RX8_184 mv_X8_isThere rfl (by decide) rfl rfl rfl rfl (Nat.le_of_ble_eq_true rfl) (m_isT hXK hB (by omega) (by omega)) ?_
      rintro _ _ ⟨rfl, ⟨rfl, hp⟩ | ⟨rfl, hp⟩⟩
      · obtain ⟨vhp, ehp⟩ := Option.isSome_iff_exists.mp hp
        refine R_if_eqN (tgt := 76) dX8_rowOf_21 (by decide) (by omega) (fun h_21 => by exact absurd h_21 (by decide)) (fun h_21 => ?_)
        refine R_aload_n dX8_rowOf_24 rfl ?_
        refine R_iload_n dX8_rowOf_25 rfl ?_
        refine R_iload_n dX8_rowOf_26 rfl ?_
        refine R_callV (mc := mX8_isThere) (As := [_, _]) (r := 0) dX8_rowOf_27 lm_RX8_184 mv_X8_isThere rfl (by decide) rfl rfl rfl rfl (Nat.le_of_ble_eq_true rfl) (m_isT hXK hB (by omega) (by omega)) ?_
        rintro _ _ ⟨rfl, ⟨rfl, hq⟩ | ⟨rfl, hq⟩⟩
        · obtain ⟨vhq, ehq⟩ := Option.isSome_iff_exists.mp hq
          refine R_if_eqN (tgt := 76) dX8_rowOf_30 (by decide) (by omega) (fun h_30 => by exact absurd h_30 (by decide)) (fun h_30 => ?_)
          refine R_aload_n dX8_rowOf_33 rfl ?_
          refine R_getR dX8_rowOf_34 lg_RX8_37 (by decide) rfl rfl ?_
          refine R_aload_n dX8_rowOf_37 rfl ?_
          refine R_getI dX8_rowOf_38 (lf_RX8_216).get (by decide) rfl rfl ?_
          refine R_top (y := nI ((serTo d u v_ t).length)) hS.1 ?_
          refine R_aload_n dX8_rowOf_41 rfl ?_
          refine R_iload_n dX8_rowOf_42 rfl ?_
          refine R_iload_n dX8_rowOf_43 rfl ?_
          refine R_callV (mc := mX8_valueOf) (As := [_, _]) (r := 0) dX8_rowOf_44 lm_RX8_164 mv_X8_valueOf rfl (by decide) rfl rfl rfl rfl (Nat.le_of_ble_eq_true rfl) (m_val hXK hB (by omega) (by omega)) ?_
          rintro _ _ ⟨rfl, rfl⟩
          refine R_top (y := vhp) (by rw [ehp]; rfl) ?_
          refine R_aload_n dX8_rowOf_47 rfl ?_
          refine R_iload_n dX8_rowOf_48 rfl ?_
          refine R_iload_n dX8_rowOf_49 rfl ?_
          refine R_callV (mc := mX8_valueOf) (As := [_, _]) (r := 0) dX8_rowOf_50 lm_RX8_164 mv_X8_valueOf rfl (by decide) rfl rfl rfl rfl (Nat.le_of_ble_eq_true rfl) (m_val hXK hB (by omega) (by omega)) ?_
          rintro _ _ ⟨rfl, rfl⟩
          refine R_top (y := vhq) (by rw [ehq]; rfl) ?_
          refine R_isub dX8_rowOf_53 ?_
          refine R_i2l dX8_rowOf_54 ?_
          refine R_lastN dX8_rowOf_55 (by decide) rfl (by omega) (by decide) ?_
          refine R_aload_n dX8_rowOf_56 rfl ?_
          refine R_getR dX8_rowOf_57 lg_RX8_41 (by decide) rfl rfl ?_
          refine R_aload_n dX8_rowOf_60 rfl ?_
          refine R_getI dX8_rowOf_61 (lf_RX8_216).get (by decide) rfl rfl ?_
          refine R_top (y := nI ((serTo d u v_ t).length)) hS.1 ?_
          refine R_iload_n dX8_rowOf_64 rfl ?_
          refine R_iastN dX8_rowOf_65 (by decide) rfl (by omega) (by decide) ?_
          refine R_aload_n dX8_rowOf_66 rfl ?_
          refine R_dup dX8_rowOf_67 rfl ?_
          refine R_getI dX8_rowOf_68 (lf_RX8_216).get (by decide) rfl rfl ?_
          refine R_top (y := nI ((serTo d u v_ t).length)) (by rw [qIs_no (by omega)]; exact hS.1) ?_
          refine R_iconst (v := nI 1) dX8_rowOf_71 rfl ?_
          refine R_iaddN dX8_rowOf_72 ?_
          refine R_putI dX8_rowOf_73 lf_RX8_216 (by decide) rfl rfl rfl rfl ?_
          refine R_iincN (n := 1) (L' := [(0, .ref 0), (1, .int (nI u)), (2, .int (nI v_)), (3, .int (nI (t + 1)))]) dX8_rowOf_76 rfl (by decide) (qs1 rfl (qs1 rfl (qs1 rfl (qs1 rfl qs0)))) ?_
          refine R_goto (tgt := 7) dX8_rowOf_79 (by decide) ?_
          refine R_ls (L' := [(0, .ref 0), (1, .int (nI u)), (2, .int (nI v_)), (3, .int (nI (t + 1)))]) (qs1 rfl (qs1 rfl (qs1 rfl (qs1 rfl qs0)))) ?_
          exact (ih (t + 1) _ (by omega) (by omega) (by rw [serTo_s ehp ehq]; exact MS_add hS (by omega) (by rw [qIs_eq]) (fun i => by show (qLs K 10 _ _).2 10 i = _; rw [qLs_2]; simp) (fun i => by rw [qIs_no (by omega), qIs_1]; simp [qLs_1])) (((hO.ls (by unfold sSc; omega)).is (by unfold sSc; omega)).is (by unfold sSc; omega)))
        · have ehq : dV d v_ t = none := Option.not_isSome_iff_eq_none.mp hq
          refine R_if_eqN (tgt := 76) dX8_rowOf_30 (by decide) (by omega) (fun h_30 => ?_) (fun h_30 => by exact absurd h_30 (by decide))
          refine R_iincN (n := 1) (L' := [(0, .ref 0), (1, .int (nI u)), (2, .int (nI v_)), (3, .int (nI (t + 1)))]) dX8_rowOf_76 rfl (by decide) (qs1 rfl (qs1 rfl (qs1 rfl (qs1 rfl qs0)))) ?_
          refine R_goto (tgt := 7) dX8_rowOf_79 (by decide) ?_
          refine R_ls (L' := [(0, .ref 0), (1, .int (nI u)), (2, .int (nI v_)), (3, .int (nI (t + 1)))]) (qs1 rfl (qs1 rfl (qs1 rfl (qs1 rfl qs0)))) ?_
          exact (ih (t + 1) _ (by omega) (by omega) (by rw [serTo_n (Or.inr ehq)]; exact hS) hO)
      · have ehp : dV d u t = none := Option.not_isSome_iff_eq_none.mp hp
        refine R_if_eqN (tgt := 76) dX8_rowOf_21 (by decide) (by omega) (fun h_21 => ?_) (fun h_21 => by exact absurd h_21 (by decide))
        refine R_iincN (n := 1) (L' := [(0, .ref 0), (1, .int (nI u)), (2, .int (nI v_)), (3, .int (nI (t + 1)))]) dX8_rowOf_76 rfl (by decide) (qs1 rfl (qs1 rfl (qs1 rfl (qs1 rfl qs0)))) ?_
        refine R_goto (tgt := 7) dX8_rowOf_79 (by decide) ?_
        refine R_ls (L' := [(0, .ref 0), (1, .int (nI u)), (2, .int (nI v_)), (3, .int (nI (t + 1)))]) (qs1 rfl (qs1 rfl (qs1 rfl (qs1 rfl qs0)))) ?_
        exact (ih (t + 1) _ (by omega) (by omega) (by rw [serTo_n (Or.inl ehp)]; exact hS) hO)
set_option maxRecDepth 100000 in
set_option maxHeartbeats 4000000 in
theorem m_row {M : qMem} {d : dT} (hX : MR M d) (hB : dB d) (hK2 : 2 ≤ dK d) (hY4 : 4 ≤ dY d) {u v_ : Nat} (hu : u < dK d) (hv : v_ < dK d) : qSem 1 mX8_rowOf [.ref 0, .int (nI u), .int (nI v_)] M (fun v N => v = none ∧ MS N (ser d u v_) ∧ cOff sSc M N) := by
  have hK6 := hB.2.1
  have hY16 := hB.1
  refine qSem.of (by decide +kernel) (Nat.le_of_ble_eq_true rfl) (fun w => ?_)
  refine R_ls (L' := [(0, .ref 0), (1, .int (nI u)), (2, .int (nI v_))]) (qs1 rfl (qs1 rfl (qs1 rfl qs0))) ?_
  refine R_aload_n dX8_rowOf_0 rfl ?_
  refine R_iconst (v := nI 0) dX8_rowOf_1 rfl ?_
  refine R_putI dX8_rowOf_2 lf_RX8_216 (by decide) rfl rfl rfl rfl ?_
  refine R_iconst (v := nI 0) dX8_rowOf_5 rfl ?_
  refine R_istore_n (L' := [(0, .ref 0), (1, .int (nI u)), (2, .int (nI v_)), (3, .int (nI 0))]) dX8_rowOf_6 (by decide) (qs1 rfl (qs1 rfl (qs1 rfl (qs1 rfl qs0)))) ?_
  refine R_ls (L' := [(0, .ref 0), (1, .int (nI u)), (2, .int (nI v_)), (3, .int (nI 0))]) (qs1 rfl (qs1 rfl (qs1 rfl (qs1 rfl qs0)))) ?_
  exact (m_rowL hX hB hK2 hY4 hu hv (dY d + 2) 0 _ (by omega) (Nat.zero_le _) ⟨by rw [qIs_eq]; rfl, Nat.zero_le _, fun i hi => absurd hi (Nat.not_lt_zero i)⟩ (cOff.rf.is (by unfold sSc; omega)))

theorem l_ring1 {a b e : Int64} : a - b + e = a + e - b := by
  rw [Int64.sub_eq_add_neg, Int64.sub_eq_add_neg, Int64.add_assoc, Int64.add_comm (-b), ← Int64.add_assoc]
theorem spd_m {l : List (Nat × Int32)} {i j : Nat} (h : i ≤ j) (h16 : j + 1 ≤ i + 16) : (720720 : Int64) * (S2 l (j + 1) - S2 l i) - (nI (720720 / (j - i + 1))).toInt64 * (S1 l (j + 1) - S1 l i) * (S1 l (j + 1) - S1 l i) = spd l i (j + 1) := by
  unfold spd
  rw [if_neg (by omega)]
  generalize S2 l (j + 1) - S2 l i = a
  generalize S1 l (j + 1) - S1 l i = b
  have e : sz i (j + 1) * sc i (j + 1) = 720720 := by
    unfold sz sc
    have key : ∀ m : Fin 17, 0 < m.val → (nI m.val).toInt64 * (nI (720720 / m.val)).toInt64 = 720720 := by decide +kernel
    exact key ⟨j + 1 - i, by omega⟩ (by show 0 < j + 1 - i; omega)
  have es : sc i (j + 1) = (nI (720720 / (j - i + 1))).toInt64 := by unfold sc; rw [show j + 1 - i = j - i + 1 by omega]
  rw [← es, Int64.sub_mul, ← e]
  congr 1
  · rw [Int64.mul_assoc, Int64.mul_comm (sc i (j + 1)), ← Int64.mul_assoc]
  · rw [Int64.mul_comm (b * b), Int64.mul_assoc]
set_option maxRecDepth 100000 in
set_option maxHeartbeats 4000000 in
theorem m_sumL {w : qWT} {M : qMem} {l : List (Nat × Int32)} (hS : MS M l) {i j : Nat} (hij : i ≤ j) (hj : j < l.length) : ∀ (fu : Nat) (k : Nat), (j + 2 - k) < fu → (i ≤ k) → (k ≤ j + 1) → qRW 1 w mX8_sumOf 5 [(0, .ref 0), (1, .int (nI i)), (2, .int (nI j)), (3, .long (S1 l k - S1 l i)), (5, .int (nI k))] [] M (ql (S1 l (j + 1) - S1 l i) M) := by
  intro fu
  induction fu with
  | zero => intro k hn; exact absurd hn (Nat.not_lt_zero _)
  | succ fu ih =>
    intro k hn hk hk2
    have hl16 := hS.2.1
    refine R_iload dX8_sumOf_5 rfl ?_
    refine R_iload_n dX8_sumOf_7 rfl ?_
    refine R_icmp_gtN (tgt := 27) dX8_sumOf_8 (by decide) (by omega) (by omega) (fun h_8 => ?_) (fun h_8 => ?_)
    · refine R_lload_n dX8_sumOf_27 rfl ?_
      refine R_lreturn dX8_sumOf_28 rfl ?_
      have e : k = j + 1 := by omega
      subst e
      exact ⟨rfl, rfl⟩
    · refine R_lload_n dX8_sumOf_11 rfl ?_
      refine R_aload_n dX8_sumOf_12 rfl ?_
      refine R_getR dX8_sumOf_13 lg_RX8_37 (by decide) rfl rfl ?_
      refine R_iload dX8_sumOf_16 rfl ?_
      refine R_laldN dX8_sumOf_18 (by decide) rfl (by omega) (by decide) ?_
      refine R_topL (y := (en l k).toInt64) (hS.2.2 k (by omega)).1 ?_
      refine R_ladd dX8_sumOf_19 ?_
      refine R_lstore_n (L' := [(0, .ref 0), (1, .int (nI i)), (2, .int (nI j)), (3, .long _), (5, .int (nI k))]) dX8_sumOf_20 (by decide) (qs1 rfl (qs1 rfl (qs1 rfl (qs1 rfl (qs1 rfl qs0))))) ?_
      refine R_iincN (n := 1) (L' := [(0, .ref 0), (1, .int (nI i)), (2, .int (nI j)), (3, .long _), (5, .int (nI (k + 1)))]) dX8_sumOf_21 rfl (by decide) (qs1 rfl (qs1 rfl (qs1 rfl (qs1 rfl (qs1 rfl qs0))))) ?_
      refine R_goto (tgt := 5) dX8_sumOf_24 (by decide) ?_
      refine R_ls (L' := [(0, .ref 0), (1, .int (nI i)), (2, .int (nI j)), (3, .long _), (5, .int (nI (k + 1)))]) (qs1 rfl (qs1 rfl (qs1 rfl (qs1 rfl (qs1 rfl qs0))))) ?_
      exact (by have h := ih (k + 1) (by omega) (by omega) (by omega); rw [show S1 l (k + 1) = S1 l k + (en l k).toInt64 from rfl, ← l_ring1] at h; exact h)
set_option maxRecDepth 100000 in
set_option maxHeartbeats 4000000 in
theorem m_sum {M : qMem} {l : List (Nat × Int32)} (hS : MS M l) {i j : Nat} (hij : i ≤ j) (hj : j < l.length) : qSem 1 mX8_sumOf [.ref 0, .int (nI i), .int (nI j)] M (ql (S1 l (j + 1) - S1 l i) M) := by
  refine qSem.of (by decide +kernel) (Nat.le_of_ble_eq_true rfl) (fun w => ?_)
  refine R_ls (L' := [(0, .ref 0), (1, .int (nI i)), (2, .int (nI j))]) (qs1 rfl (qs1 rfl (qs1 rfl qs0))) ?_
  refine R_lconst (v := 0) dX8_sumOf_0 rfl ?_
  refine R_lstore_n (L' := [(0, .ref 0), (1, .int (nI i)), (2, .int (nI j)), (3, .long (0))]) dX8_sumOf_1 (by decide) (qs1 rfl (qs1 rfl (qs1 rfl (qs1 rfl qs0)))) ?_
  refine R_iload_n dX8_sumOf_2 rfl ?_
  refine R_istore (L' := [(0, .ref 0), (1, .int (nI i)), (2, .int (nI j)), (3, .long (0)), (5, .int (nI i))]) dX8_sumOf_3 (by decide) (qs1 rfl (qs1 rfl (qs1 rfl (qs1 rfl (qs1 rfl qs0))))) ?_
  refine R_ls (L' := [(0, .ref 0), (1, .int (nI i)), (2, .int (nI j)), (3, .long (S1 l i - S1 l i)), (5, .int (nI i))]) (qs1 rfl (qs1 rfl (qs1 rfl (qs1 (by show some (Value.long 0) = _; rw [Int64.sub_self]) (qs1 rfl qs0))))) ?_
  exact m_sumL hS hij hj (j + 3) i (by omega) (Nat.le_refl _) (by omega)
set_option maxRecDepth 100000 in
set_option maxHeartbeats 4000000 in
theorem m_sprL {w : qWT} {M : qMem} {l : List (Nat × Int32)} (hS : MS M l) {i j : Nat} (hij : i ≤ j) (hj : j < l.length) : ∀ (fu : Nat) (k : Nat), (j + 2 - k) < fu → (i ≤ k) → (k ≤ j + 1) → qRW 1 w mX8_spreadOf 5 [(0, .ref 0), (1, .int (nI i)), (2, .int (nI j)), (3, .long (S2 l k - S2 l i)), (5, .int (nI k))] [] M (ql (spd l i (j + 1)) M) := by
  intro fu
  induction fu with
  | zero => intro k hn; exact absurd hn (Nat.not_lt_zero _)
  | succ fu ih =>
    intro k hn hk hk2
    have hl16 := hS.2.1
    refine R_iload dX8_spreadOf_5 rfl ?_
    refine R_iload_n dX8_spreadOf_7 rfl ?_
    refine R_icmp_gtN (tgt := 35) dX8_spreadOf_8 (by decide) (by omega) (by omega) (fun h_8 => ?_) (fun h_8 => ?_)
    · have e : k = j + 1 := by omega
      subst e
      refine R_aload_n dX8_spreadOf_35 rfl ?_
      refine R_iload_n dX8_spreadOf_36 rfl ?_
      refine R_iload_n dX8_spreadOf_37 rfl ?_
      refine R_callV (mc := mX8_sumOf) (As := [_, _]) (r := 0) dX8_spreadOf_38 lm_RX8_219 mv_X8_sumOf rfl (by decide) rfl rfl rfl rfl (Nat.le_of_ble_eq_true rfl) (m_sum hS hij hj) ?_
      rintro _ _ ⟨rfl, rfl⟩
      refine R_lstore (L' := [(0, .ref 0), (1, .int (nI i)), (2, .int (nI j)), (3, .long (S2 l (j + 1) - S2 l i)), (5, .long (S1 l (j + 1) - S1 l i))]) dX8_spreadOf_41 (by decide) (qs1 rfl (qs1 rfl (qs1 rfl (qs1 rfl (qs1 rfl qs0))))) ?_
      refine R_ldc2 dX8_spreadOf_43 lc_RX8_223 ?_
      refine R_lload_n dX8_spreadOf_46 rfl ?_
      refine R_lmul dX8_spreadOf_47 ?_
      refine R_ldc (v := nI 720720) dX8_spreadOf_48 lc_RX8_225 ?_
      refine R_iload_n dX8_spreadOf_50 rfl ?_
      refine R_iload_n dX8_spreadOf_51 rfl ?_
      refine R_isubN dX8_spreadOf_52 (by omega) ?_
      refine R_iconst (v := nI 1) dX8_spreadOf_53 rfl ?_
      refine R_iaddN dX8_spreadOf_54 ?_
      refine R_idivN dX8_spreadOf_55 (by omega) (by omega) (by omega) ?_
      refine R_i2l dX8_spreadOf_56 ?_
      refine R_lload dX8_spreadOf_57 rfl ?_
      refine R_lmul dX8_spreadOf_59 ?_
      refine R_lload dX8_spreadOf_60 rfl ?_
      refine R_lmul dX8_spreadOf_62 ?_
      refine R_lsub dX8_spreadOf_63 ?_
      refine R_lreturn dX8_spreadOf_64 rfl ?_
      exact ⟨by rw [spd_m hij (by omega)], rfl⟩
    · refine R_lload_n dX8_spreadOf_11 rfl ?_
      refine R_aload_n dX8_spreadOf_12 rfl ?_
      refine R_getR dX8_spreadOf_13 lg_RX8_37 (by decide) rfl rfl ?_
      refine R_iload dX8_spreadOf_16 rfl ?_
      refine R_laldN dX8_spreadOf_18 (by decide) rfl (by omega) (by decide) ?_
      refine R_topL (y := (en l k).toInt64) (hS.2.2 k (by omega)).1 ?_
      refine R_aload_n dX8_spreadOf_19 rfl ?_
      refine R_getR dX8_spreadOf_20 lg_RX8_37 (by decide) rfl rfl ?_
      refine R_iload dX8_spreadOf_23 rfl ?_
      refine R_laldN dX8_spreadOf_25 (by decide) rfl (by omega) (by decide) ?_
      refine R_topL (y := (en l k).toInt64) (hS.2.2 k (by omega)).1 ?_
      refine R_lmul dX8_spreadOf_26 ?_
      refine R_ladd dX8_spreadOf_27 ?_
      refine R_lstore_n (L' := [(0, .ref 0), (1, .int (nI i)), (2, .int (nI j)), (3, .long _), (5, .int (nI k))]) dX8_spreadOf_28 (by decide) (qs1 rfl (qs1 rfl (qs1 rfl (qs1 rfl (qs1 rfl qs0))))) ?_
      refine R_iincN (n := 1) (L' := [(0, .ref 0), (1, .int (nI i)), (2, .int (nI j)), (3, .long _), (5, .int (nI (k + 1)))]) dX8_spreadOf_29 rfl (by decide) (qs1 rfl (qs1 rfl (qs1 rfl (qs1 rfl (qs1 rfl qs0))))) ?_
      refine R_goto (tgt := 5) dX8_spreadOf_32 (by decide) ?_
      refine R_ls (L' := [(0, .ref 0), (1, .int (nI i)), (2, .int (nI j)), (3, .long _), (5, .int (nI (k + 1)))]) (qs1 rfl (qs1 rfl (qs1 rfl (qs1 rfl (qs1 rfl qs0))))) ?_
      exact (by have h := ih (k + 1) (by omega) (by omega) (by omega); rw [show S2 l (k + 1) = S2 l k + (en l k).toInt64 * (en l k).toInt64 from rfl, ← l_ring1] at h; exact h)
set_option maxRecDepth 100000 in
set_option maxHeartbeats 4000000 in
theorem m_spr {M : qMem} {l : List (Nat × Int32)} (hS : MS M l) {i j : Nat} (hij : i ≤ j) (hj : j < l.length) : qSem 1 mX8_spreadOf [.ref 0, .int (nI i), .int (nI j)] M (ql (spd l i (j + 1)) M) := by
  refine qSem.of (by decide +kernel) (Nat.le_of_ble_eq_true rfl) (fun w => ?_)
  refine R_ls (L' := [(0, .ref 0), (1, .int (nI i)), (2, .int (nI j))]) (qs1 rfl (qs1 rfl (qs1 rfl qs0))) ?_
  refine R_lconst (v := 0) dX8_spreadOf_0 rfl ?_
  refine R_lstore_n (L' := [(0, .ref 0), (1, .int (nI i)), (2, .int (nI j)), (3, .long (0))]) dX8_spreadOf_1 (by decide) (qs1 rfl (qs1 rfl (qs1 rfl (qs1 rfl qs0)))) ?_
  refine R_iload_n dX8_spreadOf_2 rfl ?_
  refine R_istore (L' := [(0, .ref 0), (1, .int (nI i)), (2, .int (nI j)), (3, .long (0)), (5, .int (nI i))]) dX8_spreadOf_3 (by decide) (qs1 rfl (qs1 rfl (qs1 rfl (qs1 rfl (qs1 rfl qs0))))) ?_
  refine R_ls (L' := [(0, .ref 0), (1, .int (nI i)), (2, .int (nI j)), (3, .long (S2 l i - S2 l i)), (5, .int (nI i))]) (qs1 rfl (qs1 rfl (qs1 rfl (qs1 (by show some (Value.long 0) = _; rw [Int64.sub_self]) (qs1 rfl qs0))))) ?_
  exact m_sprL hS hij hj (j + 3) i (by omega) (Nat.le_refl _) (by omega)
set_option maxRecDepth 100000 in
set_option maxHeartbeats 4000000 in
theorem n_entry {M : qMem} {d : dT} (hX : MR M d) (hB : dB d) (hK2 : 2 ≤ dK d) (hY4 : 4 ≤ dY d) {u v i : Int32} : qSem 1 mX8_entry [.ref 0, .int (u), .int (v), .int (i)] M (fun v_ N => v_ = some (.int (aEntry d u v i)) ∧ cOff sSc M N) := by
  have hK6 := hB.2.1
  have hY16 := hB.1
  refine qSem.of (by decide +kernel) (Nat.le_of_ble_eq_true rfl) (fun w => ?_)
  refine R_ls (L' := [(0, .ref 0), (1, .int (u)), (2, .int (v)), (3, .int (i))]) (qs1 rfl (qs1 rfl (qs1 rfl (qs1 rfl qs0)))) ?_
  refine R_aload_n dX8_entry_0 rfl ?_
  refine R_iload_n dX8_entry_1 rfl ?_
  refine R_iload_n dX8_entry_2 rfl ?_
  refine R_callV (mc := mX8_areTwo) (As := [_, _]) (r := 0) dX8_entry_3 lm_RX8_210 mv_X8_areTwo rfl (by decide) rfl rfl rfl rfl (Nat.le_of_ble_eq_true rfl) (m_two hX hB hK2 hY4) ?_
  rintro _ _ ⟨rfl, ⟨rfl, htw⟩ | ⟨rfl, htw⟩⟩
  · have htw2 := htw
    obtain ⟨⟨cu, hu, rfl⟩, ⟨cv, hv, rfl⟩, hne⟩ : (∃ j, j < dK d ∧ u = nI j) ∧ (∃ j, j < dK d ∧ v = nI j) ∧ ¬ u = v := ⟨inN_o (by omega) htw.1, inN_o (by omega) htw.2.1, htw.2.2⟩
    refine R_if_eqN (tgt := 14) dX8_entry_6 (by decide) (by omega) (fun h_6 => by exact absurd h_6 (by decide)) (fun h_6 => ?_)
    refine R_iload_n dX8_entry_9 rfl ?_
    refine R_iconst (v := -1) dX8_entry_10 rfl ?_
    refine R_icmp_ge (tgt := 16) dX8_entry_11 (by decide) (fun h_11 => ?_) (fun h_11 => ?_)
    · refine R_aload_n dX8_entry_16 rfl ?_
      refine R_iload_n dX8_entry_17 rfl ?_
      refine R_iload_n dX8_entry_18 rfl ?_
      refine R_callV (mc := mX8_rowOf) (As := [_, _]) (r := 0) dX8_entry_19 lm_RX8_226 mv_X8_rowOf rfl (by decide) rfl rfl rfl rfl (Nat.le_of_ble_eq_true rfl) (m_row hX hB hK2 hY4 hu hv) ?_
      rintro _ _ ⟨rfl, hS, hO1⟩
      have hl16 := hS.2.1
      refine R_iload_n dX8_entry_22 rfl ?_
      refine R_if_ge (tgt := 33) dX8_entry_23 (by decide) (fun h_23 => ?_) (fun h_23 => ?_)
      · have h_31 : ¬ i = -1 := fun e => by rw [e] at h_23; revert h_23; decide
        obtain ⟨ci, hci, rfl⟩ := q_gem1 h_11 h_31
        refine R_iload_n dX8_entry_33 rfl ?_
        refine R_aload_n dX8_entry_34 rfl ?_
        refine R_getI dX8_entry_35 (lf_RX8_216).get (by decide) rfl rfl ?_
        refine R_top (y := nI ((ser d cu cv).length)) hS.1 ?_
        refine R_icmp_geN (tgt := 54) dX8_entry_38 (by decide) (by omega) (by omega) (fun h_50 => ?_) (fun h_50 => ?_)
        · refine R_bipush (v := -4) dX8_entry_54 rfl ?_
          refine R_ireturn dX8_entry_56 rfl rfl ?_
          exact ⟨by unfold aEntry; rw [if_pos ⟨htw2, h_11⟩, if_neg h_31, kn_n (by omega), kn_n (by omega), if_neg (nI_nlt h_50 (by omega))], hO1⟩
        · refine R_aload_n dX8_entry_41 rfl ?_
          refine R_getR dX8_entry_42 lg_RX8_37 (by decide) rfl rfl ?_
          refine R_iload_n dX8_entry_45 rfl ?_
          refine R_laldN dX8_entry_46 (by decide) rfl (by omega) (by decide) ?_
          refine R_topL (y := (en (ser d cu cv) ci).toInt64) (hS.2.2 ci h_50).1 ?_
          refine R_l2i dX8_entry_47 ?_
          refine R_top (y := en (ser d cu cv) ci) (Int32.toInt32_toInt64 _) ?_
          refine R_ldc (v := nI 100000) dX8_entry_48 lc_RX8_167 ?_
          refine R_iadd dX8_entry_50 ?_
          refine R_goto (tgt := 56) dX8_entry_51 (by decide) ?_
          refine R_ireturn dX8_entry_56 rfl rfl ?_
          exact ⟨by unfold aEntry; rw [if_pos ⟨htw2, h_11⟩, if_neg h_31, kn_n (by omega), kn_n (by omega), if_pos (nI_lt h_50 (by omega)), kn_n (by omega)], hO1⟩
      · have h_31 : i = -1 := by have h1 := Int32.not_le.mp h_23; rw [Int32.lt_iff_toInt_lt] at h1; have h2 := h_11; rw [Int32.le_iff_toInt_le] at h2; exact Int32.toInt_inj.mp (by have e1 : (-1 : Int32).toInt = -1 := rfl; have e0 : (0 : Int32).toInt = 0 := rfl; omega)
        refine R_aload_n dX8_entry_26 rfl ?_
        refine R_getI dX8_entry_27 (lf_RX8_216).get (by decide) rfl rfl ?_
        refine R_top (y := nI ((ser d cu cv).length)) hS.1 ?_
        refine R_goto (tgt := 56) dX8_entry_30 (by decide) ?_
        refine R_ireturn dX8_entry_56 rfl rfl ?_
        exact ⟨by unfold aEntry; rw [if_pos ⟨htw2, h_11⟩, if_pos h_31, kn_n (by omega), kn_n (by omega)], hO1⟩
    · refine R_iconst (v := -1) dX8_entry_14 rfl ?_
      refine R_ireturn dX8_entry_15 rfl rfl ?_
      exact ⟨by unfold aEntry; rw [if_neg (fun h => by first | exact htw h.1 | exact h_11 h.2)], cOff.rf⟩
  · refine R_if_eqN (tgt := 14) dX8_entry_6 (by decide) (by omega) (fun h_6 => ?_) (fun h_6 => by exact absurd h_6 (by decide))
    refine R_iconst (v := -1) dX8_entry_14 rfl ?_
    refine R_ireturn dX8_entry_15 rfl rfl ?_
    exact ⟨by unfold aEntry; rw [if_neg (fun h => by first | exact htw h.1 | exact h_11 h.2)], cOff.rf⟩
set_option maxRecDepth 100000 in
set_option maxHeartbeats 4000000 in
theorem n_year {M : qMem} {d : dT} (hX : MR M d) (hB : dB d) (hK2 : 2 ≤ dK d) (hY4 : 4 ≤ dY d) {u v i : Int32} : qSem 1 mX8_year [.ref 0, .int (u), .int (v), .int (i)] M (fun v_ N => v_ = some (.int (aYear d u v i)) ∧ cOff sSc M N) := by
  have hK6 := hB.2.1
  have hY16 := hB.1
  refine qSem.of (by decide +kernel) (Nat.le_of_ble_eq_true rfl) (fun w => ?_)
  refine R_ls (L' := [(0, .ref 0), (1, .int (u)), (2, .int (v)), (3, .int (i))]) (qs1 rfl (qs1 rfl (qs1 rfl (qs1 rfl qs0)))) ?_
  refine R_aload_n dX8_year_0 rfl ?_
  refine R_iload_n dX8_year_1 rfl ?_
  refine R_iload_n dX8_year_2 rfl ?_
  refine R_callV (mc := mX8_areTwo) (As := [_, _]) (r := 0) dX8_year_3 lm_RX8_210 mv_X8_areTwo rfl (by decide) rfl rfl rfl rfl (Nat.le_of_ble_eq_true rfl) (m_two hX hB hK2 hY4) ?_
  rintro _ _ ⟨rfl, ⟨rfl, htw⟩ | ⟨rfl, htw⟩⟩
  · have htw2 := htw
    obtain ⟨⟨cu, hu, rfl⟩, ⟨cv, hv, rfl⟩, hne⟩ : (∃ j, j < dK d ∧ u = nI j) ∧ (∃ j, j < dK d ∧ v = nI j) ∧ ¬ u = v := ⟨inN_o (by omega) htw.1, inN_o (by omega) htw.2.1, htw.2.2⟩
    refine R_if_eqN (tgt := 13) dX8_year_6 (by decide) (by omega) (fun h_6 => by exact absurd h_6 (by decide)) (fun h_6 => ?_)
    refine R_iload_n dX8_year_9 rfl ?_
    refine R_if_ge (tgt := 15) dX8_year_10 (by decide) (fun h_10 => ?_) (fun h_10 => ?_)
    · have h_10n : ¬ i < 0 := Int32.not_lt.mpr h_10
      have h_10k := h_10n
      obtain ⟨ci, hci, rfl⟩ := q_ge0 h_10n
      refine R_aload_n dX8_year_15 rfl ?_
      refine R_iload_n dX8_year_16 rfl ?_
      refine R_iload_n dX8_year_17 rfl ?_
      refine R_callV (mc := mX8_rowOf) (As := [_, _]) (r := 0) dX8_year_18 lm_RX8_226 mv_X8_rowOf rfl (by decide) rfl rfl rfl rfl (Nat.le_of_ble_eq_true rfl) (m_row hX hB hK2 hY4 hu hv) ?_
      rintro _ _ ⟨rfl, hS, hO1⟩
      have hl16 := hS.2.1
      refine R_iload_n dX8_year_21 rfl ?_
      refine R_aload_n dX8_year_22 rfl ?_
      refine R_getI dX8_year_23 (lf_RX8_216).get (by decide) rfl rfl ?_
      refine R_top (y := nI ((ser d cu cv).length)) hS.1 ?_
      refine R_icmp_geN (tgt := 38) dX8_year_26 (by decide) (by omega) (by omega) (fun h_36 => ?_) (fun h_36 => ?_)
      · refine R_bipush (v := -4) dX8_year_38 rfl ?_
        refine R_ireturn dX8_year_40 rfl rfl ?_
        exact ⟨by unfold aYear; rw [if_pos ⟨htw2, h_10k⟩, kn_n (by omega), kn_n (by omega), if_neg (nI_nlt h_36 (by omega))], hO1⟩
      · refine R_aload_n dX8_year_29 rfl ?_
        refine R_getR dX8_year_30 lg_RX8_41 (by decide) rfl rfl ?_
        refine R_iload_n dX8_year_33 rfl ?_
        refine R_ialdN dX8_year_34 (by decide) rfl (by omega) (by decide) ?_
        refine R_top (y := nI (yr (ser d cu cv) ci)) (hS.2.2 ci h_36).2 ?_
        refine R_goto (tgt := 40) dX8_year_35 (by decide) ?_
        refine R_ireturn dX8_year_40 rfl rfl ?_
        exact ⟨by unfold aYear; rw [if_pos ⟨htw2, h_10k⟩, kn_n (by omega), kn_n (by omega), if_pos (nI_lt h_36 (by omega)), kn_n (by omega)], hO1⟩
    · refine R_iconst (v := -1) dX8_year_13 rfl ?_
      refine R_ireturn dX8_year_14 rfl rfl ?_
      exact ⟨by unfold aYear; rw [if_neg (fun h => by first | exact htw h.1 | exact h_10 (Int32.not_lt.mp h.2))], cOff.rf⟩
  · refine R_if_eqN (tgt := 13) dX8_year_6 (by decide) (by omega) (fun h_6 => ?_) (fun h_6 => by exact absurd h_6 (by decide))
    refine R_iconst (v := -1) dX8_year_13 rfl ?_
    refine R_ireturn dX8_year_14 rfl rfl ?_
    exact ⟨by unfold aYear; rw [if_neg (fun h => by first | exact htw h.1 | exact h_10 (Int32.not_lt.mp h.2))], cOff.rf⟩

theorem in_m1 {c : Int32} {n : Nat} (h2 : n < 2147483648) : (nI n - nI 1).toInt64 = (nI n - nI 1).toInt64 ∧ ((0 ≤ c.toInt64 ∧ c.toInt64 ≤ (nI n - nI 1).toInt64) ↔ ¬ c < 0 ∧ c < nI n) := by
  refine ⟨rfl, ?_⟩
  cases n with
  | zero =>
    rw [show (0 : Int64) = (0 : Int32).toInt64 from rfl, in64, Int32.not_lt]
    constructor
    · rintro ⟨q1, q2⟩
      have h := Int32.le_trans q1 q2
      exact absurd h (by decide)
    · rintro ⟨q1, q2⟩
      exact absurd q2 (Int32.not_lt.mpr q1)
  | succ m =>
    rw [← nI_add, Int32.add_sub_cancel]
    have := in_sta (c := c) (n := m + 1) (by omega) h2
    rw [Nat.add_sub_cancel] at this
    rw [this, nI_add, Int32.not_lt]

theorem q_lt1 {c : Int32} {n : Nat} (h2 : n < 1000) (h : c < nI n) : c ≤ nI n - nI 1 := by
  rw [Int32.lt_iff_toInt_lt, nI_toInt (by omega)] at h
  rw [Int32.le_iff_toInt_le, pk_sub_toInt (by omega) (by omega)]; omega
set_option maxRecDepth 100000 in
set_option maxHeartbeats 4000000 in
theorem n_spread {M : qMem} {d : dT} (hX : MR M d) (hB : dB d) (hK2 : 2 ≤ dK d) (hY4 : 4 ≤ dY d) {u v i j : Int32} : qSem 1 mX8_spread [.ref 0, .int (u), .int (v), .int (i), .int (j)] M (fun v_ N => v_ = some (.long (aSpread d u v i j)) ∧ cOff sSc M N) := by
  have hK6 := hB.2.1
  have hY16 := hB.1
  refine qSem.of (by decide +kernel) (Nat.le_of_ble_eq_true rfl) (fun w => ?_)
  refine R_ls (L' := [(0, .ref 0), (1, .int (u)), (2, .int (v)), (3, .int (i)), (4, .int (j))]) (qs1 rfl (qs1 rfl (qs1 rfl (qs1 rfl (qs1 rfl qs0))))) ?_
  refine R_aload_n dX8_spread_0 rfl ?_
  refine R_iload_n dX8_spread_1 rfl ?_
  refine R_iload_n dX8_spread_2 rfl ?_
  refine R_callV (mc := mX8_areTwo) (As := [_, _]) (r := 0) dX8_spread_3 lm_RX8_210 mv_X8_areTwo rfl (by decide) rfl rfl rfl rfl (Nat.le_of_ble_eq_true rfl) (m_two hX hB hK2 hY4) ?_
  rintro _ _ ⟨rfl, ⟨rfl, htw⟩ | ⟨rfl, htw⟩⟩
  · have htw2 := htw
    obtain ⟨⟨cu, hu, rfl⟩, ⟨cv, hv, rfl⟩, hne⟩ : (∃ j, j < dK d ∧ u = nI j) ∧ (∃ j, j < dK d ∧ v = nI j) ∧ ¬ u = v := ⟨inN_o (by omega) htw.1, inN_o (by omega) htw.2.1, htw.2.2⟩
    refine R_if_neN (tgt := 13) dX8_spread_6 (by decide) (by omega) (fun h_6 => ?_) (fun h_6 => by exact absurd h_6 (by decide))
    refine R_aload_n dX8_spread_13 rfl ?_
    refine R_iload_n dX8_spread_14 rfl ?_
    refine R_iload_n dX8_spread_15 rfl ?_
    refine R_callV (mc := mX8_rowOf) (As := [_, _]) (r := 0) dX8_spread_16 lm_RX8_226 mv_X8_rowOf rfl (by decide) rfl rfl rfl rfl (Nat.le_of_ble_eq_true rfl) (m_row hX hB hK2 hY4 hu hv) ?_
    rintro _ _ ⟨rfl, hS, hO1⟩
    have hl16 := hS.2.1
    refine R_iload_n dX8_spread_19 rfl ?_
    refine R_i2l dX8_spread_20 ?_
    refine R_lconst (v := 0) dX8_spread_21 rfl ?_
    refine R_aload_n dX8_spread_22 rfl ?_
    refine R_getI dX8_spread_23 (lf_RX8_216).get (by decide) rfl rfl ?_
    refine R_top (y := nI ((ser d cu cv).length)) hS.1 ?_
    refine R_iconst (v := nI 1) dX8_spread_26 rfl ?_
    refine R_isub dX8_spread_27 ?_
    refine R_i2l dX8_spread_28 ?_
    refine R_callS (mc := mX8_in) (As := [_, _, _]) dX8_spread_29 lm_RX8_98 mv_X8_in rfl rfl rfl (Nat.le_of_ble_eq_true rfl) m_in ?_
    rintro _ _ ⟨rfl, ⟨rfl, hi⟩ | ⟨rfl, hi⟩⟩
    · rw [(in_m1 (by omega)).2] at hi
      refine R_if_eqN (tgt := 63) dX8_spread_32 (by decide) (by omega) (fun h_32 => by exact absurd h_32 (by decide)) (fun h_32 => ?_)
      refine R_iload dX8_spread_35 rfl ?_
      refine R_i2l dX8_spread_37 ?_
      refine R_iload_n dX8_spread_38 rfl ?_
      refine R_i2l dX8_spread_39 ?_
      refine R_aload_n dX8_spread_40 rfl ?_
      refine R_getI dX8_spread_41 (lf_RX8_216).get (by decide) rfl rfl ?_
      refine R_top (y := nI ((ser d cu cv).length)) hS.1 ?_
      refine R_iconst (v := nI 1) dX8_spread_44 rfl ?_
      refine R_isub dX8_spread_45 ?_
      refine R_i2l dX8_spread_46 ?_
      refine R_callS (mc := mX8_in) (As := [_, _, _]) dX8_spread_47 lm_RX8_98 mv_X8_in rfl rfl rfl (Nat.le_of_ble_eq_true rfl) m_in ?_
      rintro _ _ ⟨rfl, ⟨rfl, hj⟩ | ⟨rfl, hj⟩⟩
      · have hj2 := in64.mp hj
        have k1 := hi.1
        have k2 : ¬ j < i := Int32.not_lt.mpr hj2.1
        obtain ⟨ci, hci, rfl⟩ := q_ge0 hi.1
        obtain ⟨cj, hcj, rfl⟩ : ∃ q, q < 2147483648 ∧ j = nI q := q_ge0 (fun h => k2 (Int32.lt_of_lt_of_le h (Int32.not_lt.mp k1)))
        have k3 : nI cj < nI (ser d cu cv).length := (((in_m1 (by omega)).2).mp ⟨by rw [show (0 : Int64) = (0 : Int32).toInt64 from rfl]; exact (in64 (c := nI cj)).mpr ⟨nI_pos' (by omega), Int32.le_refl _⟩ |>.1, hj.2⟩).2
        have l1 := (nI_ltI (by omega) (by omega)).mp k3
        have l2 := Nat.not_lt.mp (fun z => k2 ((nI_ltI (by omega) (by omega)).mpr z))
        refine R_if_eqN (tgt := 63) dX8_spread_50 (by decide) (by omega) (fun h_50 => by exact absurd h_50 (by decide)) (fun h_50 => ?_)
        refine R_aload_n dX8_spread_53 rfl ?_
        refine R_iload_n dX8_spread_54 rfl ?_
        refine R_iload dX8_spread_55 rfl ?_
        refine R_callV (mc := mX8_spreadOf) (As := [_, _]) (r := 0) dX8_spread_57 lm_RX8_231 mv_X8_spreadOf rfl (by decide) rfl rfl rfl rfl (Nat.le_of_ble_eq_true rfl) (m_spr hS (by omega) (by omega)) ?_
        rintro _ _ ⟨rfl, rfl⟩
        refine R_goto (tgt := 66) dX8_spread_60 (by decide) ?_
        refine R_lreturn dX8_spread_66 rfl ?_
        exact ⟨by unfold aSpread; rw [if_pos htw2, kn_n (by omega), kn_n (by omega), if_pos ⟨k1, k2, k3⟩, kn_n (by omega), kn_n (by omega)], hO1⟩
      · have hj2 := fun z => hj (in64.mpr z)
        refine R_if_eqN (tgt := 63) dX8_spread_50 (by decide) (by omega) (fun h_50 => ?_) (fun h_50 => by exact absurd h_50 (by decide))
        refine R_ldc2 dX8_spread_63 lc_RX8_243 ?_
        refine R_lreturn dX8_spread_66 rfl ?_
        exact ⟨by unfold aSpread; rw [if_pos htw2, kn_n (by omega), kn_n (by omega), if_neg (fun h => hj2 ⟨Int32.not_lt.mp h.2.1, q_lt1 (by omega) h.2.2⟩)], hO1⟩
    · rw [(in_m1 (by omega)).2] at hi
      refine R_if_eqN (tgt := 63) dX8_spread_32 (by decide) (by omega) (fun h_32 => ?_) (fun h_32 => by exact absurd h_32 (by decide))
      refine R_ldc2 dX8_spread_63 lc_RX8_243 ?_
      refine R_lreturn dX8_spread_66 rfl ?_
      exact ⟨by unfold aSpread; rw [if_pos htw2, kn_n (by omega), kn_n (by omega), if_neg (fun h => hi ⟨h.1, Int32.lt_of_le_of_lt (Int32.not_lt.mp h.2.1) h.2.2⟩)], hO1⟩
  · refine R_if_neN (tgt := 13) dX8_spread_6 (by decide) (by omega) (fun h_6 => by exact absurd h_6 (by decide)) (fun h_6 => ?_)
    refine R_ldc2 dX8_spread_9 lc_RX8_243 ?_
    refine R_lreturn dX8_spread_12 rfl ?_
    exact ⟨by unfold aSpread; rw [if_neg htw], cOff.rf⟩
