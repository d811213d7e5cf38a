
-- ===== bits of a word =====
def bit (x : Int32) (t : Nat) : Bool := x.toBitVec.getLsbD t
theorem bit_or (x y : Int32) (t : Nat) : bit (x ||| y) t = (bit x t || bit y t) := by unfold bit; rw [Int32.toBitVec_or, BitVec.getLsbD_or]
theorem bit_and (x y : Int32) (t : Nat) : bit (x &&& y) t = (bit x t && bit y t) := by unfold bit; rw [Int32.toBitVec_and, BitVec.getLsbD_and]
theorem bit_one {k t : Nat} (hk : k < 16) (ht : t < 16) : bit (nI 1 <<< (nI k &&& 31)) t = decide (t = k) := by
  have key : ∀ k t : Fin 16, bit (nI 1 <<< (nI k.val &&& 31)) t.val = decide (t.val = k.val) := by decide +kernel
  exact key ⟨k, hk⟩ ⟨t, ht⟩
theorem bit_not {k t : Nat} (hk : k < 16) (ht : t < 16) : bit ((nI 1 <<< (nI k &&& 31)) ^^^ -1) t = !decide (t = k) := by
  have key : ∀ k t : Fin 16, bit ((nI 1 <<< (nI k.val &&& 31)) ^^^ -1) t.val = !decide (t.val = k.val) := by decide +kernel
  exact key ⟨k, hk⟩ ⟨t, ht⟩
theorem bit_zero (t : Nat) : bit (nI 0) t = false := by
  unfold bit; show (0#32).getLsbD t = false; exact BitVec.getLsbD_zero
theorem and_1 (z : Int32) : z &&& nI 1 = nI 1 ↔ bit z 0 = true := by
  constructor
  · intro h
    have := congrArg (fun w => bit w 0) h
    simp only [bit_and] at this
    rw [show bit (nI 1) 0 = true by decide, Bool.and_true] at this
    exact this
  · intro h
    apply Int32.toBitVec_inj.mp
    apply BitVec.eq_of_getLsbD_eq
    intro i hi
    show bit (z &&& nI 1) i = bit (nI 1) i
    have key : ∀ i : Fin 32, bit (nI 1) i.val = decide (i.val = 0) := by decide +kernel
    rw [bit_and, key ⟨i, hi⟩]
    by_cases e : i = 0
    · subst e; rw [h]; rfl
    · simp [e]
theorem bit_shr {x : Int32} {t : Nat} (ht : t < 16) : bit (x >>> (nI t &&& 31)) 0 = bit x t := by
  unfold bit
  rw [Int32.toBitVec_shiftRight]
  have key : ∀ t : Fin 16, ((nI t.val &&& 31).toBitVec.smod 32#32).toNat = t.val := by decide +kernel
  show (x.toBitVec.sshiftRight ((nI t &&& 31).toBitVec.smod 32#32).toNat).getLsbD 0 = _
  rw [key ⟨t, ht⟩, BitVec.getLsbD_sshiftRight]
  simp; omega
theorem has_bit {x : Int32} {t : Nat} (ht : t < 16) : (x >>> (nI t &&& 31)) &&& nI 1 = nI 1 ↔ bit x t = true := by rw [and_1, bit_shr ht]
set_option maxRecDepth 100000 in
set_option maxHeartbeats 4000000 in
theorem m_has {M : qMem} {x : Int32} {t : Nat} (ht : t < 16) : qSem 1 mX8_has [.int (x), .int (nI t)] M (qb (bit x t = true) M) := by
  refine qSem.of (by decide +kernel) (Nat.le_of_ble_eq_true rfl) (fun w => ?_)
  refine R_ls (L' := [(0, .int (x)), (1, .int (nI t))]) (qs1 rfl (qs1 rfl qs0)) ?_
  refine R_iload_n dX8_has_0 rfl ?_
  refine R_iload_n dX8_has_1 rfl ?_
  refine R_ishr dX8_has_2 ?_
  refine R_iconst (v := nI 1) dX8_has_3 rfl ?_
  refine R_iand dX8_has_4 ?_
  refine R_iconst (v := nI 1) dX8_has_5 rfl ?_
  refine R_icmp_ne (tgt := 13) dX8_has_6 (by decide) (fun h_6 => ?_) (fun h_6 => ?_)
  · refine R_iconst (v := nI 0) dX8_has_13 rfl ?_
    refine R_ireturn dX8_has_14 rfl rfl ?_
    refine ⟨rfl, ?_⟩
    first | exact Or.inl ⟨rfl, (has_bit ht).mp h_6⟩ | exact Or.inr ⟨rfl, fun z => h_6 ((has_bit ht).mpr z)⟩
  · refine R_iconst (v := nI 1) dX8_has_9 rfl ?_
    refine R_goto (tgt := 14) dX8_has_10 (by decide) ?_
    refine R_ireturn dX8_has_14 rfl rfl ?_
    refine ⟨rfl, ?_⟩
    first | exact Or.inl ⟨rfl, (has_bit ht).mp h_6⟩ | exact Or.inr ⟨rfl, fun z => h_6 ((has_bit ht).mpr z)⟩

/-- the stations o (before n) with f o, as a word -/
def wm (f : Nat → Bool) : Nat → Nat
  | 0 => 0
  | n + 1 => if f n then wm f n + 2 ^ n else wm f n
def pop (f : Nat → Bool) : Nat → Nat
  | 0 => 0
  | n + 1 => if f n then pop f n + 1 else pop f n
theorem wm_lt (f : Nat → Bool) : ∀ n, wm f n < 2 ^ n
  | 0 => Nat.one_pos
  | n + 1 => by
    have := wm_lt f n
    have e : 2 ^ (n + 1) = 2 ^ n * 2 := Nat.pow_succ ..
    unfold wm; split <;> omega
theorem pop_le (f : Nat → Bool) : ∀ n, pop f n ≤ n
  | 0 => Nat.le_refl 0
  | n + 1 => by
    have := pop_le f n
    unfold pop; split <;> omega
theorem wm_or {f : Nat → Bool} {n : Nat} (hn : n < 6) : nI (wm f n) ||| (nI 1 <<< (nI n &&& 31)) = nI (wm f n + 2 ^ n) := by
  have key : ∀ n : Fin 6, ∀ m : Fin 32, m.val < 2 ^ n.val → nI m.val ||| (nI 1 <<< (nI n.val &&& 31)) = nI (m.val + 2 ^ n.val) := by decide +kernel
  have h := wm_lt f n
  have h2 : 2 ^ n ≤ 2 ^ 5 := Nat.pow_le_pow_right (by decide) (by omega)
  exact key ⟨n, hn⟩ ⟨wm f n, by omega⟩ h
theorem wm_or0 (x : Int32) : x ||| nI 0 = x := Int32.or_zero
theorem wm_bit {f : Nat → Bool} {n o : Nat} (hn : n ≤ 6) (ho : o < n) : bit (nI (wm f n)) o = f o := by
  induction n with
  | zero => omega
  | succ n ih =>
    have h1 := wm_lt f n
    have e0 : wm f (n + 1) = if f n then wm f n + 2 ^ n else wm f n := rfl
    have top : bit (nI (wm f n)) n = false := by
      have key : ∀ n : Fin 6, ∀ m : Fin 32, m.val < 2 ^ n.val → bit (nI m.val) n.val = false := by decide +kernel
      have h2 : 2 ^ n ≤ 2 ^ 5 := Nat.pow_le_pow_right (by decide) (by omega)
      exact key ⟨n, by omega⟩ ⟨wm f n, by omega⟩ h1
    rw [e0]
    cases hf : f n with
    | false =>
      rw [if_neg (by decide)]
      rcases Nat.lt_or_ge o n with q | q
      · exact ih (by omega) q
      · rw [show o = n by omega, top, hf]
    | true =>
      rw [if_pos rfl, ← wm_or (by omega), bit_or, bit_one (by omega) (by omega)]
      rcases Nat.lt_or_ge o n with q | q
      · rw [ih (by omega) q, decide_eq_false (by omega), Bool.or_false]
      · rw [show o = n by omega, hf, decide_eq_true rfl, Bool.or_true]
def pc : Nat → Nat → Nat
  | 0, _ => 0
  | n + 1, m => pc n (m / 2) + m % 2
def cl (m : Nat) : Nat := m &&& (m - 1)
theorem pc_cl {m : Nat} (h : m < 64) (h0 : 0 < m) : nI m &&& (nI m - nI 1) = nI (cl m) ∧ cl m < m ∧ pc 6 m = pc 6 (cl m) + 1 := by
  have key : ∀ m : Fin 64, 0 < m.val → nI m.val &&& (nI m.val - nI 1) = nI (cl m.val) ∧ cl m.val < m.val ∧ pc 6 m.val = pc 6 (cl m.val) + 1 := by decide +kernel
  exact key ⟨m, h⟩ h0
theorem pc_6 {m : Nat} (h : m < 64) : pc 6 m ≤ 6 := by
  have key : ∀ m : Fin 64, pc 6 m.val ≤ 6 := by decide +kernel
  exact key ⟨m, h⟩
theorem pc_wm {f : Nat → Bool} {n : Nat} (hn : n ≤ 6) : pc 6 (wm f n) = pop f n := by
  induction n with
  | zero => show pc 6 0 = 0; decide
  | succ n ih =>
    have h1 := wm_lt f n
    show pc 6 (if f n then wm f n + 2 ^ n else wm f n) = if f n then pop f n + 1 else pop f n
    split
    · have key : ∀ n : Fin 6, ∀ m : Fin 32, m.val < 2 ^ n.val → pc 6 (m.val + 2 ^ n.val) = pc 6 m.val + 1 := by decide +kernel
      have h2 : 2 ^ n ≤ 2 ^ 5 := Nat.pow_le_pow_right (by decide) (by omega)
      rw [key ⟨n, by omega⟩ ⟨wm f n, by omega⟩ h1, ih (by omega)]
    · exact ih (by omega)
set_option maxRecDepth 100000 in
set_option maxHeartbeats 4000000 in
theorem m_onesL {w : qWT} {M : qMem} {x : Int32} {m0 : Nat} (hm0 : m0 < 64) : ∀ (fu : Nat) (m : Nat), (m + 1) < fu → (m ≤ m0) → (pc 6 m ≤ pc 6 m0) → qRW 1 w mX8_ones 4 [(0, .int (x)), (1, .int (nI (pc 6 m0 - pc 6 m))), (2, .int (nI m))] [] M (qr (nI (pc 6 m0)) M) := by
  intro fu
  induction fu with
  | zero => intro m hn; exact absurd hn (Nat.not_lt_zero _)
  | succ fu ih =>
    intro m hn hm hm2
    have hp6 := pc_6 hm0
    refine R_iload_n dX8_ones_4 rfl ?_
    refine R_if_eqN (tgt := 20) dX8_ones_5 (by decide) (by omega) (fun h_5 => ?_) (fun h_5 => ?_)
    · refine R_iload_n dX8_ones_20 rfl ?_
      refine R_ireturn dX8_ones_21 rfl rfl ?_
      have e : m = 0 := by omega
      subst e
      exact ⟨rfl, rfl⟩
    · refine R_iincN (n := 1) (L' := [(0, .int (x)), (1, .int (nI ((pc 6 m0 - pc 6 m) + 1))), (2, .int (nI m))]) dX8_ones_8 rfl (by decide) (qs1 rfl (qs1 rfl (qs1 rfl qs0))) ?_
      refine R_iload_n dX8_ones_11 rfl ?_
      refine R_iload_n dX8_ones_12 rfl ?_
      refine R_iconst (v := nI 1) dX8_ones_13 rfl ?_
      refine R_isub dX8_ones_14 ?_
      refine R_iand dX8_ones_15 ?_
      refine R_top (y := nI (cl m)) (pc_cl (by omega) (by omega)).1 ?_
      refine R_istore_n (L' := [(0, .int (x)), (1, .int (nI ((pc 6 m0 - pc 6 m) + 1))), (2, .int (nI (cl m)))]) dX8_ones_16 (by decide) (qs1 rfl (qs1 rfl (qs1 rfl qs0))) ?_
      refine R_goto (tgt := 4) dX8_ones_17 (by decide) ?_
      obtain ⟨c1, c2, c3⟩ := pc_cl (m := m) (by omega) (by omega)
      refine R_ls (L' := [(0, .int (x)), (1, .int (nI ((pc 6 m0 - pc 6 m) + 1))), (2, .int (nI (cl m)))]) (qs1 rfl (qs1 rfl (qs1 rfl qs0))) ?_
      exact (by have h := ih (cl m) (by omega) (by omega) (by omega); rw [show pc 6 m0 - pc 6 (cl m) = pc 6 m0 - pc 6 m + 1 by omega] at h; exact h)
set_option maxRecDepth 100000 in
set_option maxHeartbeats 4000000 in
theorem m_ones {M : qMem} {m : Nat} (hm : m < 64) : qSem 1 mX8_ones [.int (nI m)] M (qr (nI (pc 6 m)) M) := by
  refine qSem.of (by decide +kernel) (Nat.le_of_ble_eq_true rfl) (fun w => ?_)
  refine R_ls (L' := [(0, .int (nI m))]) (qs1 rfl qs0) ?_
  refine R_iconst (v := nI 0) dX8_ones_0 rfl ?_
  refine R_istore_n (L' := [(0, .int (nI m)), (1, .int (nI 0))]) dX8_ones_1 (by decide) (qs1 rfl (qs1 rfl qs0)) ?_
  refine R_iload_n dX8_ones_2 rfl ?_
  refine R_istore_n (L' := [(0, .int (nI m)), (1, .int (nI 0)), (2, .int (nI m))]) dX8_ones_3 (by decide) (qs1 rfl (qs1 rfl (qs1 rfl qs0))) ?_
  refine R_ls (L' := [(0, .int (nI m)), (1, .int (nI (pc 6 m - pc 6 m))), (2, .int (nI m))]) (qs1 rfl (qs1 (by rw [Nat.sub_self]; rfl) (qs1 rfl qs0))) ?_
  exact m_onesL hm (m + 2) m (by omega) (Nat.le_refl _) (Nat.le_refl _)

/-- the words of the breaks, pair by pair -/
def BW (M : qMem) (o : Nat) (d : dT) (F : Nat → Nat → Nat → Bool) : Prop := ∀ u v t, u < dK d → v < dK d → u ≠ v → t < dY d → bit (M.1 o (6 * u + v)) t = F u v t
def wF (F : Nat → Nat → Nat → Bool) (c t : Nat) : Nat → Bool := fun q => decide (q ≠ c) && F c q t
set_option maxRecDepth 100000 in
set_option maxHeartbeats 4000000 in
theorem m_with14L {w : qWT} {M : qMem} {d : dT} (hX : MR M d) (hB : dB d) {F : Nat → Nat → Nat → Bool} (hF : BW M 14 d F) {c t : Nat} (hc : c < dK d) (ht : t < dY d) : ∀ (fu : Nat) (q : Nat), (dK d + 1 - q) < fu → (q ≤ dK d) → qRW 1 w mX8_withWhom 6 [(0, .ref 0), (1, .ref 14), (2, .int (nI c)), (3, .int (nI t)), (4, .int (nI (wm (wF F c t) q))), (5, .int (nI q))] [] M (qr (nI (wm (wF F c t) (dK d))) M) := by
  intro fu
  induction fu with
  | zero => intro q hn; exact absurd hn (Nat.not_lt_zero _)
  | succ fu ih =>
    intro q hn hq
    have hK6 := hB.2.1
    have hY16 := hB.1
    refine R_iload dX8_withWhom_6 rfl ?_
    refine R_aload_n dX8_withWhom_8 rfl ?_
    refine R_getI dX8_withWhom_9 (lf_RX8_148).get (by decide) rfl rfl ?_
    refine R_top (y := nI (dK d)) hX.1.1 ?_
    refine R_icmp_geN (tgt := 56) dX8_withWhom_12 (by decide) (by omega) (by omega) (fun h_12 => ?_) (fun h_12 => ?_)
    · refine R_iload dX8_withWhom_56 rfl ?_
      refine R_ireturn dX8_withWhom_58 rfl rfl ?_
      have e : q = dK d := by omega
      subst e
      exact ⟨rfl, rfl⟩
    · refine R_iload dX8_withWhom_15 rfl ?_
      refine R_iload dX8_withWhom_17 rfl ?_
      refine R_iload_n dX8_withWhom_19 rfl ?_
      refine R_icmp_eqN (tgt := 46) dX8_withWhom_20 (by decide) (by omega) (by omega) (fun h_20 => ?_) (fun h_20 => ?_)
      · refine R_iconst (v := nI 0) dX8_withWhom_46 rfl ?_
        refine R_ior dX8_withWhom_47 ?_
        refine R_top (y := nI (wm (wF F c t) q)) (wm_or0 _) ?_
        refine R_istore (L' := [(0, .ref 0), (1, .ref 14), (2, .int (nI c)), (3, .int (nI t)), (4, .int (nI (wm (wF F c t) q))), (5, .int (nI q))]) dX8_withWhom_48 (by decide) (qs1 rfl (qs1 rfl (qs1 rfl (qs1 rfl (qs1 rfl (qs1 rfl qs0)))))) ?_
        refine R_iincN (n := 1) (L' := [(0, .ref 0), (1, .ref 14), (2, .int (nI c)), (3, .int (nI t)), (4, .int (nI (wm (wF F c t) q))), (5, .int (nI (q + 1)))]) dX8_withWhom_50 rfl (by decide) (qs1 rfl (qs1 rfl (qs1 rfl (qs1 rfl (qs1 rfl (qs1 rfl qs0)))))) ?_
        refine R_goto (tgt := 6) dX8_withWhom_53 (by decide) ?_
        refine R_ls (L' := [(0, .ref 0), (1, .ref 14), (2, .int (nI c)), (3, .int (nI t)), (4, .int (nI (wm (wF F c t) q))), (5, .int (nI (q + 1)))]) (qs1 rfl (qs1 rfl (qs1 rfl (qs1 rfl (qs1 rfl (qs1 rfl qs0)))))) ?_
        exact (by have h := ih (q + 1) (by omega) (by omega); rw [show wm (wF F c t) (q + 1) = (if wF F c t q then wm (wF F c t) q + 2 ^ q else wm (wF F c t) q) from rfl] at h; rw [if_neg (by unfold wF; rw [decide_eq_false (by omega)]; simp)] at h; exact h)
      · refine R_aload_n dX8_withWhom_23 rfl ?_
        refine R_bipush (v := nI 6) dX8_withWhom_24 rfl ?_
        refine R_iload_n dX8_withWhom_26 rfl ?_
        refine R_imulN dX8_withWhom_27 ?_
        refine R_iload dX8_withWhom_28 rfl ?_
        refine R_iaddN dX8_withWhom_30 ?_
        refine R_ialdN dX8_withWhom_31 (by decide) rfl (by omega) (by decide) ?_
        refine R_iload_n dX8_withWhom_32 rfl ?_
        refine R_callS (mc := mX8_has) (As := [_, _]) dX8_withWhom_33 lm_RX8_250 mv_X8_has rfl rfl rfl (Nat.le_of_ble_eq_true rfl) (m_has (by omega)) ?_
        rintro _ _ ⟨rfl, ⟨rfl, hh⟩ | ⟨rfl, hh⟩⟩
        · rw [hF c q t hc (by omega) (by omega) ht] at hh
          have hw : wF F c t q = true := by unfold wF; rw [hh, decide_eq_true (show q ≠ c by omega)]; rfl
          refine R_if_eqN (tgt := 46) dX8_withWhom_36 (by decide) (by omega) (fun h_36 => by exact absurd h_36 (by decide)) (fun h_36 => ?_)
          refine R_iconst (v := nI 1) dX8_withWhom_39 rfl ?_
          refine R_iload dX8_withWhom_40 rfl ?_
          refine R_ishl dX8_withWhom_42 ?_
          refine R_goto (tgt := 47) dX8_withWhom_43 (by decide) ?_
          refine R_ior dX8_withWhom_47 ?_
          refine R_top (y := nI (wm (wF F c t) q + 2 ^ q)) (wm_or (f := wF F c t) (n := q) (by omega)) ?_
          refine R_istore (L' := [(0, .ref 0), (1, .ref 14), (2, .int (nI c)), (3, .int (nI t)), (4, .int (nI (wm (wF F c t) q + 2 ^ q))), (5, .int (nI q))]) dX8_withWhom_48 (by decide) (qs1 rfl (qs1 rfl (qs1 rfl (qs1 rfl (qs1 rfl (qs1 rfl qs0)))))) ?_
          refine R_iincN (n := 1) (L' := [(0, .ref 0), (1, .ref 14), (2, .int (nI c)), (3, .int (nI t)), (4, .int (nI (wm (wF F c t) q + 2 ^ q))), (5, .int (nI (q + 1)))]) dX8_withWhom_50 rfl (by decide) (qs1 rfl (qs1 rfl (qs1 rfl (qs1 rfl (qs1 rfl (qs1 rfl qs0)))))) ?_
          refine R_goto (tgt := 6) dX8_withWhom_53 (by decide) ?_
          refine R_ls (L' := [(0, .ref 0), (1, .ref 14), (2, .int (nI c)), (3, .int (nI t)), (4, .int (nI (wm (wF F c t) q + 2 ^ q))), (5, .int (nI (q + 1)))]) (qs1 rfl (qs1 rfl (qs1 rfl (qs1 rfl (qs1 rfl (qs1 rfl qs0)))))) ?_
          exact (by have h := ih (q + 1) (by omega) (by omega); rw [show wm (wF F c t) (q + 1) = (if wF F c t q then wm (wF F c t) q + 2 ^ q else wm (wF F c t) q) from rfl] at h; rw [if_pos hw] at h; exact h)
        · rw [hF c q t hc (by omega) (by omega) ht] at hh
          have hw : ¬ wF F c t q = true := fun z => by unfold wF at z; rw [Bool.and_eq_true] at z; exact hh z.2
          refine R_if_eqN (tgt := 46) dX8_withWhom_36 (by decide) (by omega) (fun h_36 => ?_) (fun h_36 => by exact absurd h_36 (by decide))
          refine R_iconst (v := nI 0) dX8_withWhom_46 rfl ?_
          refine R_ior dX8_withWhom_47 ?_
          refine R_top (y := nI (wm (wF F c t) q)) (wm_or0 _) ?_
          refine R_istore (L' := [(0, .ref 0), (1, .ref 14), (2, .int (nI c)), (3, .int (nI t)), (4, .int (nI (wm (wF F c t) q))), (5, .int (nI q))]) dX8_withWhom_48 (by decide) (qs1 rfl (qs1 rfl (qs1 rfl (qs1 rfl (qs1 rfl (qs1 rfl qs0)))))) ?_
          refine R_iincN (n := 1) (L' := [(0, .ref 0), (1, .ref 14), (2, .int (nI c)), (3, .int (nI t)), (4, .int (nI (wm (wF F c t) q))), (5, .int (nI (q + 1)))]) dX8_withWhom_50 rfl (by decide) (qs1 rfl (qs1 rfl (qs1 rfl (qs1 rfl (qs1 rfl (qs1 rfl qs0)))))) ?_
          refine R_goto (tgt := 6) dX8_withWhom_53 (by decide) ?_
          refine R_ls (L' := [(0, .ref 0), (1, .ref 14), (2, .int (nI c)), (3, .int (nI t)), (4, .int (nI (wm (wF F c t) q))), (5, .int (nI (q + 1)))]) (qs1 rfl (qs1 rfl (qs1 rfl (qs1 rfl (qs1 rfl (qs1 rfl qs0)))))) ?_
          exact (by have h := ih (q + 1) (by omega) (by omega); rw [show wm (wF F c t) (q + 1) = (if wF F c t q then wm (wF F c t) q + 2 ^ q else wm (wF F c t) q) from rfl] at h; rw [if_neg hw] at h; exact h)
set_option maxRecDepth 100000 in
set_option maxHeartbeats 4000000 in
theorem m_with14 {M : qMem} {d : dT} (hX : MR M d) (hB : dB d) {F : Nat → Nat → Nat → Bool} (hF : BW M 14 d F) {c t : Nat} (hc : c < dK d) (ht : t < dY d) : qSem 1 mX8_withWhom [.ref 0, .ref 14, .int (nI c), .int (nI t)] M (qr (nI (wm (wF F c t) (dK d))) M) := by
  have hK6 := hB.2.1
  have hY16 := hB.1
  refine qSem.of (by decide +kernel) (Nat.le_of_ble_eq_true rfl) (fun w => ?_)
  refine R_ls (L' := [(0, .ref 0), (1, .ref 14), (2, .int (nI c)), (3, .int (nI t))]) (qs1 rfl (qs1 rfl (qs1 rfl (qs1 rfl qs0)))) ?_
  refine R_iconst (v := nI 0) dX8_withWhom_0 rfl ?_
  refine R_istore (L' := [(0, .ref 0), (1, .ref 14), (2, .int (nI c)), (3, .int (nI t)), (4, .int (nI 0))]) dX8_withWhom_1 (by decide) (qs1 rfl (qs1 rfl (qs1 rfl (qs1 rfl (qs1 rfl qs0))))) ?_
  refine R_iconst (v := nI 0) dX8_withWhom_3 rfl ?_
  refine R_istore (L' := [(0, .ref 0), (1, .ref 14), (2, .int (nI c)), (3, .int (nI t)), (4, .int (nI 0)), (5, .int (nI 0))]) dX8_withWhom_4 (by decide) (qs1 rfl (qs1 rfl (qs1 rfl (qs1 rfl (qs1 rfl (qs1 rfl qs0)))))) ?_
  refine R_ls (L' := [(0, .ref 0), (1, .ref 14), (2, .int (nI c)), (3, .int (nI t)), (4, .int (nI 0)), (5, .int (nI 0))]) (qs1 rfl (qs1 rfl (qs1 rfl (qs1 rfl (qs1 rfl (qs1 rfl qs0)))))) ?_
  exact (m_with14L hX hB hF hc ht (dK d + 2) 0 (by omega) (Nat.zero_le _))
set_option maxRecDepth 100000 in
set_option maxHeartbeats 4000000 in
theorem m_with15L {w : qWT} {M : qMem} {d : dT} (hX : MR M d) (hB : dB d) {F : Nat → Nat → Nat → Bool} (hF : BW M 15 d F) {c t : Nat} (hc : c < dK d) (ht : t < dY d) : ∀ (fu : Nat) (q : Nat), (dK d + 1 - q) < fu → (q ≤ dK d) → qRW 1 w mX8_withWhom 6 [(0, .ref 0), (1, .ref 15), (2, .int (nI c)), (3, .int (nI t)), (4, .int (nI (wm (wF F c t) q))), (5, .int (nI q))] [] M (qr (nI (wm (wF F c t) (dK d))) M) := by
  intro fu
  induction fu with
  | zero => intro q hn; exact absurd hn (Nat.not_lt_zero _)
  | succ fu ih =>
    intro q hn hq
    have hK6 := hB.2.1
    have hY16 := hB.1
    refine R_iload dX8_withWhom_6 rfl ?_
    refine R_aload_n dX8_withWhom_8 rfl ?_
    refine R_getI dX8_withWhom_9 (lf_RX8_148).get (by decide) rfl rfl ?_
    refine R_top (y := nI (dK d)) hX.1.1 ?_
    refine R_icmp_geN (tgt := 56) dX8_withWhom_12 (by decide) (by omega) (by omega) (fun h_12 => ?_) (fun h_12 => ?_)
    · refine R_iload dX8_withWhom_56 rfl ?_
      refine R_ireturn dX8_withWhom_58 rfl rfl ?_
      have e : q = dK d := by omega
      subst e
      exact ⟨rfl, rfl⟩
    · refine R_iload dX8_withWhom_15 rfl ?_
      refine R_iload dX8_withWhom_17 rfl ?_
      refine R_iload_n dX8_withWhom_19 rfl ?_
      refine R_icmp_eqN (tgt := 46) dX8_withWhom_20 (by decide) (by omega) (by omega) (fun h_20 => ?_) (fun h_20 => ?_)
      · refine R_iconst (v := nI 0) dX8_withWhom_46 rfl ?_
        refine R_ior dX8_withWhom_47 ?_
        refine R_top (y := nI (wm (wF F c t) q)) (wm_or0 _) ?_
        refine R_istore (L' := [(0, .ref 0), (1, .ref 15), (2, .int (nI c)), (3, .int (nI t)), (4, .int (nI (wm (wF F c t) q))), (5, .int (nI q))]) dX8_withWhom_48 (by decide) (qs1 rfl (qs1 rfl (qs1 rfl (qs1 rfl (qs1 rfl (qs1 rfl qs0)))))) ?_
        refine R_iincN (n := 1) (L' := [(0, .ref 0), (1, .ref 15), (2, .int (nI c)), (3, .int (nI t)), (4, .int (nI (wm (wF F c t) q))), (5, .int (nI (q + 1)))]) dX8_withWhom_50 rfl (by decide) (qs1 rfl (qs1 rfl (qs1 rfl (qs1 rfl (qs1 rfl (qs1 rfl qs0)))))) ?_
        refine R_goto (tgt := 6) dX8_withWhom_53 (by decide) ?_
        refine R_ls (L' := [(0, .ref 0), (1, .ref 15), (2, .int (nI c)), (3, .int (nI t)), (4, .int (nI (wm (wF F c t) q))), (5, .int (nI (q + 1)))]) (qs1 rfl (qs1 rfl (qs1 rfl (qs1 rfl (qs1 rfl (qs1 rfl qs0)))))) ?_
        exact (by have h := ih (q + 1) (by omega) (by omega); rw [show wm (wF F c t) (q + 1) = (if wF F c t q then wm (wF F c t) q + 2 ^ q else wm (wF F c t) q) from rfl] at h; rw [if_neg (by unfold wF; rw [decide_eq_false (by omega)]; simp)] at h; exact h)
      · refine R_aload_n dX8_withWhom_23 rfl ?_
        refine R_bipush (v := nI 6) dX8_withWhom_24 rfl ?_
        refine R_iload_n dX8_withWhom_26 rfl ?_
        refine R_imulN dX8_withWhom_27 ?_
        refine R_iload dX8_withWhom_28 rfl ?_
        refine R_iaddN dX8_withWhom_30 ?_
        refine R_ialdN dX8_withWhom_31 (by decide) rfl (by omega) (by decide) ?_
        refine R_iload_n dX8_withWhom_32 rfl ?_
        refine R_callS (mc := mX8_has) (As := [_, _]) dX8_withWhom_33 lm_RX8_250 mv_X8_has rfl rfl rfl (Nat.le_of_ble_eq_true rfl) (m_has (by omega)) ?_
        rintro _ _ ⟨rfl, ⟨rfl, hh⟩ | ⟨rfl, hh⟩⟩
        · rw [hF c q t hc (by omega) (by omega) ht] at hh
          have hw : wF F c t q = true := by unfold wF; rw [hh, decide_eq_true (show q ≠ c by omega)]; rfl
          refine R_if_eqN (tgt := 46) dX8_withWhom_36 (by decide) (by omega) (fun h_36 => by exact absurd h_36 (by decide)) (fun h_36 => ?_)
          refine R_iconst (v := nI 1) dX8_withWhom_39 rfl ?_
          refine R_iload dX8_withWhom_40 rfl ?_
          refine R_ishl dX8_withWhom_42 ?_
          refine R_goto (tgt := 47) dX8_withWhom_43 (by decide) ?_
          refine R_ior dX8_withWhom_47 ?_
          refine R_top (y := nI (wm (wF F c t) q + 2 ^ q)) (wm_or (f := wF F c t) (n := q) (by omega)) ?_
          refine R_istore (L' := [(0, .ref 0), (1, .ref 15), (2, .int (nI c)), (3, .int (nI t)), (4, .int (nI (wm (wF F c t) q + 2 ^ q))), (5, .int (nI q))]) dX8_withWhom_48 (by decide) (qs1 rfl (qs1 rfl (qs1 rfl (qs1 rfl (qs1 rfl (qs1 rfl qs0)))))) ?_
          refine R_iincN (n := 1) (L' := [(0, .ref 0), (1, .ref 15), (2, .int (nI c)), (3, .int (nI t)), (4, .int (nI (wm (wF F c t) q + 2 ^ q))), (5, .int (nI (q + 1)))]) dX8_withWhom_50 rfl (by decide) (qs1 rfl (qs1 rfl (qs1 rfl (qs1 rfl (qs1 rfl (qs1 rfl qs0)))))) ?_
          refine R_goto (tgt := 6) dX8_withWhom_53 (by decide) ?_
          refine R_ls (L' := [(0, .ref 0), (1, .ref 15), (2, .int (nI c)), (3, .int (nI t)), (4, .int (nI (wm (wF F c t) q + 2 ^ q))), (5, .int (nI (q + 1)))]) (qs1 rfl (qs1 rfl (qs1 rfl (qs1 rfl (qs1 rfl (qs1 rfl qs0)))))) ?_
          exact (by have h := ih (q + 1) (by omega) (by omega); rw [show wm (wF F c t) (q + 1) = (if wF F c t q then wm (wF F c t) q + 2 ^ q else wm (wF F c t) q) from rfl] at h; rw [if_pos hw] at h; exact h)
        · rw [hF c q t hc (by omega) (by omega) ht] at hh
          have hw : ¬ wF F c t q = true := fun z => by unfold wF at z; rw [Bool.and_eq_true] at z; exact hh z.2
          refine R_if_eqN (tgt := 46) dX8_withWhom_36 (by decide) (by omega) (fun h_36 => ?_) (fun h_36 => by exact absurd h_36 (by decide))
          refine R_iconst (v := nI 0) dX8_withWhom_46 rfl ?_
          refine R_ior dX8_withWhom_47 ?_
          refine R_top (y := nI (wm (wF F c t) q)) (wm_or0 _) ?_
          refine R_istore (L' := [(0, .ref 0), (1, .ref 15), (2, .int (nI c)), (3, .int (nI t)), (4, .int (nI (wm (wF F c t) q))), (5, .int (nI q))]) dX8_withWhom_48 (by decide) (qs1 rfl (qs1 rfl (qs1 rfl (qs1 rfl (qs1 rfl (qs1 rfl qs0)))))) ?_
          refine R_iincN (n := 1) (L' := [(0, .ref 0), (1, .ref 15), (2, .int (nI c)), (3, .int (nI t)), (4, .int (nI (wm (wF F c t) q))), (5, .int (nI (q + 1)))]) dX8_withWhom_50 rfl (by decide) (qs1 rfl (qs1 rfl (qs1 rfl (qs1 rfl (qs1 rfl (qs1 rfl qs0)))))) ?_
          refine R_goto (tgt := 6) dX8_withWhom_53 (by decide) ?_
          refine R_ls (L' := [(0, .ref 0), (1, .ref 15), (2, .int (nI c)), (3, .int (nI t)), (4, .int (nI (wm (wF F c t) q))), (5, .int (nI (q + 1)))]) (qs1 rfl (qs1 rfl (qs1 rfl (qs1 rfl (qs1 rfl (qs1 rfl qs0)))))) ?_
          exact (by have h := ih (q + 1) (by omega) (by omega); rw [show wm (wF F c t) (q + 1) = (if wF F c t q then wm (wF F c t) q + 2 ^ q else wm (wF F c t) q) from rfl] at h; rw [if_neg hw] at h; exact h)
set_option maxRecDepth 100000 in
set_option maxHeartbeats 4000000 in
theorem m_with15 {M : qMem} {d : dT} (hX : MR M d) (hB : dB d) {F : Nat → Nat → Nat → Bool} (hF : BW M 15 d F) {c t : Nat} (hc : c < dK d) (ht : t < dY d) : qSem 1 mX8_withWhom [.ref 0, .ref 15, .int (nI c), .int (nI t)] M (qr (nI (wm (wF F c t) (dK d))) M) := by
  have hK6 := hB.2.1
  have hY16 := hB.1
  refine qSem.of (by decide +kernel) (Nat.le_of_ble_eq_true rfl) (fun w => ?_)
  refine R_ls (L' := [(0, .ref 0), (1, .ref 15), (2, .int (nI c)), (3, .int (nI t))]) (qs1 rfl (qs1 rfl (qs1 rfl (qs1 rfl qs0)))) ?_
  refine R_iconst (v := nI 0) dX8_withWhom_0 rfl ?_
  refine R_istore (L' := [(0, .ref 0), (1, .ref 15), (2, .int (nI c)), (3, .int (nI t)), (4, .int (nI 0))]) dX8_withWhom_1 (by decide) (qs1 rfl (qs1 rfl (qs1 rfl (qs1 rfl (qs1 rfl qs0))))) ?_
  refine R_iconst (v := nI 0) dX8_withWhom_3 rfl ?_
  refine R_istore (L' := [(0, .ref 0), (1, .ref 15), (2, .int (nI c)), (3, .int (nI t)), (4, .int (nI 0)), (5, .int (nI 0))]) dX8_withWhom_4 (by decide) (qs1 rfl (qs1 rfl (qs1 rfl (qs1 rfl (qs1 rfl (qs1 rfl qs0)))))) ?_
  refine R_ls (L' := [(0, .ref 0), (1, .ref 15), (2, .int (nI c)), (3, .int (nI t)), (4, .int (nI 0)), (5, .int (nI 0))]) (qs1 rfl (qs1 rfl (qs1 rfl (qs1 rfl (qs1 rfl (qs1 rfl qs0)))))) ?_
  exact (m_with15L hX hB hF hc ht (dK d + 2) 0 (by omega) (Nat.zero_le _))
