
-- ===== the model: a text is read =====
def sRd (o k : Nat) : Prop := o = 5 ∨ o = 6 ∨ o = 7 ∨ (o = 0 ∧ (k = 7 ∨ k = 8 ∨ k = 15))
def MD (M : qMem) (d : dT) : Prop := M.1 0 7 = nI (dK d) ∧ M.1 0 8 = nI (dY d) ∧ (∀ c, c < dK d → M.1 5 c = dX d c) ∧ (∀ c, c < dK d → M.1 6 c = dZ d c) ∧ MRow M 7 0 d ∧ M.1 7 101 = nI 0
theorem MT.s {M : qMem} {t : List Nat} {x : Int32} (H : MT M t) : MT (qIs M 0 15 x) t := H.off (by rw [qIs_nk (by decide)]) (by rw [qIs_no (by decide)])
theorem MT.rd {M N : qMem} {t : List Nat} (H : MT M t) (hO : cOff sRd M N) : MT N t := H.off (hO 0 0 (by unfold sRd; omega)).1 (funext fun k => (hO 1 k (by unfold sRd; omega)).1)
theorem MD.s {M : qMem} {d : dT} {x : Int32} (h : MD M d) : MD (qIs M 0 15 x) d := by
  obtain ⟨h1, h2, h3, h4, h5, h6⟩ := h
  exact ⟨by rw [qIs_nk (by decide)]; exact h1, by rw [qIs_nk (by decide)]; exact h2, fun c hc => by rw [qIs_no (by decide)]; exact h3 c hc, fun c hc => by rw [qIs_no (by decide)]; exact h4 c hc, h5.off (by rw [qIs_no (by decide)]), by rw [qIs_no (by decide)]; exact h6⟩
theorem MI.rd {M N : qMem} {s : sT} (h : MI M s) (hO : cOff sRd M N) : MI N s := by
  obtain ⟨h1, h2, h3, h4, h5, h6⟩ := h
  have e : ∀ o, o ≠ 5 → o ≠ 6 → o ≠ 7 → o ≠ 0 → N.1 o = M.1 o := fun o a b c d => funext fun k => (hO o k (by unfold sRd; omega)).1
  have e0 : ∀ k, k ≠ 7 → k ≠ 8 → k ≠ 15 → N.1 0 k = M.1 0 k := fun k a b c => (hO 0 k (by unfold sRd; omega)).1
  exact ⟨h1.off (e0 2 (by decide) (by decide) (by decide)) (e0 3 (by decide) (by decide) (by decide)) (e 2 (by decide) (by decide) (by decide) (by decide)) (e 3 (by decide) (by decide) (by decide) (by decide)) (e 4 (by decide) (by decide) (by decide) (by decide)), h2.off (by rw [e 4 (by decide) (by decide) (by decide) (by decide)]) (e 9 (by decide) (by decide) (by decide) (by decide)), h3.rd hO, by rw [e0 13 (by decide) (by decide) (by decide)]; exact h4, h5.off (e 8 (by decide) (by decide) (by decide) (by decide)), fun z => (h6 (by rw [e0 22 (by decide) (by decide) (by decide)] at z; exact z)).off (e0 25 (by decide) (by decide) (by decide)) (fun o a b => e o (by omega) (by omega) (by omega) (by omega))⟩
theorem nI_m4 {z : Nat} (h : z < 2147483648) : ¬ nI z = -4 := fun e => by
  have := congrArg Int32.toInt e
  rw [nI_toInt h] at this
  have h1 : (-4 : Int32).toInt = -4 := rfl
  omega
theorem in_nn {x l h : Nat} (hx : x < 2147483648) (hl : l < 2147483648) (hh : h < 2147483648) : ((nI l).toInt64 ≤ (nI x).toInt64 ∧ (nI x).toInt64 ≤ (nI h).toInt64) ↔ l ≤ x ∧ x ≤ h := by
  rw [in64, nI_leI hl hx, nI_leI hx hh]
abbrev qsgM (tx : List Nat) (a lo hi : Nat) (M : qMem) : qQ := fun v N => (∃ z, sgn tx a = some z ∧ lo ≤ z ∧ z ≤ hi ∧ v = some (.int (nI z)) ∧ N = qIs M 0 15 (nI (a + 1))) ∨ ((∀ z, sgn tx a = some z → ¬ (lo ≤ z ∧ z ≤ hi)) ∧ v = some (.int (-4)) ∧ N = M)
set_option maxRecDepth 100000 in
set_option maxHeartbeats 4000000 in
theorem m_sign {M : qMem} {tx : List Nat} (hT : MT M tx) (hB : txB tx) {a lo hi : Nat} (ha : a < 900) (hlo : lo < 100) (hhi : hi < 100) (h15 : M.1 0 15 = nI a) : qSem 1 mX8_sign [.ref 0, .int (nI lo), .int (nI hi)] M (qsgM tx a lo hi M) := by
  have hla : lt tx a ≤ 126 := by rcases Nat.lt_or_ge a tx.length with z | z; exact (hB.2 a z).2; rw [lt_out z]; omega
  refine qSem.of (by decide +kernel) (Nat.le_of_ble_eq_true rfl) (fun w => ?_)
  refine R_ls (L' := [(0, .ref 0), (1, .int (nI lo)), (2, .int (nI hi))]) (qs1 rfl (qs1 rfl (qs1 rfl qs0))) ?_
  refine R_aload_n dX8_sign_0 rfl ?_
  refine R_aload_n dX8_sign_1 rfl ?_
  refine R_getI dX8_sign_2 (lf_RX8_105).get (by decide) rfl rfl ?_
  refine R_top (y := nI a) h15 ?_
  refine R_callV (mc := mX8_letterAt) (As := [_]) (r := 0) dX8_sign_5 lm_RX8_108 mv_X8_letterAt rfl (by decide) rfl rfl rfl rfl (Nat.le_of_ble_eq_true rfl) (m_let hT hB (by omega)) ?_
  rintro _ _ ⟨rfl, rfl⟩
  refine R_istore_n (L' := [(0, .ref 0), (1, .int (nI lo)), (2, .int (nI hi)), (3, .int (nI (lt tx a)))]) dX8_sign_8 (by decide) (qs1 rfl (qs1 rfl (qs1 rfl (qs1 rfl qs0)))) ?_
  refine R_iload_n dX8_sign_9 rfl ?_
  refine R_i2l dX8_sign_10 ?_
  refine R_ldc2 dX8_sign_11 lc_RX8_112 ?_
  refine R_ldc2 dX8_sign_14 lc_RX8_114 ?_
  refine R_callS (mc := mX8_in) (As := [_, _, _]) dX8_sign_17 lm_RX8_98 mv_X8_in rfl rfl rfl (Nat.le_of_ble_eq_true rfl) m_in ?_
  rintro _ _ ⟨rfl, ⟨rfl, hq⟩ | ⟨rfl, hq⟩⟩
  · rw [in_ab (a := nI 48) (c := nI 57) (x := 48) (y := 57) rfl rfl, nI_leI (by omega) (by omega), nI_leI (by omega) (by omega)] at hq
    have hs : sgn tx a = some (lt tx a - 48) := by unfold sgn; rw [if_pos hq]
    refine R_if_eqN (tgt := 30) dX8_sign_20 (by decide) (by omega) (fun h_20 => by exact absurd h_20 (by decide)) (fun h_20 => ?_)
    refine R_iload_n dX8_sign_23 rfl ?_
    refine R_bipush (v := nI 48) dX8_sign_24 rfl ?_
    refine R_isubN dX8_sign_26 (by omega) ?_
    refine R_goto (tgt := 52) dX8_sign_27 (by decide) ?_
    refine R_istore (L' := [(0, .ref 0), (1, .int (nI lo)), (2, .int (nI hi)), (3, .int (nI (lt tx a))), (4, .int (nI ((lt tx a) - 48)))]) dX8_sign_52 (by decide) (qs1 rfl (qs1 rfl (qs1 rfl (qs1 rfl (qs1 rfl qs0))))) ?_
    refine R_iload dX8_sign_54 rfl ?_
    refine R_i2l dX8_sign_56 ?_
    refine R_iload_n dX8_sign_57 rfl ?_
    refine R_i2l dX8_sign_58 ?_
    refine R_iload_n dX8_sign_59 rfl ?_
    refine R_i2l dX8_sign_60 ?_
    refine R_callS (mc := mX8_in) (As := [_, _, _]) dX8_sign_61 lm_RX8_98 mv_X8_in rfl rfl rfl (Nat.le_of_ble_eq_true rfl) m_in ?_
    rintro _ _ ⟨rfl, ⟨rfl, hv⟩ | ⟨rfl, hv⟩⟩
    · rw [in_nn (by omega) (by omega) (by omega)] at hv
      refine R_if_neN (tgt := 70) dX8_sign_64 (by decide) (by omega) (fun h_64 => ?_) (fun h_64 => by exact absurd h_64 (by decide))
      refine R_aload_n dX8_sign_70 rfl ?_
      refine R_dup dX8_sign_71 rfl ?_
      refine R_getI dX8_sign_72 (lf_RX8_105).get (by decide) rfl rfl ?_
      refine R_top (y := nI a) h15 ?_
      refine R_iconst (v := nI 1) dX8_sign_75 rfl ?_
      refine R_iaddN dX8_sign_76 ?_
      refine R_putI dX8_sign_77 lf_RX8_105 (by decide) rfl rfl rfl rfl ?_
      refine R_iload dX8_sign_80 rfl ?_
      refine R_ireturn dX8_sign_82 rfl rfl ?_
      exact Or.inl ⟨_, hs, hv.1, hv.2, rfl, rfl⟩
    · rw [in_nn (by omega) (by omega) (by omega)] at hv
      refine R_if_neN (tgt := 70) dX8_sign_64 (by decide) (by omega) (fun h_64 => by exact absurd h_64 (by decide)) (fun h_64 => ?_)
      refine R_bipush (v := -4) dX8_sign_67 rfl ?_
      refine R_ireturn dX8_sign_69 rfl rfl ?_
      exact Or.inr ⟨fun z hz => (by rw [hs] at hz; cases hz; exact hv), rfl, rfl⟩
  · rw [in_ab (a := nI 48) (c := nI 57) (x := 48) (y := 57) rfl rfl, nI_leI (by omega) (by omega), nI_leI (by omega) (by omega)] at hq
    refine R_if_eqN (tgt := 30) dX8_sign_20 (by decide) (by omega) (fun h_20 => ?_) (fun h_20 => by exact absurd h_20 (by decide))
    refine R_iload_n dX8_sign_30 rfl ?_
    refine R_i2l dX8_sign_31 ?_
    refine R_ldc2 dX8_sign_32 lc_RX8_116 ?_
    refine R_ldc2 dX8_sign_35 lc_RX8_118 ?_
    refine R_callS (mc := mX8_in) (As := [_, _, _]) dX8_sign_38 lm_RX8_98 mv_X8_in rfl rfl rfl (Nat.le_of_ble_eq_true rfl) m_in ?_
    rintro _ _ ⟨rfl, ⟨rfl, hq2⟩ | ⟨rfl, hq2⟩⟩
    · rw [in_ab (a := nI 97) (c := nI 115) (x := 97) (y := 115) rfl rfl, nI_leI (by omega) (by omega), nI_leI (by omega) (by omega)] at hq2
      have hs : sgn tx a = some (lt tx a - 87) := by unfold sgn; rw [if_neg hq, if_pos hq2]
      refine R_if_eqN (tgt := 51) dX8_sign_41 (by decide) (by omega) (fun h_41 => by exact absurd h_41 (by decide)) (fun h_41 => ?_)
      refine R_iload_n dX8_sign_44 rfl ?_
      refine R_bipush (v := nI 87) dX8_sign_45 rfl ?_
      refine R_isubN dX8_sign_47 (by omega) ?_
      refine R_goto (tgt := 52) dX8_sign_48 (by decide) ?_
      refine R_istore (L' := [(0, .ref 0), (1, .int (nI lo)), (2, .int (nI hi)), (3, .int (nI (lt tx a))), (4, .int (nI ((lt tx a) - 87)))]) dX8_sign_52 (by decide) (qs1 rfl (qs1 rfl (qs1 rfl (qs1 rfl (qs1 rfl qs0))))) ?_
      refine R_iload dX8_sign_54 rfl ?_
      refine R_i2l dX8_sign_56 ?_
      refine R_iload_n dX8_sign_57 rfl ?_
      refine R_i2l dX8_sign_58 ?_
      refine R_iload_n dX8_sign_59 rfl ?_
      refine R_i2l dX8_sign_60 ?_
      refine R_callS (mc := mX8_in) (As := [_, _, _]) dX8_sign_61 lm_RX8_98 mv_X8_in rfl rfl rfl (Nat.le_of_ble_eq_true rfl) m_in ?_
      rintro _ _ ⟨rfl, ⟨rfl, hv⟩ | ⟨rfl, hv⟩⟩
      · rw [in_nn (by omega) (by omega) (by omega)] at hv
        refine R_if_neN (tgt := 70) dX8_sign_64 (by decide) (by omega) (fun h_64 => ?_) (fun h_64 => by exact absurd h_64 (by decide))
        refine R_aload_n dX8_sign_70 rfl ?_
        refine R_dup dX8_sign_71 rfl ?_
        refine R_getI dX8_sign_72 (lf_RX8_105).get (by decide) rfl rfl ?_
        refine R_top (y := nI a) h15 ?_
        refine R_iconst (v := nI 1) dX8_sign_75 rfl ?_
        refine R_iaddN dX8_sign_76 ?_
        refine R_putI dX8_sign_77 lf_RX8_105 (by decide) rfl rfl rfl rfl ?_
        refine R_iload dX8_sign_80 rfl ?_
        refine R_ireturn dX8_sign_82 rfl rfl ?_
        exact Or.inl ⟨_, hs, hv.1, hv.2, rfl, rfl⟩
      · rw [in_nn (by omega) (by omega) (by omega)] at hv
        refine R_if_neN (tgt := 70) dX8_sign_64 (by decide) (by omega) (fun h_64 => by exact absurd h_64 (by decide)) (fun h_64 => ?_)
        refine R_bipush (v := -4) dX8_sign_67 rfl ?_
        refine R_ireturn dX8_sign_69 rfl rfl ?_
        exact Or.inr ⟨fun z hz => (by rw [hs] at hz; cases hz; exact hv), rfl, rfl⟩
    · rw [in_ab (a := nI 97) (c := nI 115) (x := 97) (y := 115) rfl rfl, nI_leI (by omega) (by omega), nI_leI (by omega) (by omega)] at hq2
      have hs : sgn tx a = none := by unfold sgn; rw [if_neg hq, if_neg hq2]
      refine R_if_eqN (tgt := 51) dX8_sign_41 (by decide) (by omega) (fun h_41 => ?_) (fun h_41 => by exact absurd h_41 (by decide))
      refine R_iconst (v := -1) dX8_sign_51 rfl ?_
      refine R_istore (L' := [(0, .ref 0), (1, .int (nI lo)), (2, .int (nI hi)), (3, .int (nI (lt tx a))), (4, .int (-1))]) dX8_sign_52 (by decide) (qs1 rfl (qs1 rfl (qs1 rfl (qs1 rfl (qs1 rfl qs0))))) ?_
      refine R_iload dX8_sign_54 rfl ?_
      refine R_i2l dX8_sign_56 ?_
      refine R_iload_n dX8_sign_57 rfl ?_
      refine R_i2l dX8_sign_58 ?_
      refine R_iload_n dX8_sign_59 rfl ?_
      refine R_i2l dX8_sign_60 ?_
      refine R_callS (mc := mX8_in) (As := [_, _, _]) dX8_sign_61 lm_RX8_98 mv_X8_in rfl rfl rfl (Nat.le_of_ble_eq_true rfl) m_in ?_
      rintro _ _ ⟨rfl, ⟨rfl, hv⟩ | ⟨rfl, hv⟩⟩
      · rw [in64] at hv
        refine R_if_neN (tgt := 70) dX8_sign_64 (by decide) (by omega) (fun h_64 => ?_) (fun h_64 => by exact absurd h_64 (by decide))
        refine R_aload_n dX8_sign_70 rfl ?_
        refine R_dup dX8_sign_71 rfl ?_
        refine R_getI dX8_sign_72 (lf_RX8_105).get (by decide) rfl rfl ?_
        refine R_top (y := nI a) h15 ?_
        refine R_iconst (v := nI 1) dX8_sign_75 rfl ?_
        refine R_iaddN dX8_sign_76 ?_
        refine R_putI dX8_sign_77 lf_RX8_105 (by decide) rfl rfl rfl rfl ?_
        refine R_iload dX8_sign_80 rfl ?_
        refine R_ireturn dX8_sign_82 rfl rfl ?_
        exact absurd (Int32.le_trans (nI_pos' (by omega)) hv.1) (by decide)
      · rw [in64] at hv
        refine R_if_neN (tgt := 70) dX8_sign_64 (by decide) (by omega) (fun h_64 => by exact absurd h_64 (by decide)) (fun h_64 => ?_)
        refine R_bipush (v := -4) dX8_sign_67 rfl ?_
        refine R_ireturn dX8_sign_69 rfl rfl ?_
        exact Or.inr ⟨fun z hz => (by rw [hs] at hz; cases hz), rfl, rfl⟩

abbrev qitM (M : qMem) (a : Nat) (e : Option (Nat × dT)) : qQ := fun v N => cOff sRd M N ∧ ((∃ z d', e = some (z, d') ∧ v = some (.int (nI 1)) ∧ MD N d' ∧ N.1 0 15 = nI (a + z)) ∨ (e = none ∧ v = some (.int (nI 0))))
theorem itemY_1 {tx : List Nat} {a v : Nat} {d : dT} (h : sgn tx (a + 1) = some v) : itemY tx a d = if a = 0 ∧ 4 ≤ v ∧ v ≤ 16 ∧ lt tx (a + 2) = 59 then some (3, dYs d v) else none := by unfold itemY; rw [h]
theorem itemY_n {tx : List Nat} {a : Nat} {d : dT} (h : ∀ z, sgn tx (a + 1) = some z → ¬ (4 ≤ z ∧ z ≤ 16)) : itemY tx a d = none := by
  cases e : sgn tx (a + 1) with
  | none => unfold itemY; rw [e]
  | some z => rw [itemY_1 e]; exact if_neg (fun q => h z e ⟨q.2.1, q.2.2.1⟩)
theorem itemY_a {tx : List Nat} {a : Nat} {d : dT} (h : ¬ a = 0) : itemY tx a d = none := by
  cases e : sgn tx (a + 1) with
  | none => unfold itemY; rw [e]
  | some z => rw [itemY_1 e]; exact if_neg (fun q => h q.1)
theorem itemP_1 {tx : List Nat} {a x y : Nat} {d : dT} (hx : sgn tx (a + 1) = some x) (hy : sgn tx (a + 2) = some y) : itemP tx a d = if x ≤ 9 ∧ y ≤ 9 ∧ lt tx (a + 3) = 59 then some (4, dPn d (10 * x + y)) else none := by unfold itemP; rw [hx, hy]
theorem itemP_n {tx : List Nat} {a : Nat} {d : dT} (h : (∀ z, sgn tx (a + 1) = some z → ¬ (0 ≤ z ∧ z ≤ 9)) ∨ (∀ z, sgn tx (a + 2) = some z → ¬ (0 ≤ z ∧ z ≤ 9))) : itemP tx a d = none := by
  cases e : sgn tx (a + 1) with
  | none => unfold itemP; rw [e]
  | some x =>
    cases e2 : sgn tx (a + 2) with
    | none => unfold itemP; rw [e, e2]
    | some y =>
      rw [itemP_1 e e2]
      refine if_neg (fun q => ?_)
      rcases h with h | h
      · exact h x e ⟨Nat.zero_le _, q.1⟩
      · exact h y e2 ⟨Nat.zero_le _, q.2.1⟩
theorem q_tabs : (qtab 0 0).toNatClampNeg = 1 ∧ (qtab 1 0).toNatClampNeg = 4 ∧ (qtab 0 1).toNatClampNeg = 1 ∧ (qtab 1 1).toNatClampNeg = 5 ∧ (qtab 0 2).toNatClampNeg = 1 ∧ (qtab 1 2).toNatClampNeg = 5 ∧ (qtab 0 3).toNatClampNeg = 0 ∧ (qtab 1 3).toNatClampNeg = 2 := by decide
theorem okR_mk {w v : Nat} (h1 : (qtab 0 w).toNatClampNeg ≤ v) (h2 : v ≤ (qtab 1 w).toNatClampNeg) : okR w v = true := by
  unfold okR; rw [Bool.and_eq_true, decide_eq_true_eq, decide_eq_true_eq]; exact ⟨h1, h2⟩
theorem rulOk_s {tx : List Nat} {a n v : Nat} (h : rulOk tx a n = true) (hs : sgn tx (a + 1 + n) = some v) (h1 : (qtab 0 n).toNatClampNeg ≤ v) (h2 : v ≤ (qtab 1 n).toNatClampNeg) : rulOk tx a (n + 1) = true := by
  unfold rulOk; rw [hs, Bool.and_eq_true]; exact ⟨h, okR_mk h1 h2⟩
theorem itemL_n {tx : List Nat} {a k : Nat} {d : dT} (hk : k < 4) (h : ∀ z, sgn tx (a + 1 + k) = some z → ¬ ((qtab 0 k).toNatClampNeg ≤ z ∧ z ≤ (qtab 1 k).toNatClampNeg)) : itemL tx a d = none := by
  unfold itemL
  refine if_neg (fun q => ?_)
  obtain ⟨v, e, hv⟩ := rulOk_at q.2 k hk
  exact h v e (okR_le hv)
theorem MD_Y {M N : qMem} {d : dT} {z : Nat} (h : MD M d) (hK0 : dK d = 0) (h7 : N.1 0 7 = M.1 0 7) (h8 : N.1 0 8 = nI z) (e7 : N.1 7 = M.1 7) : MD N (dYs d z) := by
  obtain ⟨h1, h2, h3, h4, h5, h6⟩ := h
  have k0 : dK (dYs d z) = 0 := hK0
  exact ⟨by rw [h7]; exact h1, h8, fun c hc => absurd hc (by omega), fun c hc => absurd hc (by omega), ⟨fun c t hc => absurd hc (by omega), by rw [e7]; exact h5.2.1, fun k hk => by rw [e7]; exact h5.2.2 k hk⟩, by rw [e7]; exact h6⟩
theorem MD_P {M N : qMem} {d : dT} {p : Nat} (h : MD M d) (hD : dB d) (h0 : ∀ k, k ≠ 15 → N.1 0 k = M.1 0 k) (h5 : N.1 5 = M.1 5) (h6 : N.1 6 = M.1 6) (h7 : ∀ k, k ≠ 96 → N.1 7 k = M.1 7 k) (hp : N.1 7 96 = nI p) : MD N (dPn d p) := by
  obtain ⟨g1, g2, g3, g4, g5, g6⟩ := h
  have hK6 := hD.2.1
  have hY16 := hD.1
  refine ⟨by rw [h0 7 (by decide)]; exact g1, by rw [h0 8 (by decide)]; exact g2, fun c hc => by rw [h5]; exact g3 c hc, fun c hc => by rw [h6]; exact g4 c hc, ⟨fun c t hc ht => ?_, ?_, fun k hk => ?_⟩, by rw [h7 101 (by decide)]; exact g6⟩
  · have hc : c < dK d := hc
    have ht : t < dY d := ht
    rw [h7 _ (by omega)]; exact g5.1 c t hc ht
  · show N.1 7 (0 + 96) = nI (if 4 = 4 then p else dR d 4)
    rw [if_pos rfl]; exact hp
  · rw [h7 _ (by omega), g5.2.2 k hk]
    show _ = nI (if k = 4 then p else dR d k); rw [if_neg (by omega)]
theorem MD_L {M N : qMem} {d : dT} {tx : List Nat} {a : Nat} (h : MD M d) (hD : dB d) (h0 : ∀ k, k ≠ 15 → N.1 0 k = M.1 0 k) (h5 : N.1 5 = M.1 5) (h6 : N.1 6 = M.1 6) (h7 : ∀ k, k < 97 ∨ 100 < k → N.1 7 k = M.1 7 k) (hp : ∀ k, k < 4 → ∃ v, sgn tx (a + 1 + k) = some v ∧ N.1 7 (97 + k) = nI v) : MD N (dRl d tx a) := by
  obtain ⟨g1, g2, g3, g4, g5, g6⟩ := h
  have hK6 := hD.2.1
  have hY16 := hD.1
  refine ⟨by rw [h0 7 (by decide)]; exact g1, by rw [h0 8 (by decide)]; exact g2, fun c hc => by rw [h5]; exact g3 c hc, fun c hc => by rw [h6]; exact g4 c hc, ⟨fun c t hc ht => ?_, ?_, fun k hk => ?_⟩, by rw [h7 101 (by decide)]; exact g6⟩
  · have hc : c < dK d := hc
    have ht : t < dY d := ht
    rw [h7 _ (by omega)]; exact g5.1 c t hc ht
  · rw [h7 _ (by omega)]; exact g5.2.1
  · obtain ⟨v, e1, e2⟩ := hp k hk
    rw [Nat.zero_add, e2]
    show _ = nI (if k < 4 then (sgn tx (a + 1 + k)).getD 0 else dR d k)
    rw [if_pos hk, e1]; rfl
/-- a station in the making: k of its values -/
def SI (M K : qMem) (d : dT) (tx : List Nat) (a k : Nat) : Prop := cOff sRd M K ∧ K.1 0 7 = nI (dK d + 1) ∧ K.1 0 8 = nI (dY d) ∧ (∀ c, c < dK d + 1 → K.1 5 c = dX (dSt d tx a) c) ∧ (∀ c, c < dK d + 1 → K.1 6 c = dZ (dSt d tx a) c) ∧ (∀ c t, c < dK d → t < dY d → K.1 7 (16 * c + t) = encM (dV d c t)) ∧ (∀ t, t < k → K.1 7 (16 * dK d + t) = encM ((sgn tx (a + 3 + t)).map nI)) ∧ K.1 7 96 = nI (dR d 4) ∧ (∀ j, j < 4 → K.1 7 (97 + j) = nI (dR d j)) ∧ K.1 7 101 = nI 0 ∧ K.1 0 15 = nI (a + 3 + k)
theorem SI_0 {M N : qMem} {d : dT} {tx : List Nat} {a x y : Nat} (hX : MD M d) (hx : sgn tx (a + 1) = some x) (hy : sgn tx (a + 2) = some y) (e7 : N.1 0 7 = nI (dK d + 1)) (e5 : N.1 5 = upd (M.1 5) (dK d) (nI x)) (e6 : N.1 6 = upd (M.1 6) (dK d) (nI y)) (e0 : ∀ k, k ≠ 7 → k ≠ 15 → N.1 0 k = M.1 0 k) (eo : ∀ o, o ≠ 0 → o ≠ 5 → o ≠ 6 → N.1 o = M.1 o) (e2 : N.2 = M.2) (h15 : N.1 0 15 = nI (a + 3)) : SI M N d tx a 0 := by
  obtain ⟨g1, g2, g3, g4, g5, g6⟩ := hX
  refine ⟨fun o k ho => ?_, e7, by rw [e0 8 (by decide) (by decide)]; exact g2, fun c hc => ?_, fun c hc => ?_, fun c t hc ht => ?_, fun t ht => absurd ht (Nat.not_lt_zero t), ?_, fun j hj => ?_, ?_, h15⟩
  · refine ⟨?_, by rw [e2]⟩
    by_cases h0 : o = 0
    · subst h0; exact e0 k (fun e => ho (by unfold sRd; omega)) (fun e => ho (by unfold sRd; omega))
    · rw [eo o h0 (fun e => ho (by unfold sRd; omega)) (fun e => ho (by unfold sRd; omega))]
  · rw [e5]
    show _ = (if c = dK d then nI ((sgn tx (a + 1)).getD 0) else dX d c)
    by_cases e : c = dK d
    · subst e; rw [pk_us, if_pos rfl, hx]; rfl
    · rw [pk_un e, if_neg e]; exact g3 c (by omega)
  · rw [e6]
    show _ = (if c = dK d then nI ((sgn tx (a + 2)).getD 0) else dZ d c)
    by_cases e : c = dK d
    · subst e; rw [pk_us, if_pos rfl, hy]; rfl
    · rw [pk_un e, if_neg e]; exact g4 c (by omega)
  · rw [eo 7 (by decide) (by decide) (by decide)]
    have := g5.1 c t hc ht
    rw [Nat.zero_add] at this; exact this
  · rw [eo 7 (by decide) (by decide) (by decide)]; exact g5.2.1
  · rw [eo 7 (by decide) (by decide) (by decide)]
    have := g5.2.2 j hj
    rw [Nat.zero_add] at this; exact this
  · rw [eo 7 (by decide) (by decide) (by decide)]; exact g6
theorem SI_put {M K N : qMem} {d : dT} {tx : List Nat} {a k : Nat} (h : SI M K d tx a k) (hD : dB d) (hk : k < dY d) (hK : dK d < 6) {x : Int32} (hx : x = encM ((sgn tx (a + 3 + k)).map nI)) (hN : N = qIs (qIs K 0 15 (nI (a + 3 + (k + 1)))) 7 (16 * dK d + k) x) : SI M N d tx a (k + 1) := by
  obtain ⟨h0, h1, h2, h3, h4, h5, h6, h7, h8, h9, h10⟩ := h
  have hY16 := hD.1
  subst hN
  refine ⟨(h0.is (by unfold sRd; omega)).is (by unfold sRd; omega), by rw [qIs_no (by decide), qIs_nk (by decide)]; exact h1, by rw [qIs_no (by decide), qIs_nk (by decide)]; exact h2, fun c hc => by rw [qIs_no (by decide), qIs_no (by decide)]; exact h3 c hc, fun c hc => by rw [qIs_no (by decide), qIs_no (by decide)]; exact h4 c hc, fun c t hc ht => by rw [qIs_nk (by omega), qIs_no (by decide)]; exact h5 c t hc ht, fun t ht => ?_, by rw [qIs_nk (by omega), qIs_no (by decide)]; exact h7, fun j hj => by rw [qIs_nk (by omega), qIs_no (by decide)]; exact h8 j hj, by rw [qIs_nk (by omega), qIs_no (by decide)]; exact h9, by rw [qIs_no (by decide), qIs_eq]⟩
  rcases Nat.lt_or_ge t k with q | q
  · rw [qIs_nk (by omega), qIs_no (by decide)]; exact h6 t q
  · have e : t = k := by omega
    subst e; rw [qIs_eq]; exact hx
theorem SI_end {M K : qMem} {d : dT} {tx : List Nat} {a : Nat} {x : Int32} (h : SI M K d tx a (dY d)) : MD (qIs K 0 15 x) (dSt d tx a) := by
  obtain ⟨h0, h1, h2, h3, h4, h5, h6, h7, h8, h9, h10⟩ := h
  refine MD.s ⟨h1, h2, h3, h4, ⟨fun c t hc ht => ?_, h7, fun j hj => ?_⟩, h9⟩
  · have hc : c < dK d + 1 := hc
    have ht : t < dY d := ht
    rw [Nat.zero_add]
    show _ = encM (if c = dK d then (sgn tx (a + 3 + t)).map nI else dV d c t)
    by_cases e : c = dK d
    · subst e; rw [if_pos rfl]; exact h6 t ht
    · rw [if_neg e]; exact h5 c t (by omega) ht
  · rw [Nat.zero_add]; exact h8 j hj
set_option maxRecDepth 100000 in
set_option maxHeartbeats 4000000 in
theorem m_years {M : qMem} {tx : List Nat} (hT : MT M tx) (hB : txB tx) {d : dT} (hX : MD M d) (hK0 : dK d = 0) (h15 : M.1 0 15 = nI 1) : qSem 1 mX8_yearsItem [.ref 0] M (qitM M 0 (itemY tx 0 d)) := by
  refine qSem.of (by decide +kernel) (Nat.le_of_ble_eq_true rfl) (fun w => ?_)
  refine R_ls (L' := [(0, .ref 0)]) (qs1 rfl qs0) ?_
  refine R_aload_n dX8_yearsItem_0 rfl ?_
  refine R_aload_n dX8_yearsItem_1 rfl ?_
  refine R_iconst (v := nI 4) dX8_yearsItem_2 rfl ?_
  refine R_bipush (v := nI 16) dX8_yearsItem_3 rfl ?_
  refine R_callV (mc := mX8_sign) (As := [_, _]) (r := 0) dX8_yearsItem_5 lm_RX8_120 mv_X8_sign rfl (by decide) rfl rfl rfl rfl (Nat.le_of_ble_eq_true rfl) (m_sign hT hB (a := 1) (by omega) (by decide) (by decide) h15) ?_
  rintro _ _ (⟨z, hz, hz1, hz2, rfl, rfl⟩ | ⟨hz, rfl, rfl⟩)
  · refine R_putI dX8_yearsItem_8 lf_RX8_71 (by decide) rfl rfl rfl rfl ?_
    refine R_aload_n dX8_yearsItem_11 rfl ?_
    refine R_getI dX8_yearsItem_12 (lf_RX8_71).get (by decide) rfl rfl ?_
    refine R_top (y := nI z) (by rw [qIs_eq]) ?_
    refine R_bipush (v := -4) dX8_yearsItem_15 rfl ?_
    refine R_icmp_eq (tgt := 31) dX8_yearsItem_17 (by decide) (fun h_17 => by exact absurd h_17 (nI_m4 (by omega))) (fun h_17 => ?_)
    refine R_aload_n dX8_yearsItem_20 rfl ?_
    refine R_callV (mc := mX8_ends) (As := []) (r := 0) dX8_yearsItem_21 lm_RX8_124 mv_X8_ends rfl (by decide) rfl rfl rfl rfl (Nat.le_of_ble_eq_true rfl) (m_ends (hT.s.off (by rw [qIs_nk (by decide)]) (by rw [qIs_no (by decide)])) hB (a := 2) (by omega) (by rw [qIs_nk (by decide), qIs_eq])) ?_
    rintro _ _ ⟨rfl, ⟨rfl, he⟩ | ⟨rfl, he⟩⟩
    · refine R_if_eqN (tgt := 31) dX8_yearsItem_24 (by decide) (by omega) (fun h_24 => by exact absurd h_24 (by decide)) (fun h_24 => ?_)
      refine R_iconst (v := nI 1) dX8_yearsItem_27 rfl ?_
      refine R_goto (tgt := 32) dX8_yearsItem_28 (by decide) ?_
      refine R_ireturn dX8_yearsItem_32 rfl rfl ?_
      exact ⟨((cOff.rf.is (by unfold sRd; omega)).is (by unfold sRd; omega)).is (by unfold sRd; omega), Or.inl ⟨3, dYs d z, by rw [itemY_1 (a := 0) hz]; exact if_pos ⟨rfl, hz1, hz2, he⟩, rfl, MD_Y hX hK0 (by rw [qIs_nk (by decide), qIs_nk (by decide), qIs_nk (by decide)]) (by rw [qIs_nk (by decide), qIs_eq]) (by rw [qIs_no (by decide), qIs_no (by decide), qIs_no (by decide)]), by rw [qIs_eq]⟩⟩
    · refine R_if_eqN (tgt := 31) dX8_yearsItem_24 (by decide) (by omega) (fun h_24 => ?_) (fun h_24 => by exact absurd h_24 (by decide))
      refine R_iconst (v := nI 0) dX8_yearsItem_31 rfl ?_
      refine R_ireturn dX8_yearsItem_32 rfl rfl ?_
      exact ⟨((cOff.rf.is (by unfold sRd; omega)).is (by unfold sRd; omega)).is (by unfold sRd; omega), Or.inr ⟨by rw [itemY_1 (a := 0) hz]; exact if_neg (fun q => he q.2.2.2), rfl⟩⟩
  · refine R_putI dX8_yearsItem_8 lf_RX8_71 (by decide) rfl rfl rfl rfl ?_
    refine R_aload_n dX8_yearsItem_11 rfl ?_
    refine R_getI dX8_yearsItem_12 (lf_RX8_71).get (by decide) rfl rfl ?_
    refine R_top (y := -4) (by rw [qIs_eq]) ?_
    refine R_bipush (v := -4) dX8_yearsItem_15 rfl ?_
    refine R_icmp_eq (tgt := 31) dX8_yearsItem_17 (by decide) (fun h_17 => ?_) (fun h_17 => by exact absurd h_17 (by decide))
    refine R_iconst (v := nI 0) dX8_yearsItem_31 rfl ?_
    refine R_ireturn dX8_yearsItem_32 rfl rfl ?_
    exact ⟨cOff.rf.is (by unfold sRd; omega), Or.inr ⟨itemY_n (a := 0) hz, rfl⟩⟩
set_option maxRecDepth 100000 in
set_option maxHeartbeats 4000000 in
theorem m_penItem {M : qMem} {tx : List Nat} (hT : MT M tx) (hB : txB tx) {d : dT} {a : Nat} (hX : MD M d) (hD : dB d) (hal : a < 200) (h15 : M.1 0 15 = nI (a + 1)) : qSem 1 mX8_penaltyItem [.ref 0] M (qitM M a (itemP tx a d)) := by
  refine qSem.of (by decide +kernel) (Nat.le_of_ble_eq_true rfl) (fun w => ?_)
  refine R_ls (L' := [(0, .ref 0)]) (qs1 rfl qs0) ?_
  refine R_aload_n dX8_penaltyItem_0 rfl ?_
  refine R_iconst (v := nI 0) dX8_penaltyItem_1 rfl ?_
  refine R_bipush (v := nI 9) dX8_penaltyItem_2 rfl ?_
  refine R_callV (mc := mX8_sign) (As := [_, _]) (r := 0) dX8_penaltyItem_4 lm_RX8_120 mv_X8_sign rfl (by decide) rfl rfl rfl rfl (Nat.le_of_ble_eq_true rfl) (m_sign hT hB (a := a + 1) (by omega) (by decide) (by decide) h15) ?_
  rintro _ _ (⟨x, hx, hx1, hx2, rfl, rfl⟩ | ⟨hx, rfl, rfl⟩)
  · refine R_istore_n (L' := [(0, .ref 0), (1, .int (nI x))]) dX8_penaltyItem_7 (by decide) (qs1 rfl (qs1 rfl qs0)) ?_
    refine R_iload_n dX8_penaltyItem_8 rfl ?_
    refine R_bipush (v := -4) dX8_penaltyItem_9 rfl ?_
    refine R_icmp_ne (tgt := 19) dX8_penaltyItem_11 (by decide) (fun h_11 => ?_) (fun h_11 => by first | exact absurd h_11 (nI_m4 (by omega)) | exact absurd (Decidable.not_not.mp h_11) (nI_m4 (by omega)))
    refine R_aload_n dX8_penaltyItem_19 rfl ?_
    refine R_iconst (v := nI 0) dX8_penaltyItem_20 rfl ?_
    refine R_bipush (v := nI 9) dX8_penaltyItem_21 rfl ?_
    refine R_callV (mc := mX8_sign) (As := [_, _]) (r := 0) dX8_penaltyItem_23 lm_RX8_120 mv_X8_sign rfl (by decide) rfl rfl rfl rfl (Nat.le_of_ble_eq_true rfl) (m_sign hT.s hB (a := a + 2) (by omega) (by decide) (by decide) (by rw [qIs_eq])) ?_
    rintro _ _ (⟨y, hy, hy1, hy2, rfl, rfl⟩ | ⟨hy, rfl, rfl⟩)
    · refine R_istore_n (L' := [(0, .ref 0), (1, .int (nI x)), (2, .int (nI y))]) dX8_penaltyItem_26 (by decide) (qs1 rfl (qs1 rfl (qs1 rfl qs0))) ?_
      refine R_iload_n dX8_penaltyItem_27 rfl ?_
      refine R_bipush (v := -4) dX8_penaltyItem_28 rfl ?_
      refine R_icmp_ne (tgt := 35) dX8_penaltyItem_30 (by decide) (fun h_30 => ?_) (fun h_30 => by first | exact absurd h_30 (nI_m4 (by omega)) | exact absurd (Decidable.not_not.mp h_30) (nI_m4 (by omega)))
      refine R_aload_n dX8_penaltyItem_35 rfl ?_
      refine R_getR dX8_penaltyItem_36 lg_RX8_28 (by decide) rfl rfl ?_
      refine R_bipush (v := nI 96) dX8_penaltyItem_39 rfl ?_
      refine R_bipush (v := nI 10) dX8_penaltyItem_41 rfl ?_
      refine R_iload_n dX8_penaltyItem_43 rfl ?_
      refine R_imulN dX8_penaltyItem_44 ?_
      refine R_iload_n dX8_penaltyItem_45 rfl ?_
      refine R_iaddN dX8_penaltyItem_46 ?_
      refine R_iastN dX8_penaltyItem_47 (by decide) rfl (by omega) (by decide) ?_
      refine R_aload_n dX8_penaltyItem_48 rfl ?_
      refine R_callV (mc := mX8_ends) (As := []) (r := 0) dX8_penaltyItem_49 lm_RX8_124 mv_X8_ends rfl (by decide) rfl rfl rfl rfl (Nat.le_of_ble_eq_true rfl) (m_ends (hT.s.s.off (by rw [qIs_no (by decide)]) (by rw [qIs_no (by decide)])) hB (a := a + 3) (by omega) (by rw [qIs_no (by decide), qIs_eq])) ?_
      rintro _ _ ⟨rfl, ⟨rfl, he⟩ | ⟨rfl, he⟩⟩
      · refine R_ireturn dX8_penaltyItem_52 rfl rfl ?_
        exact ⟨((((cOff.rf).is (by unfold sRd; omega)).is (by unfold sRd; omega)).is (by unfold sRd; omega)).is (by unfold sRd; omega), Or.inl ⟨4, dPn d (10 * x + y), by rw [itemP_1 hx hy]; exact if_pos ⟨hx2, hy2, he⟩, rfl, MD_P hX hD (fun k hk => by rw [qIs_nk hk, qIs_no (by decide), qIs_nk hk, qIs_nk hk]) (by rw [qIs_no (by decide), qIs_no (by decide), qIs_no (by decide), qIs_no (by decide)]) (by rw [qIs_no (by decide), qIs_no (by decide), qIs_no (by decide), qIs_no (by decide)]) (fun k hk => by rw [qIs_no (by decide), qIs_nk hk, qIs_no (by decide), qIs_no (by decide)]) (by rw [qIs_no (by decide), qIs_eq]), by rw [qIs_eq]⟩⟩
      · refine R_ireturn dX8_penaltyItem_52 rfl rfl ?_
        exact ⟨((((cOff.rf).is (by unfold sRd; omega)).is (by unfold sRd; omega)).is (by unfold sRd; omega)).is (by unfold sRd; omega), Or.inr ⟨by rw [itemP_1 hx hy]; exact if_neg (fun q => he q.2.2), rfl⟩⟩
    · refine R_istore_n (L' := [(0, .ref 0), (1, .int (nI x)), (2, .int (-4))]) dX8_penaltyItem_26 (by decide) (qs1 rfl (qs1 rfl (qs1 rfl qs0))) ?_
      refine R_iload_n dX8_penaltyItem_27 rfl ?_
      refine R_bipush (v := -4) dX8_penaltyItem_28 rfl ?_
      refine R_icmp_ne (tgt := 35) dX8_penaltyItem_30 (by decide) (fun h_30 => by exact absurd h_30 (by decide)) (fun h_30 => ?_)
      refine R_iconst (v := nI 0) dX8_penaltyItem_33 rfl ?_
      refine R_ireturn dX8_penaltyItem_34 rfl rfl ?_
      exact ⟨(cOff.rf).is (by unfold sRd; omega), Or.inr ⟨itemP_n (Or.inr hy), rfl⟩⟩
  · refine R_istore_n (L' := [(0, .ref 0), (1, .int (-4))]) dX8_penaltyItem_7 (by decide) (qs1 rfl (qs1 rfl qs0)) ?_
    refine R_iload_n dX8_penaltyItem_8 rfl ?_
    refine R_bipush (v := -4) dX8_penaltyItem_9 rfl ?_
    refine R_icmp_ne (tgt := 19) dX8_penaltyItem_11 (by decide) (fun h_11 => by exact absurd h_11 (by decide)) (fun h_11 => ?_)
    refine R_bipush (v := -4) dX8_penaltyItem_14 rfl ?_
    refine R_goto (tgt := 26) dX8_penaltyItem_16 (by decide) ?_
    refine R_istore_n (L' := [(0, .ref 0), (1, .int (-4)), (2, .int (-4))]) dX8_penaltyItem_26 (by decide) (qs1 rfl (qs1 rfl (qs1 rfl qs0))) ?_
    refine R_iload_n dX8_penaltyItem_27 rfl ?_
    refine R_bipush (v := -4) dX8_penaltyItem_28 rfl ?_
    refine R_icmp_ne (tgt := 35) dX8_penaltyItem_30 (by decide) (fun h_30 => by exact absurd h_30 (by decide)) (fun h_30 => ?_)
    refine R_iconst (v := nI 0) dX8_penaltyItem_33 rfl ?_
    refine R_ireturn dX8_penaltyItem_34 rfl rfl ?_
    exact ⟨cOff.rf, Or.inr ⟨itemP_n (Or.inl hx), rfl⟩⟩
set_option maxRecDepth 100000 in
set_option maxHeartbeats 4000000 in
theorem m_rulesAre {M : qMem} {x0 x1 x2 x3 : Int32} : qSem 1 mX8_rulesAre [.ref 0, .int (x0), .int (x1), .int (x2), .int (x3)] M (qv (qIs (qIs (qIs (qIs M 7 97 x0) 7 98 x1) 7 99 x2) 7 100 x3)) := by
  refine qSem.of (by decide +kernel) (Nat.le_of_ble_eq_true rfl) (fun w => ?_)
  refine R_ls (L' := [(0, .ref 0), (1, .int (x0)), (2, .int (x1)), (3, .int (x2)), (4, .int (x3))]) (qs1 rfl (qs1 rfl (qs1 rfl (qs1 rfl (qs1 rfl qs0))))) ?_
  refine R_aload_n dX8_rulesAre_0 rfl ?_
  refine R_getR dX8_rulesAre_1 lg_RX8_28 (by decide) rfl rfl ?_
  refine R_bipush (v := nI 97) dX8_rulesAre_4 rfl ?_
  refine R_iload_n dX8_rulesAre_6 rfl ?_
  refine R_iastN dX8_rulesAre_7 (by decide) rfl (by omega) (by decide) ?_
  refine R_aload_n dX8_rulesAre_8 rfl ?_
  refine R_getR dX8_rulesAre_9 lg_RX8_28 (by decide) rfl rfl ?_
  refine R_bipush (v := nI 98) dX8_rulesAre_12 rfl ?_
  refine R_iload_n dX8_rulesAre_14 rfl ?_
  refine R_iastN dX8_rulesAre_15 (by decide) rfl (by omega) (by decide) ?_
  refine R_aload_n dX8_rulesAre_16 rfl ?_
  refine R_getR dX8_rulesAre_17 lg_RX8_28 (by decide) rfl rfl ?_
  refine R_bipush (v := nI 99) dX8_rulesAre_20 rfl ?_
  refine R_iload_n dX8_rulesAre_22 rfl ?_
  refine R_iastN dX8_rulesAre_23 (by decide) rfl (by omega) (by decide) ?_
  refine R_aload_n dX8_rulesAre_24 rfl ?_
  refine R_getR dX8_rulesAre_25 lg_RX8_28 (by decide) rfl rfl ?_
  refine R_bipush (v := nI 100) dX8_rulesAre_28 rfl ?_
  refine R_iload dX8_rulesAre_30 rfl ?_
  refine R_iastN dX8_rulesAre_32 (by decide) rfl (by omega) (by decide) ?_
  refine R_return dX8_rulesAre_33 rfl ?_
  exact ⟨rfl, rfl⟩
set_option maxRecDepth 100000 in
set_option maxHeartbeats 4000000 in
theorem m_rulItem {M : qMem} {tx : List Nat} (hT : MT M tx) (hB : txB tx) {d : dT} {a : Nat} (hX : MD M d) (hD : dB d) (hal : a < 200) (h15 : M.1 0 15 = nI (a + 1)) : qSem 1 mX8_rulesItem [.ref 0] M (qitM M a (itemL tx a d)) := by
  have hqt := q_tabs
  refine qSem.of (by decide +kernel) (Nat.le_of_ble_eq_true rfl) (fun w => ?_)
  refine R_ls (L' := [(0, .ref 0)]) (qs1 rfl qs0) ?_
  refine R_aload_n dX8_rulesItem_0 rfl ?_
  refine R_iconst (v := nI 1) dX8_rulesItem_1 rfl ?_
  refine R_iconst (v := nI 4) dX8_rulesItem_2 rfl ?_
  refine R_callV (mc := mX8_sign) (As := [_, _]) (r := 0) dX8_rulesItem_3 lm_RX8_120 mv_X8_sign rfl (by decide) rfl rfl rfl rfl (Nat.le_of_ble_eq_true rfl) (m_sign hT hB (a := a + 1) (by omega) (by decide) (by decide) h15) ?_
  rintro _ _ (⟨r, hr, hr1, hr2, rfl, rfl⟩ | ⟨hr, rfl, rfl⟩)
  · refine R_istore_n (L' := [(0, .ref 0), (1, .int (nI r))]) dX8_rulesItem_6 (by decide) (qs1 rfl (qs1 rfl qs0)) ?_
    refine R_iload_n dX8_rulesItem_7 rfl ?_
    refine R_bipush (v := -4) dX8_rulesItem_8 rfl ?_
    refine R_icmp_ne (tgt := 18) dX8_rulesItem_10 (by decide) (fun h_10 => ?_) (fun h_10 => by first | exact absurd h_10 (nI_m4 (by omega)) | exact absurd (Decidable.not_not.mp h_10) (nI_m4 (by omega)))
    refine R_aload_n dX8_rulesItem_18 rfl ?_
    refine R_iconst (v := nI 1) dX8_rulesItem_19 rfl ?_
    refine R_iconst (v := nI 5) dX8_rulesItem_20 rfl ?_
    refine R_callV (mc := mX8_sign) (As := [_, _]) (r := 0) dX8_rulesItem_21 lm_RX8_120 mv_X8_sign rfl (by decide) rfl rfl rfl rfl (Nat.le_of_ble_eq_true rfl) (m_sign hT.s hB (a := a + 2) (by omega) (by decide) (by decide) (by rw [qIs_eq])) ?_
    rintro _ _ (⟨n, hn, hn1, hn2, rfl, rfl⟩ | ⟨hn, rfl, rfl⟩)
    · refine R_istore_n (L' := [(0, .ref 0), (1, .int (nI r)), (2, .int (nI n))]) dX8_rulesItem_24 (by decide) (qs1 rfl (qs1 rfl (qs1 rfl qs0))) ?_
      refine R_iload_n dX8_rulesItem_25 rfl ?_
      refine R_bipush (v := -4) dX8_rulesItem_26 rfl ?_
      refine R_icmp_ne (tgt := 36) dX8_rulesItem_28 (by decide) (fun h_28 => ?_) (fun h_28 => by first | exact absurd h_28 (nI_m4 (by omega)) | exact absurd (Decidable.not_not.mp h_28) (nI_m4 (by omega)))
      refine R_aload_n dX8_rulesItem_36 rfl ?_
      refine R_iconst (v := nI 1) dX8_rulesItem_37 rfl ?_
      refine R_iconst (v := nI 5) dX8_rulesItem_38 rfl ?_
      refine R_callV (mc := mX8_sign) (As := [_, _]) (r := 0) dX8_rulesItem_39 lm_RX8_120 mv_X8_sign rfl (by decide) rfl rfl rfl rfl (Nat.le_of_ble_eq_true rfl) (m_sign hT.s.s hB (a := a + 3) (by omega) (by decide) (by decide) (by rw [qIs_eq])) ?_
      rintro _ _ (⟨t, ht, ht1, ht2, rfl, rfl⟩ | ⟨ht, rfl, rfl⟩)
      · refine R_istore_n (L' := [(0, .ref 0), (1, .int (nI r)), (2, .int (nI n)), (3, .int (nI t))]) dX8_rulesItem_42 (by decide) (qs1 rfl (qs1 rfl (qs1 rfl (qs1 rfl qs0)))) ?_
        refine R_iload_n dX8_rulesItem_43 rfl ?_
        refine R_bipush (v := -4) dX8_rulesItem_44 rfl ?_
        refine R_icmp_ne (tgt := 54) dX8_rulesItem_46 (by decide) (fun h_46 => ?_) (fun h_46 => by first | exact absurd h_46 (nI_m4 (by omega)) | exact absurd (Decidable.not_not.mp h_46) (nI_m4 (by omega)))
        refine R_aload_n dX8_rulesItem_54 rfl ?_
        refine R_iconst (v := nI 0) dX8_rulesItem_55 rfl ?_
        refine R_iconst (v := nI 2) dX8_rulesItem_56 rfl ?_
        refine R_callV (mc := mX8_sign) (As := [_, _]) (r := 0) dX8_rulesItem_57 lm_RX8_120 mv_X8_sign rfl (by decide) rfl rfl rfl rfl (Nat.le_of_ble_eq_true rfl) (m_sign hT.s.s.s hB (a := a + 4) (by omega) (by decide) (by decide) (by rw [qIs_eq])) ?_
        rintro _ _ (⟨w_, hw_, hw_1, hw_2, rfl, rfl⟩ | ⟨hw_, rfl, rfl⟩)
        · refine R_istore (L' := [(0, .ref 0), (1, .int (nI r)), (2, .int (nI n)), (3, .int (nI t)), (4, .int (nI w_))]) dX8_rulesItem_60 (by decide) (qs1 rfl (qs1 rfl (qs1 rfl (qs1 rfl (qs1 rfl qs0))))) ?_
          refine R_iload dX8_rulesItem_62 rfl ?_
          refine R_bipush (v := -4) dX8_rulesItem_64 rfl ?_
          refine R_icmp_ne (tgt := 71) dX8_rulesItem_66 (by decide) (fun h_66 => ?_) (fun h_66 => by first | exact absurd h_66 (nI_m4 (by omega)) | exact absurd (Decidable.not_not.mp h_66) (nI_m4 (by omega)))
          refine R_aload_n dX8_rulesItem_71 rfl ?_
          refine R_iload_n dX8_rulesItem_72 rfl ?_
          refine R_iload_n dX8_rulesItem_73 rfl ?_
          refine R_iload_n dX8_rulesItem_74 rfl ?_
          refine R_iload dX8_rulesItem_75 rfl ?_
          refine R_callV (mc := mX8_rulesAre) (As := [_, _, _, _]) (r := 0) dX8_rulesItem_77 lm_RX8_84 mv_X8_rulesAre rfl (by decide) rfl rfl rfl rfl (Nat.le_of_ble_eq_true rfl) m_rulesAre ?_
          rintro _ _ ⟨rfl, rfl⟩
          refine R_aload_n dX8_rulesItem_80 rfl ?_
          refine R_callV (mc := mX8_ends) (As := []) (r := 0) dX8_rulesItem_81 lm_RX8_124 mv_X8_ends rfl (by decide) rfl rfl rfl rfl (Nat.le_of_ble_eq_true rfl) (m_ends (hT.s.s.s.s.off (by rw [qIs_no (by decide), qIs_no (by decide), qIs_no (by decide), qIs_no (by decide)]) (by rw [qIs_no (by decide), qIs_no (by decide), qIs_no (by decide), qIs_no (by decide)])) hB (a := a + 5) (by omega) (by rw [qIs_no (by decide), qIs_no (by decide), qIs_no (by decide), qIs_no (by decide), qIs_eq])) ?_
          rintro _ _ ⟨rfl, ⟨rfl, he⟩ | ⟨rfl, he⟩⟩
          · refine R_ireturn dX8_rulesItem_84 rfl rfl ?_
            have hro : rulOk tx a 4 = true := rulOk_s (n := 3) (rulOk_s (n := 2) (rulOk_s (n := 1) (rulOk_s (n := 0) rfl hr (by omega) (by omega)) hn (by omega) (by omega)) ht (by omega) (by omega)) hw_ (by omega) (by omega)
            refine ⟨(((((((((cOff.rf).is (by unfold sRd; omega)).is (by unfold sRd; omega)).is (by unfold sRd; omega)).is (by unfold sRd; omega)).is (by unfold sRd; omega)).is (by unfold sRd; omega)).is (by unfold sRd; omega)).is (by unfold sRd; omega)).is (by unfold sRd; omega), Or.inl ⟨6, dRl d tx a, by unfold itemL; exact if_pos ⟨he, hro⟩, rfl, MD_L hX hD (fun k hk => ?_) ?_ ?_ (fun k hk => ?_) (fun k hk => ?_), by rw [qIs_eq]⟩⟩
            · rw [qIs_nk hk, qIs_no (by decide), qIs_no (by decide), qIs_no (by decide), qIs_no (by decide), qIs_nk hk, qIs_nk hk, qIs_nk hk, qIs_nk hk]
            · rw [qIs_no (by decide), qIs_no (by decide), qIs_no (by decide), qIs_no (by decide), qIs_no (by decide), qIs_no (by decide), qIs_no (by decide), qIs_no (by decide), qIs_no (by decide)]
            · rw [qIs_no (by decide), qIs_no (by decide), qIs_no (by decide), qIs_no (by decide), qIs_no (by decide), qIs_no (by decide), qIs_no (by decide), qIs_no (by decide), qIs_no (by decide)]
            · rw [qIs_no (by decide), qIs_nk (by omega), qIs_nk (by omega), qIs_nk (by omega), qIs_nk (by omega), qIs_no (by decide), qIs_no (by decide), qIs_no (by decide), qIs_no (by decide)]
            · have hk4 : k = 0 ∨ k = 1 ∨ k = 2 ∨ k = 3 := by omega
              rw [qIs_no (by decide)]
              rcases hk4 with rfl | rfl | rfl | rfl
              · exact ⟨r, hr, by first | rw [qIs_nk (by decide), qIs_nk (by decide), qIs_nk (by decide), qIs_eq] | simp [qIs_1]⟩
              · exact ⟨n, hn, by first | rw [qIs_nk (by decide), qIs_nk (by decide), qIs_eq] | simp [qIs_1]⟩
              · exact ⟨t, ht, by first | rw [qIs_nk (by decide), qIs_eq] | simp [qIs_1]⟩
              · exact ⟨w_, hw_, by first | rw [qIs_eq] | simp [qIs_1]⟩
          · refine R_ireturn dX8_rulesItem_84 rfl rfl ?_
            exact ⟨(((((((((cOff.rf).is (by unfold sRd; omega)).is (by unfold sRd; omega)).is (by unfold sRd; omega)).is (by unfold sRd; omega)).is (by unfold sRd; omega)).is (by unfold sRd; omega)).is (by unfold sRd; omega)).is (by unfold sRd; omega)).is (by unfold sRd; omega), Or.inr ⟨by unfold itemL; exact if_neg (fun q => he q.1), rfl⟩⟩
        · refine R_istore (L' := [(0, .ref 0), (1, .int (nI r)), (2, .int (nI n)), (3, .int (nI t)), (4, .int (-4))]) dX8_rulesItem_60 (by decide) (qs1 rfl (qs1 rfl (qs1 rfl (qs1 rfl (qs1 rfl qs0))))) ?_
          refine R_iload dX8_rulesItem_62 rfl ?_
          refine R_bipush (v := -4) dX8_rulesItem_64 rfl ?_
          refine R_icmp_ne (tgt := 71) dX8_rulesItem_66 (by decide) (fun h_66 => by exact absurd h_66 (by decide)) (fun h_66 => ?_)
          refine R_iconst (v := nI 0) dX8_rulesItem_69 rfl ?_
          refine R_ireturn dX8_rulesItem_70 rfl rfl ?_
          exact ⟨(((cOff.rf).is (by unfold sRd; omega)).is (by unfold sRd; omega)).is (by unfold sRd; omega), Or.inr ⟨itemL_n (k := 3) (by decide) (by intro q hq hw; exact hw_ q hq (by omega)), rfl⟩⟩
      · refine R_istore_n (L' := [(0, .ref 0), (1, .int (nI r)), (2, .int (nI n)), (3, .int (-4))]) dX8_rulesItem_42 (by decide) (qs1 rfl (qs1 rfl (qs1 rfl (qs1 rfl qs0)))) ?_
        refine R_iload_n dX8_rulesItem_43 rfl ?_
        refine R_bipush (v := -4) dX8_rulesItem_44 rfl ?_
        refine R_icmp_ne (tgt := 54) dX8_rulesItem_46 (by decide) (fun h_46 => by exact absurd h_46 (by decide)) (fun h_46 => ?_)
        refine R_bipush (v := -4) dX8_rulesItem_49 rfl ?_
        refine R_goto (tgt := 60) dX8_rulesItem_51 (by decide) ?_
        refine R_istore (L' := [(0, .ref 0), (1, .int (nI r)), (2, .int (nI n)), (3, .int (-4)), (4, .int (-4))]) dX8_rulesItem_60 (by decide) (qs1 rfl (qs1 rfl (qs1 rfl (qs1 rfl (qs1 rfl qs0))))) ?_
        refine R_iload dX8_rulesItem_62 rfl ?_
        refine R_bipush (v := -4) dX8_rulesItem_64 rfl ?_
        refine R_icmp_ne (tgt := 71) dX8_rulesItem_66 (by decide) (fun h_66 => by exact absurd h_66 (by decide)) (fun h_66 => ?_)
        refine R_iconst (v := nI 0) dX8_rulesItem_69 rfl ?_
        refine R_ireturn dX8_rulesItem_70 rfl rfl ?_
        exact ⟨((cOff.rf).is (by unfold sRd; omega)).is (by unfold sRd; omega), Or.inr ⟨itemL_n (k := 2) (by decide) (by intro q hq hw; exact ht q hq (by omega)), rfl⟩⟩
    · refine R_istore_n (L' := [(0, .ref 0), (1, .int (nI r)), (2, .int (-4))]) dX8_rulesItem_24 (by decide) (qs1 rfl (qs1 rfl (qs1 rfl qs0))) ?_
      refine R_iload_n dX8_rulesItem_25 rfl ?_
      refine R_bipush (v := -4) dX8_rulesItem_26 rfl ?_
      refine R_icmp_ne (tgt := 36) dX8_rulesItem_28 (by decide) (fun h_28 => by exact absurd h_28 (by decide)) (fun h_28 => ?_)
      refine R_bipush (v := -4) dX8_rulesItem_31 rfl ?_
      refine R_goto (tgt := 42) dX8_rulesItem_33 (by decide) ?_
      refine R_istore_n (L' := [(0, .ref 0), (1, .int (nI r)), (2, .int (-4)), (3, .int (-4))]) dX8_rulesItem_42 (by decide) (qs1 rfl (qs1 rfl (qs1 rfl (qs1 rfl qs0)))) ?_
      refine R_iload_n dX8_rulesItem_43 rfl ?_
      refine R_bipush (v := -4) dX8_rulesItem_44 rfl ?_
      refine R_icmp_ne (tgt := 54) dX8_rulesItem_46 (by decide) (fun h_46 => by exact absurd h_46 (by decide)) (fun h_46 => ?_)
      refine R_bipush (v := -4) dX8_rulesItem_49 rfl ?_
      refine R_goto (tgt := 60) dX8_rulesItem_51 (by decide) ?_
      refine R_istore (L' := [(0, .ref 0), (1, .int (nI r)), (2, .int (-4)), (3, .int (-4)), (4, .int (-4))]) dX8_rulesItem_60 (by decide) (qs1 rfl (qs1 rfl (qs1 rfl (qs1 rfl (qs1 rfl qs0))))) ?_
      refine R_iload dX8_rulesItem_62 rfl ?_
      refine R_bipush (v := -4) dX8_rulesItem_64 rfl ?_
      refine R_icmp_ne (tgt := 71) dX8_rulesItem_66 (by decide) (fun h_66 => by exact absurd h_66 (by decide)) (fun h_66 => ?_)
      refine R_iconst (v := nI 0) dX8_rulesItem_69 rfl ?_
      refine R_ireturn dX8_rulesItem_70 rfl rfl ?_
      exact ⟨(cOff.rf).is (by unfold sRd; omega), Or.inr ⟨itemL_n (k := 1) (by decide) (by intro q hq hw; exact hn q hq (by omega)), rfl⟩⟩
  · refine R_istore_n (L' := [(0, .ref 0), (1, .int (-4))]) dX8_rulesItem_6 (by decide) (qs1 rfl (qs1 rfl qs0)) ?_
    refine R_iload_n dX8_rulesItem_7 rfl ?_
    refine R_bipush (v := -4) dX8_rulesItem_8 rfl ?_
    refine R_icmp_ne (tgt := 18) dX8_rulesItem_10 (by decide) (fun h_10 => by exact absurd h_10 (by decide)) (fun h_10 => ?_)
    refine R_bipush (v := -4) dX8_rulesItem_13 rfl ?_
    refine R_goto (tgt := 24) dX8_rulesItem_15 (by decide) ?_
    refine R_istore_n (L' := [(0, .ref 0), (1, .int (-4)), (2, .int (-4))]) dX8_rulesItem_24 (by decide) (qs1 rfl (qs1 rfl (qs1 rfl qs0))) ?_
    refine R_iload_n dX8_rulesItem_25 rfl ?_
    refine R_bipush (v := -4) dX8_rulesItem_26 rfl ?_
    refine R_icmp_ne (tgt := 36) dX8_rulesItem_28 (by decide) (fun h_28 => by exact absurd h_28 (by decide)) (fun h_28 => ?_)
    refine R_bipush (v := -4) dX8_rulesItem_31 rfl ?_
    refine R_goto (tgt := 42) dX8_rulesItem_33 (by decide) ?_
    refine R_istore_n (L' := [(0, .ref 0), (1, .int (-4)), (2, .int (-4)), (3, .int (-4))]) dX8_rulesItem_42 (by decide) (qs1 rfl (qs1 rfl (qs1 rfl (qs1 rfl qs0)))) ?_
    refine R_iload_n dX8_rulesItem_43 rfl ?_
    refine R_bipush (v := -4) dX8_rulesItem_44 rfl ?_
    refine R_icmp_ne (tgt := 54) dX8_rulesItem_46 (by decide) (fun h_46 => by exact absurd h_46 (by decide)) (fun h_46 => ?_)
    refine R_bipush (v := -4) dX8_rulesItem_49 rfl ?_
    refine R_goto (tgt := 60) dX8_rulesItem_51 (by decide) ?_
    refine R_istore (L' := [(0, .ref 0), (1, .int (-4)), (2, .int (-4)), (3, .int (-4)), (4, .int (-4))]) dX8_rulesItem_60 (by decide) (qs1 rfl (qs1 rfl (qs1 rfl (qs1 rfl (qs1 rfl qs0))))) ?_
    refine R_iload dX8_rulesItem_62 rfl ?_
    refine R_bipush (v := -4) dX8_rulesItem_64 rfl ?_
    refine R_icmp_ne (tgt := 71) dX8_rulesItem_66 (by decide) (fun h_66 => by exact absurd h_66 (by decide)) (fun h_66 => ?_)
    refine R_iconst (v := nI 0) dX8_rulesItem_69 rfl ?_
    refine R_ireturn dX8_rulesItem_70 rfl rfl ?_
    exact ⟨cOff.rf, Or.inr ⟨itemL_n (k := 0) (by decide) (by intro q hq hw; exact hr q hq (by omega)), rfl⟩⟩
set_option maxRecDepth 100000 in
set_option maxHeartbeats 4000000 in
theorem m_stIs {M : qMem} {k : Nat} {x y : Int32} (hk : k < 6) (h7 : M.1 0 7 = nI k) : qSem 1 mX8_stationIs [.ref 0, .int (x), .int (y)] M (qv (qIs (qIs (qIs M 5 k x) 6 k y) 0 7 (nI (k + 1)))) := by
  refine qSem.of (by decide +kernel) (Nat.le_of_ble_eq_true rfl) (fun w => ?_)
  refine R_ls (L' := [(0, .ref 0), (1, .int (x)), (2, .int (y))]) (qs1 rfl (qs1 rfl (qs1 rfl qs0))) ?_
  refine R_aload_n dX8_stationIs_0 rfl ?_
  refine R_getR dX8_stationIs_1 lg_RX8_22 (by decide) rfl rfl ?_
  refine R_aload_n dX8_stationIs_4 rfl ?_
  refine R_getI dX8_stationIs_5 (lf_RX8_91).get (by decide) rfl rfl ?_
  refine R_top (y := nI k) h7 ?_
  refine R_iload_n dX8_stationIs_8 rfl ?_
  refine R_iastN dX8_stationIs_9 (by decide) rfl (by omega) (by decide) ?_
  refine R_aload_n dX8_stationIs_10 rfl ?_
  refine R_getR dX8_stationIs_11 lg_RX8_25 (by decide) rfl rfl ?_
  refine R_aload_n dX8_stationIs_14 rfl ?_
  refine R_getI dX8_stationIs_15 (lf_RX8_91).get (by decide) rfl rfl ?_
  refine R_top (y := nI k) (by rw [qIs_no (by decide)]; exact h7) ?_
  refine R_iload_n dX8_stationIs_18 rfl ?_
  refine R_iastN dX8_stationIs_19 (by decide) rfl (by omega) (by decide) ?_
  refine R_aload_n dX8_stationIs_20 rfl ?_
  refine R_dup dX8_stationIs_21 rfl ?_
  refine R_getI dX8_stationIs_22 (lf_RX8_91).get (by decide) rfl rfl ?_
  refine R_top (y := nI k) (by rw [qIs_no (by decide), qIs_no (by decide)]; exact h7) ?_
  refine R_iconst (v := nI 1) dX8_stationIs_25 rfl ?_
  refine R_iaddN dX8_stationIs_26 ?_
  refine R_putI dX8_stationIs_27 lf_RX8_91 (by decide) rfl rfl rfl rfl ?_
  refine R_return dX8_stationIs_30 rfl ?_
  exact ⟨rfl, rfl⟩
set_option maxRecDepth 100000 in
set_option maxHeartbeats 4000000 in
theorem m_stL {w : qWT} {M : qMem} {tx : List Nat} (hT : MT M tx) (hB : txB tx) {d : dT} {a : Nat} (hX : MD M d) (hD : dB d) (hal : a < 200) (h15 : M.1 0 15 = nI (a + 1)) {x y : Nat} (hx : sgn tx (a + 1) = some x) (hy : sgn tx (a + 2) = some y) (hK : dK d < 6) : ∀ (fu : Nat) (k : Nat) (K : qMem), (17 - k) < fu → (k ≤ dY d) → (SI M K d tx a k) → (valsOk tx (a + 3) k = true) → qRW 1 w mX8_stationItem 52 [(0, .ref 0), (3, .int (nI k))] [] K (qitM M a (itemS tx a d)) := by
  intro fu
  induction fu with
  | zero => intro k K hn; exact absurd hn (Nat.not_lt_zero _)
  | succ fu ih =>
    intro k K hn hk hI hv
    have hY16 := hD.1
    have hlen := hB.1
    have hlk : lt tx (a + 3 + k) ≤ 126 := by rcases Nat.lt_or_ge (a + 3 + k) tx.length with z | z; exact (hB.2 _ z).2; rw [lt_out z]; omega
    refine R_iload_n dX8_stationItem_52 rfl ?_
    refine R_aload_n dX8_stationItem_53 rfl ?_
    refine R_getI dX8_stationItem_54 (lf_RX8_71).get (by decide) rfl rfl ?_
    refine R_top (y := nI (dY d)) hI.2.2.1 ?_
    refine R_icmp_geN (tgt := 132) dX8_stationItem_57 (by decide) (by omega) (by omega) (fun h_57 => ?_) (fun h_57 => ?_)
    · have e : k = dY d := by omega
      subst e
      refine R_aload_n dX8_stationItem_132 rfl ?_
      refine R_callV (mc := mX8_ends) (As := []) (r := 0) dX8_stationItem_133 lm_RX8_124 mv_X8_ends rfl (by decide) rfl rfl rfl rfl (Nat.le_of_ble_eq_true rfl) (m_ends (hT.rd hI.1) hB (a := a + 3 + dY d) (by omega) hI.2.2.2.2.2.2.2.2.2.2) ?_
      rintro _ _ ⟨rfl, ⟨rfl, he⟩ | ⟨rfl, he⟩⟩
      · refine R_ireturn dX8_stationItem_136 rfl rfl ?_
        exact ⟨hI.1.is (by unfold sRd; omega), Or.inl ⟨dY d + 4, dSt d tx a, by unfold itemS; exact if_pos ⟨by rw [hx]; rfl, by rw [hy]; rfl, he, hv, hK⟩, rfl, SI_end hI, by rw [qIs_eq, show a + 3 + dY d + 1 = a + (dY d + 4) by omega]⟩⟩
      · refine R_ireturn dX8_stationItem_136 rfl rfl ?_
        exact ⟨hI.1.is (by unfold sRd; omega), Or.inr ⟨by unfold itemS; exact if_neg (fun q => he q.2.2.1), rfl⟩⟩
    · refine R_ldc (v := nI 99999) dX8_stationItem_60 lc_RX8_83 ?_
      refine R_top (y := 99999) rfl ?_
      refine R_istore (L' := [(0, .ref 0), (3, .int (nI k)), (4, .int (99999))]) dX8_stationItem_62 (by decide) (qs1 rfl (qs1 rfl (qs1 rfl qs0))) ?_
      refine R_aload_n dX8_stationItem_64 rfl ?_
      refine R_aload_n dX8_stationItem_65 rfl ?_
      refine R_getI dX8_stationItem_66 (lf_RX8_105).get (by decide) rfl rfl ?_
      refine R_top (y := nI (a + 3 + k)) hI.2.2.2.2.2.2.2.2.2.2 ?_
      refine R_callV (mc := mX8_letterAt) (As := [_]) (r := 0) dX8_stationItem_69 lm_RX8_108 mv_X8_letterAt rfl (by decide) rfl rfl rfl rfl (Nat.le_of_ble_eq_true rfl) (m_let (hT.rd hI.1) hB (by omega)) ?_
      rintro _ _ ⟨rfl, rfl⟩
      refine R_bipush (v := nI 46) dX8_stationItem_72 rfl ?_
      refine R_icmp_neN (tgt := 90) dX8_stationItem_74 (by decide) (by omega) (by omega) (fun h_74 => ?_) (fun h_74 => ?_)
      · refine R_aload_n dX8_stationItem_90 rfl ?_
        refine R_iconst (v := nI 0) dX8_stationItem_91 rfl ?_
        refine R_bipush (v := nI 28) dX8_stationItem_92 rfl ?_
        refine R_callV (mc := mX8_sign) (As := [_, _]) (r := 0) dX8_stationItem_94 lm_RX8_120 mv_X8_sign rfl (by decide) rfl rfl rfl rfl (Nat.le_of_ble_eq_true rfl) (m_sign (hT.rd hI.1) hB (a := a + 3 + k) (by omega) (by decide) (by decide) hI.2.2.2.2.2.2.2.2.2.2) ?_
        rintro _ _ (⟨z, hz, hz1, hz2, rfl, rfl⟩ | ⟨hz, rfl, rfl⟩)
        · refine R_istore (L' := [(0, .ref 0), (3, .int (nI k)), (4, .int (nI z))]) dX8_stationItem_97 (by decide) (qs1 rfl (qs1 rfl (qs1 rfl qs0))) ?_
          refine R_iload dX8_stationItem_99 rfl ?_
          refine R_bipush (v := -4) dX8_stationItem_101 rfl ?_
          refine R_icmp_ne (tgt := 108) dX8_stationItem_103 (by decide) (fun h_103 => ?_) (fun h_103 => by first | exact absurd h_103 (nI_m4 (by omega)) | exact absurd (Decidable.not_not.mp h_103) (nI_m4 (by omega)))
          refine R_aload_n dX8_stationItem_108 rfl ?_
          refine R_getR dX8_stationItem_109 lg_RX8_28 (by decide) rfl rfl ?_
          refine R_bipush (v := nI 16) dX8_stationItem_112 rfl ?_
          refine R_aload_n dX8_stationItem_114 rfl ?_
          refine R_getI dX8_stationItem_115 (lf_RX8_91).get (by decide) rfl rfl ?_
          refine R_top (y := nI (dK d + 1)) (by rw [qIs_nk (by decide)]; exact hI.2.1) ?_
          refine R_iconst (v := nI 1) dX8_stationItem_118 rfl ?_
          refine R_isubN dX8_stationItem_119 (by omega) ?_
          refine R_top (y := nI (dK d)) (by rw [Nat.add_sub_cancel]) ?_
          refine R_imulN dX8_stationItem_120 ?_
          refine R_iload_n dX8_stationItem_121 rfl ?_
          refine R_iaddN dX8_stationItem_122 ?_
          refine R_iload dX8_stationItem_123 rfl ?_
          refine R_iastN dX8_stationItem_125 (by decide) rfl (by omega) (by decide) ?_
          refine R_iincN (n := 1) (L' := [(0, .ref 0), (3, .int (nI (k + 1))), (4, .int (nI z))]) dX8_stationItem_126 rfl (by decide) (qs1 rfl (qs1 rfl (qs1 rfl qs0))) ?_
          refine R_goto (tgt := 52) dX8_stationItem_129 (by decide) ?_
          refine R_ls (L' := [(0, .ref 0), (3, .int (nI (k + 1)))]) (qs1 rfl (qs1 rfl qs0)) ?_
          exact (ih (k + 1) _ (by omega) (by omega) (SI_put hI hD (by omega) hK (by rw [hz]; rfl) rfl) (valsOk_s hv (Or.inl (by rw [hz]; rfl))))
        · refine R_istore (L' := [(0, .ref 0), (3, .int (nI k)), (4, .int (-4))]) dX8_stationItem_97 (by decide) (qs1 rfl (qs1 rfl (qs1 rfl qs0))) ?_
          refine R_iload dX8_stationItem_99 rfl ?_
          refine R_bipush (v := -4) dX8_stationItem_101 rfl ?_
          refine R_icmp_ne (tgt := 108) dX8_stationItem_103 (by decide) (fun h_103 => by exact absurd h_103 (by decide)) (fun h_103 => ?_)
          refine R_iconst (v := nI 0) dX8_stationItem_106 rfl ?_
          refine R_ireturn dX8_stationItem_107 rfl rfl ?_
          exact ⟨hI.1, Or.inr ⟨by unfold itemS; exact if_neg (fun q => by rcases valsOk_at q.2.2.2.1 k (by omega) with w | w; obtain ⟨v, ev⟩ := Option.isSome_iff_exists.mp w; exact hz v ev ⟨Nat.zero_le _, sgn_le ev⟩; exact h_74 w), rfl⟩⟩
      · refine R_aload_n dX8_stationItem_77 rfl ?_
        refine R_dup dX8_stationItem_78 rfl ?_
        refine R_getI dX8_stationItem_79 (lf_RX8_105).get (by decide) rfl rfl ?_
        refine R_top (y := nI (a + 3 + k)) hI.2.2.2.2.2.2.2.2.2.2 ?_
        refine R_iconst (v := nI 1) dX8_stationItem_82 rfl ?_
        refine R_iaddN dX8_stationItem_83 ?_
        refine R_putI dX8_stationItem_84 lf_RX8_105 (by decide) rfl rfl rfl rfl ?_
        refine R_goto (tgt := 99) dX8_stationItem_87 (by decide) ?_
        refine R_iload dX8_stationItem_99 rfl ?_
        refine R_bipush (v := -4) dX8_stationItem_101 rfl ?_
        refine R_icmp_ne (tgt := 108) dX8_stationItem_103 (by decide) (fun h_103 => ?_) (fun h_103 => by exact absurd h_103 (by decide))
        refine R_aload_n dX8_stationItem_108 rfl ?_
        refine R_getR dX8_stationItem_109 lg_RX8_28 (by decide) rfl rfl ?_
        refine R_bipush (v := nI 16) dX8_stationItem_112 rfl ?_
        refine R_aload_n dX8_stationItem_114 rfl ?_
        refine R_getI dX8_stationItem_115 (lf_RX8_91).get (by decide) rfl rfl ?_
        refine R_top (y := nI (dK d + 1)) (by rw [qIs_nk (by decide)]; exact hI.2.1) ?_
        refine R_iconst (v := nI 1) dX8_stationItem_118 rfl ?_
        refine R_isubN dX8_stationItem_119 (by omega) ?_
        refine R_top (y := nI (dK d)) (by rw [Nat.add_sub_cancel]) ?_
        refine R_imulN dX8_stationItem_120 ?_
        refine R_iload_n dX8_stationItem_121 rfl ?_
        refine R_iaddN dX8_stationItem_122 ?_
        refine R_iload dX8_stationItem_123 rfl ?_
        refine R_iastN dX8_stationItem_125 (by decide) rfl (by omega) (by decide) ?_
        refine R_iincN (n := 1) (L' := [(0, .ref 0), (3, .int (nI (k + 1))), (4, .int (99999))]) dX8_stationItem_126 rfl (by decide) (qs1 rfl (qs1 rfl (qs1 rfl qs0))) ?_
        refine R_goto (tgt := 52) dX8_stationItem_129 (by decide) ?_
        refine R_ls (L' := [(0, .ref 0), (3, .int (nI (k + 1)))]) (qs1 rfl (qs1 rfl qs0)) ?_
        exact (ih (k + 1) _ (by omega) (by omega) (SI_put hI hD (by omega) hK (by rw [sgn_dot h_74]; rfl) rfl) (valsOk_s hv (Or.inr h_74)))
set_option maxRecDepth 100000 in
set_option maxHeartbeats 4000000 in
theorem m_stItem {M : qMem} {tx : List Nat} (hT : MT M tx) (hB : txB tx) {d : dT} {a : Nat} (hX : MD M d) (hD : dB d) (hal : a < 200) (h15 : M.1 0 15 = nI (a + 1)) : qSem 1 mX8_stationItem [.ref 0] M (qitM M a (itemS tx a d)) := by
  have hY16 := hD.1
  have hlen := hB.1
  have hK6 := hD.2.1
  refine qSem.of (by decide +kernel) (Nat.le_of_ble_eq_true rfl) (fun w => ?_)
  refine R_ls (L' := [(0, .ref 0)]) (qs1 rfl qs0) ?_
  refine R_aload_n dX8_stationItem_0 rfl ?_
  refine R_iconst (v := nI 0) dX8_stationItem_1 rfl ?_
  refine R_bipush (v := nI 28) dX8_stationItem_2 rfl ?_
  refine R_callV (mc := mX8_sign) (As := [_, _]) (r := 0) dX8_stationItem_4 lm_RX8_120 mv_X8_sign rfl (by decide) rfl rfl rfl rfl (Nat.le_of_ble_eq_true rfl) (m_sign hT hB (a := a + 1) (by omega) (by decide) (by decide) h15) ?_
  rintro _ _ (⟨x, hx, hx1, hx2, rfl, rfl⟩ | ⟨hx, rfl, rfl⟩)
  · refine R_istore_n (L' := [(0, .ref 0), (1, .int (nI x))]) dX8_stationItem_7 (by decide) (qs1 rfl (qs1 rfl qs0)) ?_
    refine R_iload_n dX8_stationItem_8 rfl ?_
    refine R_bipush (v := -4) dX8_stationItem_9 rfl ?_
    refine R_icmp_ne (tgt := 19) dX8_stationItem_11 (by decide) (fun h_11 => ?_) (fun h_11 => by first | exact absurd h_11 (nI_m4 (by omega)) | exact absurd (Decidable.not_not.mp h_11) (nI_m4 (by omega)))
    refine R_aload_n dX8_stationItem_19 rfl ?_
    refine R_iconst (v := nI 0) dX8_stationItem_20 rfl ?_
    refine R_bipush (v := nI 28) dX8_stationItem_21 rfl ?_
    refine R_callV (mc := mX8_sign) (As := [_, _]) (r := 0) dX8_stationItem_23 lm_RX8_120 mv_X8_sign rfl (by decide) rfl rfl rfl rfl (Nat.le_of_ble_eq_true rfl) (m_sign hT.s hB (a := a + 2) (by omega) (by decide) (by decide) (by rw [qIs_eq])) ?_
    rintro _ _ (⟨y, hy, hy1, hy2, rfl, rfl⟩ | ⟨hy, rfl, rfl⟩)
    · refine R_istore_n (L' := [(0, .ref 0), (1, .int (nI x)), (2, .int (nI y))]) dX8_stationItem_26 (by decide) (qs1 rfl (qs1 rfl (qs1 rfl qs0))) ?_
      refine R_iload_n dX8_stationItem_27 rfl ?_
      refine R_bipush (v := -4) dX8_stationItem_28 rfl ?_
      refine R_icmp_eq (tgt := 42) dX8_stationItem_30 (by decide) (fun h_30 => by exact absurd h_30 (nI_m4 (by omega))) (fun h_30 => ?_)
      refine R_aload_n dX8_stationItem_33 rfl ?_
      refine R_getI dX8_stationItem_34 (lf_RX8_91).get (by decide) rfl rfl ?_
      refine R_top (y := nI (dK d)) (by rw [qIs_nk (by decide), qIs_nk (by decide)]; exact hX.1) ?_
      refine R_bipush (v := nI 6) dX8_stationItem_37 rfl ?_
      refine R_icmp_neN (tgt := 44) dX8_stationItem_39 (by decide) (by omega) (by omega) (fun h_39 => ?_) (fun h_39 => ?_)
      · refine R_aload_n dX8_stationItem_44 rfl ?_
        refine R_iload_n dX8_stationItem_45 rfl ?_
        refine R_iload_n dX8_stationItem_46 rfl ?_
        refine R_callV (mc := mX8_stationIs) (As := [_, _]) (r := 0) dX8_stationItem_47 lm_RX8_75 mv_X8_stationIs rfl (by decide) rfl rfl rfl rfl (Nat.le_of_ble_eq_true rfl) (m_stIs (k := dK d) (by omega) (by rw [qIs_nk (by decide), qIs_nk (by decide)]; exact hX.1)) ?_
        rintro _ _ ⟨rfl, rfl⟩
        refine R_iconst (v := nI 0) dX8_stationItem_50 rfl ?_
        refine R_istore_n (L' := [(0, .ref 0), (1, .int (nI x)), (2, .int (nI y)), (3, .int (nI 0))]) dX8_stationItem_51 (by decide) (qs1 rfl (qs1 rfl (qs1 rfl (qs1 rfl qs0)))) ?_
        refine R_ls (L' := [(0, .ref 0), (3, .int (nI 0))]) (qs1 rfl (qs1 rfl qs0)) ?_
        exact (m_stL hT hB hX hD hal h15 hx hy (by omega) 18 0 _ (by omega) (Nat.zero_le _) (SI_0 hX hx hy (by rw [qIs_eq]) (by rw [qIs_no (by decide), qIs_no (by decide), qIs_u, qIs_no (by decide), qIs_no (by decide)]) (by rw [qIs_no (by decide), qIs_u, qIs_no (by decide), qIs_no (by decide), qIs_no (by decide)]) (fun k h7 h15 => by rw [qIs_nk h7, qIs_no (by decide), qIs_no (by decide), qIs_nk h15, qIs_nk h15]) (fun o h0 h5 h6 => by rw [qIs_no h0, qIs_no h6, qIs_no h5, qIs_no h0, qIs_no h0]) rfl (by rw [qIs_nk (by decide), qIs_no (by decide), qIs_no (by decide), qIs_eq])) rfl)
      · refine R_iconst (v := nI 0) dX8_stationItem_42 rfl ?_
        refine R_ireturn dX8_stationItem_43 rfl rfl ?_
        exact ⟨((cOff.rf).is (by unfold sRd; omega)).is (by unfold sRd; omega), Or.inr ⟨by unfold itemS; exact if_neg (fun q => absurd q.2.2.2.2 (by omega)), rfl⟩⟩
    · refine R_istore_n (L' := [(0, .ref 0), (1, .int (nI x)), (2, .int (-4))]) dX8_stationItem_26 (by decide) (qs1 rfl (qs1 rfl (qs1 rfl qs0))) ?_
      refine R_iload_n dX8_stationItem_27 rfl ?_
      refine R_bipush (v := -4) dX8_stationItem_28 rfl ?_
      refine R_icmp_eq (tgt := 42) dX8_stationItem_30 (by decide) (fun h_30 => ?_) (fun h_30 => by exact absurd h_30 (by decide))
      refine R_iconst (v := nI 0) dX8_stationItem_42 rfl ?_
      refine R_ireturn dX8_stationItem_43 rfl rfl ?_
      exact ⟨(cOff.rf).is (by unfold sRd; omega), Or.inr ⟨by unfold itemS; exact if_neg (fun q => by obtain ⟨v, ev⟩ := Option.isSome_iff_exists.mp q.2.1; exact hy v ev ⟨Nat.zero_le _, sgn_le ev⟩), rfl⟩⟩
  · refine R_istore_n (L' := [(0, .ref 0), (1, .int (-4))]) dX8_stationItem_7 (by decide) (qs1 rfl (qs1 rfl qs0)) ?_
    refine R_iload_n dX8_stationItem_8 rfl ?_
    refine R_bipush (v := -4) dX8_stationItem_9 rfl ?_
    refine R_icmp_ne (tgt := 19) dX8_stationItem_11 (by decide) (fun h_11 => by exact absurd h_11 (by decide)) (fun h_11 => ?_)
    refine R_bipush (v := -4) dX8_stationItem_14 rfl ?_
    refine R_goto (tgt := 26) dX8_stationItem_16 (by decide) ?_
    refine R_istore_n (L' := [(0, .ref 0), (1, .int (-4)), (2, .int (-4))]) dX8_stationItem_26 (by decide) (qs1 rfl (qs1 rfl (qs1 rfl qs0))) ?_
    refine R_iload_n dX8_stationItem_27 rfl ?_
    refine R_bipush (v := -4) dX8_stationItem_28 rfl ?_
    refine R_icmp_eq (tgt := 42) dX8_stationItem_30 (by decide) (fun h_30 => ?_) (fun h_30 => by exact absurd h_30 (by decide))
    refine R_iconst (v := nI 0) dX8_stationItem_42 rfl ?_
    refine R_ireturn dX8_stationItem_43 rfl rfl ?_
    exact ⟨cOff.rf, Or.inr ⟨by unfold itemS; exact if_neg (fun q => by obtain ⟨v, ev⟩ := Option.isSome_iff_exists.mp q.1; exact hx v ev ⟨Nat.zero_le _, sgn_le ev⟩), rfl⟩⟩
