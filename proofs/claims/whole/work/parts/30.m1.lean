
-- ===== the model: its memory =====
def MRow (M : qMem) (o b : Nat) (d : dT) : Prop := (∀ c t, c < dK d → t < dY d → M.1 o (b + (16 * c + t)) = encM (dV d c t)) ∧ M.1 o (b + 96) = nI (dR d 4) ∧ ∀ k, k < 4 → M.1 o (b + (97 + k)) = nI (dR d k)
def MP (M : qMem) (d : dT) : Prop := M.1 0 2 = nI (dK d) ∧ M.1 0 3 = nI (dY d) ∧ (∀ c, c < dK d → M.1 2 c = dX d c) ∧ (∀ c, c < dK d → M.1 3 c = dZ d c)
def MR (M : qMem) (d : dT) : Prop := MP M d ∧ MRow M 4 0 d
theorem MR.v {M : qMem} {d : dT} (h : MR M d) {c t : Nat} (hc : c < dK d) (ht : t < dY d) : M.1 4 (16 * c + t) = encM (dV d c t) := by
  have := h.2.1 c t hc ht
  rw [Nat.zero_add] at this; exact this
theorem MR.p {M : qMem} {d : dT} (h : MR M d) : M.1 4 96 = nI (dR d 4) := h.2.2.1
theorem MR.r {M : qMem} {d : dT} (h : MR M d) {k : Nat} (hk : k < 4) : M.1 4 (97 + k) = nI (dR d k) := by
  have := h.2.2.2 k hk
  rw [Nat.zero_add] at this; exact this
/-- the fields and rows that a change of the record touches stay -/
theorem MR.off {M N : qMem} {d : dT} (h : MR M d) (e2 : N.1 0 2 = M.1 0 2) (e3 : N.1 0 3 = M.1 0 3) (ex : N.1 2 = M.1 2) (ez : N.1 3 = M.1 3) (e4 : N.1 4 = M.1 4) : MR N d := by
  obtain ⟨⟨h1, h2, h3, h4⟩, h5, h6, h7⟩ := h
  exact ⟨⟨by rw [e2]; exact h1, by rw [e3]; exact h2, fun c hc => by rw [ex]; exact h3 c hc, fun c hc => by rw [ez]; exact h4 c hc⟩, fun c t hc ht => by rw [e4]; exact h5 c t hc ht, by rw [e4]; exact h6, fun k hk => by rw [e4]; exact h7 k hk⟩
-- bounds, as long numbers
theorem in64 {a b c : Int32} : (b.toInt64 ≤ a.toInt64 ∧ a.toInt64 ≤ c.toInt64) ↔ b ≤ a ∧ a ≤ c := by
  rw [Int64.le_iff_toInt_le, Int64.le_iff_toInt_le, Int32.toInt_toInt64, Int32.toInt_toInt64, Int32.toInt_toInt64, Int32.le_iff_toInt_le, Int32.le_iff_toInt_le]
theorem in_sta {c : Int32} {n : Nat} (h : 1 ≤ n) (h2 : n < 2147483648) : (0 ≤ c.toInt64 ∧ c.toInt64 ≤ (nI (n - 1)).toInt64) ↔ inN c n := by
  rw [show (0 : Int64) = (0 : Int32).toInt64 from rfl, in64, Int32.le_iff_toInt_le, Int32.le_iff_toInt_le, nI_toInt (by omega)]
  unfold inN
  rw [Int32.lt_iff_toInt_lt, nI_toInt h2, Int32.le_iff_toInt_le]
  constructor <;> rintro ⟨q1, q2⟩ <;> exact ⟨q1, by omega⟩
set_option maxRecDepth 100000 in
set_option maxHeartbeats 4000000 in
theorem m_in {M : qMem} {a b c : Int64} : qSem 1 mX8_in [.long (a), .long (b), .long (c)] M (qb (b ≤ a ∧ a ≤ c) M) := by
  refine qSem.of (by decide +kernel) (Nat.le_of_ble_eq_true rfl) (fun w => ?_)
  refine R_ls (L' := [(0, .long (a)), (2, .long (b)), (4, .long (c))]) (qs1 rfl (qs1 rfl (qs1 rfl qs0))) ?_
  refine R_lload_n dX8_in_0 rfl ?_
  refine R_lload_n dX8_in_1 rfl ?_
  refine R_lc_lt (tgt := 17) dX8_in_2 dX8_in_3 (by decide) (fun h_2 => ?_) (fun h_2 => ?_)
  · refine R_iconst (v := nI 0) dX8_in_17 rfl ?_
    refine R_ireturn dX8_in_18 rfl rfl ?_
    refine ⟨rfl, ?_⟩
    first | exact Or.inl ⟨rfl, Int64.not_lt.mp (by assumption), Int64.not_lt.mp (by assumption)⟩ | exact Or.inl ⟨rfl, by assumption, by assumption⟩ | exact Or.inl ⟨rfl, Int64.not_lt.mp (by assumption), by assumption⟩ | exact Or.inl ⟨rfl, by assumption, Int64.not_lt.mp (by assumption)⟩ | exact Or.inr ⟨rfl, fun h => absurd h.1 (Int64.not_le.mpr (by assumption))⟩ | exact Or.inr ⟨rfl, fun h => absurd h.2 (Int64.not_le.mpr (by assumption))⟩ | exact Or.inr ⟨rfl, fun h => absurd h.1 (by assumption)⟩ | exact Or.inr ⟨rfl, fun h => absurd h.2 (by assumption)⟩
  · refine R_lload_n dX8_in_6 rfl ?_
    refine R_lload dX8_in_7 rfl ?_
    refine R_lc_gt (tgt := 17) dX8_in_9 dX8_in_10 (by decide) (fun h_9 => ?_) (fun h_9 => ?_)
    · refine R_iconst (v := nI 0) dX8_in_17 rfl ?_
      refine R_ireturn dX8_in_18 rfl rfl ?_
      refine ⟨rfl, ?_⟩
      first | exact Or.inl ⟨rfl, Int64.not_lt.mp (by assumption), Int64.not_lt.mp (by assumption)⟩ | exact Or.inl ⟨rfl, by assumption, by assumption⟩ | exact Or.inl ⟨rfl, Int64.not_lt.mp (by assumption), by assumption⟩ | exact Or.inl ⟨rfl, by assumption, Int64.not_lt.mp (by assumption)⟩ | exact Or.inr ⟨rfl, fun h => absurd h.1 (Int64.not_le.mpr (by assumption))⟩ | exact Or.inr ⟨rfl, fun h => absurd h.2 (Int64.not_le.mpr (by assumption))⟩ | exact Or.inr ⟨rfl, fun h => absurd h.1 (by assumption)⟩ | exact Or.inr ⟨rfl, fun h => absurd h.2 (by assumption)⟩
    · refine R_iconst (v := nI 1) dX8_in_13 rfl ?_
      refine R_goto (tgt := 18) dX8_in_14 (by decide) ?_
      refine R_ireturn dX8_in_18 rfl rfl ?_
      refine ⟨rfl, ?_⟩
      first | exact Or.inl ⟨rfl, Int64.not_lt.mp (by assumption), Int64.not_lt.mp (by assumption)⟩ | exact Or.inl ⟨rfl, by assumption, by assumption⟩ | exact Or.inl ⟨rfl, Int64.not_lt.mp (by assumption), by assumption⟩ | exact Or.inl ⟨rfl, by assumption, Int64.not_lt.mp (by assumption)⟩ | exact Or.inr ⟨rfl, fun h => absurd h.1 (Int64.not_le.mpr (by assumption))⟩ | exact Or.inr ⟨rfl, fun h => absurd h.2 (Int64.not_le.mpr (by assumption))⟩ | exact Or.inr ⟨rfl, fun h => absurd h.1 (by assumption)⟩ | exact Or.inr ⟨rfl, fun h => absurd h.2 (by assumption)⟩
set_option maxRecDepth 100000 in
set_option maxHeartbeats 4000000 in
theorem m_isSta {M : qMem} {d : dT} (hX : MR M d) {c : Int32} (h1 : 1 ≤ dK d) (h2 : dK d < 2147483648) : qSem 1 mX8_isStation [.ref 0, .int (c)] M (qb (inN c (dK d)) M) := by
  refine qSem.of (by decide +kernel) (Nat.le_of_ble_eq_true rfl) (fun w => ?_)
  refine R_ls (L' := [(0, .ref 0), (1, .int (c))]) (qs1 rfl (qs1 rfl qs0)) ?_
  refine R_iload_n dX8_isStation_0 rfl ?_
  refine R_i2l dX8_isStation_1 ?_
  refine R_lconst (v := 0) dX8_isStation_2 rfl ?_
  refine R_aload_n dX8_isStation_3 rfl ?_
  refine R_getI dX8_isStation_4 (lf_RX8_148).get (by decide) rfl rfl ?_
  refine R_top (y := nI (dK d)) hX.1.1 ?_
  refine R_iconst (v := nI 1) dX8_isStation_7 rfl ?_
  refine R_isubN dX8_isStation_8 (by omega) ?_
  refine R_i2l dX8_isStation_9 ?_
  refine R_callS (mc := mX8_in) (As := [_, _, _]) dX8_isStation_10 lm_RX8_98 mv_X8_in rfl rfl rfl (Nat.le_of_ble_eq_true rfl) m_in ?_
  rintro _ _ ⟨rfl, ⟨rfl, hq⟩ | ⟨rfl, hq⟩⟩
  · rw [in_sta h1 h2] at hq
    refine R_ireturn dX8_isStation_13 rfl rfl ?_
    refine ⟨rfl, ?_⟩
    first | exact Or.inl ⟨rfl, by assumption⟩ | exact Or.inr ⟨rfl, by assumption⟩
  · rw [in_sta h1 h2] at hq
    refine R_ireturn dX8_isStation_13 rfl rfl ?_
    refine ⟨rfl, ?_⟩
    first | exact Or.inl ⟨rfl, by assumption⟩ | exact Or.inr ⟨rfl, by assumption⟩
set_option maxRecDepth 100000 in
set_option maxHeartbeats 4000000 in
theorem m_isYea {M : qMem} {d : dT} (hX : MR M d) {c : Int32} (h1 : 1 ≤ dY d) (h2 : dY d < 2147483648) : qSem 1 mX8_isYear [.ref 0, .int (c)] M (qb (inN c (dY d)) M) := by
  refine qSem.of (by decide +kernel) (Nat.le_of_ble_eq_true rfl) (fun w => ?_)
  refine R_ls (L' := [(0, .ref 0), (1, .int (c))]) (qs1 rfl (qs1 rfl qs0)) ?_
  refine R_iload_n dX8_isYear_0 rfl ?_
  refine R_i2l dX8_isYear_1 ?_
  refine R_lconst (v := 0) dX8_isYear_2 rfl ?_
  refine R_aload_n dX8_isYear_3 rfl ?_
  refine R_getI dX8_isYear_4 (lf_RX8_151).get (by decide) rfl rfl ?_
  refine R_top (y := nI (dY d)) hX.1.2.1 ?_
  refine R_iconst (v := nI 1) dX8_isYear_7 rfl ?_
  refine R_isubN dX8_isYear_8 (by omega) ?_
  refine R_i2l dX8_isYear_9 ?_
  refine R_callS (mc := mX8_in) (As := [_, _, _]) dX8_isYear_10 lm_RX8_98 mv_X8_in rfl rfl rfl (Nat.le_of_ble_eq_true rfl) m_in ?_
  rintro _ _ ⟨rfl, ⟨rfl, hq⟩ | ⟨rfl, hq⟩⟩
  · rw [in_sta h1 h2] at hq
    refine R_ireturn dX8_isYear_13 rfl rfl ?_
    refine ⟨rfl, ?_⟩
    first | exact Or.inl ⟨rfl, by assumption⟩ | exact Or.inr ⟨rfl, by assumption⟩
  · rw [in_sta h1 h2] at hq
    refine R_ireturn dX8_isYear_13 rfl rfl ?_
    refine ⟨rfl, ?_⟩
    first | exact Or.inl ⟨rfl, by assumption⟩ | exact Or.inr ⟨rfl, by assumption⟩
set_option maxRecDepth 100000 in
set_option maxHeartbeats 4000000 in
theorem m_two {M : qMem} {d : dT} (hX : MR M d) (hB : dB d) (hK2 : 2 ≤ dK d) (hY4 : 4 ≤ dY d) {u v : Int32} : qSem 1 mX8_areTwo [.ref 0, .int (u), .int (v)] M (qb (tw d u v) M) := by
  have hK6 := hB.2.1
  refine qSem.of (by decide +kernel) (Nat.le_of_ble_eq_true rfl) (fun w => ?_)
  refine R_ls (L' := [(0, .ref 0), (1, .int (u)), (2, .int (v))]) (qs1 rfl (qs1 rfl (qs1 rfl qs0))) ?_
  refine R_aload_n dX8_areTwo_0 rfl ?_
  refine R_iload_n dX8_areTwo_1 rfl ?_
  refine R_callV (mc := mX8_isStation) (As := [_]) (r := 0) dX8_areTwo_2 lm_RX8_161 mv_X8_isStation rfl (by decide) rfl rfl rfl rfl (Nat.le_of_ble_eq_true rfl) (m_isSta hX (by omega) (by omega)) ?_
  rintro _ _ ⟨rfl, ⟨rfl, hsu⟩ | ⟨rfl, hsu⟩⟩
  · refine R_if_eqN (tgt := 25) dX8_areTwo_5 (by decide) (by omega) (fun h_5 => by exact absurd h_5 (by decide)) (fun h_5 => ?_)
    refine R_aload_n dX8_areTwo_8 rfl ?_
    refine R_iload_n dX8_areTwo_9 rfl ?_
    refine R_callV (mc := mX8_isStation) (As := [_]) (r := 0) dX8_areTwo_10 lm_RX8_161 mv_X8_isStation rfl (by decide) rfl rfl rfl rfl (Nat.le_of_ble_eq_true rfl) (m_isSta hX (by omega) (by omega)) ?_
    rintro _ _ ⟨rfl, ⟨rfl, hsv⟩ | ⟨rfl, hsv⟩⟩
    · refine R_if_eqN (tgt := 25) dX8_areTwo_13 (by decide) (by omega) (fun h_13 => by exact absurd h_13 (by decide)) (fun h_13 => ?_)
      refine R_iload_n dX8_areTwo_16 rfl ?_
      refine R_iload_n dX8_areTwo_17 rfl ?_
      refine R_icmp_eq (tgt := 25) dX8_areTwo_18 (by decide) (fun h_18 => ?_) (fun h_18 => ?_)
      · refine R_iconst (v := nI 0) dX8_areTwo_25 rfl ?_
        refine R_ireturn dX8_areTwo_26 rfl rfl ?_
        refine ⟨rfl, ?_⟩
        first | exact Or.inl ⟨rfl, hsu, hsv, h_18⟩ | exact Or.inr ⟨rfl, fun h => hsu h.1⟩ | exact Or.inr ⟨rfl, fun h => hsv h.2.1⟩ | exact Or.inr ⟨rfl, fun h => h.2.2 h_18⟩
      · refine R_iconst (v := nI 1) dX8_areTwo_21 rfl ?_
        refine R_goto (tgt := 26) dX8_areTwo_22 (by decide) ?_
        refine R_ireturn dX8_areTwo_26 rfl rfl ?_
        refine ⟨rfl, ?_⟩
        first | exact Or.inl ⟨rfl, hsu, hsv, h_18⟩ | exact Or.inr ⟨rfl, fun h => hsu h.1⟩ | exact Or.inr ⟨rfl, fun h => hsv h.2.1⟩ | exact Or.inr ⟨rfl, fun h => h.2.2 h_18⟩
    · refine R_if_eqN (tgt := 25) dX8_areTwo_13 (by decide) (by omega) (fun h_13 => ?_) (fun h_13 => by exact absurd h_13 (by decide))
      refine R_iconst (v := nI 0) dX8_areTwo_25 rfl ?_
      refine R_ireturn dX8_areTwo_26 rfl rfl ?_
      refine ⟨rfl, ?_⟩
      first | exact Or.inl ⟨rfl, hsu, hsv, h_18⟩ | exact Or.inr ⟨rfl, fun h => hsu h.1⟩ | exact Or.inr ⟨rfl, fun h => hsv h.2.1⟩ | exact Or.inr ⟨rfl, fun h => h.2.2 h_18⟩
  · refine R_if_eqN (tgt := 25) dX8_areTwo_5 (by decide) (by omega) (fun h_5 => ?_) (fun h_5 => by exact absurd h_5 (by decide))
    refine R_iconst (v := nI 0) dX8_areTwo_25 rfl ?_
    refine R_ireturn dX8_areTwo_26 rfl rfl ?_
    refine ⟨rfl, ?_⟩
    first | exact Or.inl ⟨rfl, hsu, hsv, h_18⟩ | exact Or.inr ⟨rfl, fun h => hsu h.1⟩ | exact Or.inr ⟨rfl, fun h => hsv h.2.1⟩ | exact Or.inr ⟨rfl, fun h => h.2.2 h_18⟩
set_option maxRecDepth 100000 in
set_option maxHeartbeats 4000000 in
theorem m_val {M : qMem} {d : dT} (hX : MR M d) (hB : dB d) {c t : Nat} (hc : c < dK d) (ht : t < dY d) : qSem 1 mX8_valueOf [.ref 0, .int (nI c), .int (nI t)] M (qr (encM (dV d c t)) M) := by
  have hK6 := hB.2.1
  have hY16 := hB.1
  refine qSem.of (by decide +kernel) (Nat.le_of_ble_eq_true rfl) (fun w => ?_)
  refine R_ls (L' := [(0, .ref 0), (1, .int (nI c)), (2, .int (nI t))]) (qs1 rfl (qs1 rfl (qs1 rfl qs0))) ?_
  refine R_aload_n dX8_valueOf_0 rfl ?_
  refine R_getR dX8_valueOf_1 lg_RX8_19 (by decide) rfl rfl ?_
  refine R_bipush (v := nI 16) dX8_valueOf_4 rfl ?_
  refine R_iload_n dX8_valueOf_6 rfl ?_
  refine R_imulN dX8_valueOf_7 ?_
  refine R_iload_n dX8_valueOf_8 rfl ?_
  refine R_iaddN dX8_valueOf_9 ?_
  refine R_ialdN dX8_valueOf_10 (by decide) rfl (by omega) (by decide) ?_
  refine R_top (y := encM (dV d c t)) (hX.v hc ht) ?_
  refine R_ireturn dX8_valueOf_11 rfl rfl ?_
  exact ⟨rfl, rfl⟩

theorem encM_inj {a b : Option Int32} (ha : ∀ v, a = some v → okv v) (hb : ∀ v, b = some v → okv v) (h : encM a = encM b) : a = b := by
  cases a with
  | none => cases b with
    | none => rfl
    | some v => exact absurd h.symm (okv_M (hb v rfl))
  | some u => cases b with
    | none => exact absurd h (okv_M (ha u rfl))
    | some v => exact congrArg some h
set_option maxRecDepth 100000 in
set_option maxHeartbeats 4000000 in
theorem m_isT {M : qMem} {d : dT} (hX : MR M d) (hB : dB d) {c t : Nat} (hc : c < dK d) (ht : t < dY d) : qSem 1 mX8_isThere [.ref 0, .int (nI c), .int (nI t)] M (qb ((dV d c t).isSome = true) M) := by
  have hK6 := hB.2.1
  have hY16 := hB.1
  refine qSem.of (by decide +kernel) (Nat.le_of_ble_eq_true rfl) (fun w => ?_)
  refine R_ls (L' := [(0, .ref 0), (1, .int (nI c)), (2, .int (nI t))]) (qs1 rfl (qs1 rfl (qs1 rfl qs0))) ?_
  refine R_aload_n dX8_isThere_0 rfl ?_
  refine R_iload_n dX8_isThere_1 rfl ?_
  refine R_iload_n dX8_isThere_2 rfl ?_
  refine R_callV (mc := mX8_valueOf) (As := [_, _]) (r := 0) dX8_isThere_3 lm_RX8_164 mv_X8_valueOf rfl (by decide) rfl rfl rfl rfl (Nat.le_of_ble_eq_true rfl) (m_val hX hB (by omega) (by omega)) ?_
  rintro _ _ ⟨rfl, rfl⟩
  refine R_ldc (v := nI 99999) dX8_isThere_6 lc_RX8_83 ?_
  refine R_top (y := 99999) rfl ?_
  refine R_icmp_eq (tgt := 15) dX8_isThere_8 (by decide) (fun h_8 => ?_) (fun h_8 => ?_)
  · refine R_iconst (v := nI 0) dX8_isThere_15 rfl ?_
    refine R_ireturn dX8_isThere_16 rfl rfl ?_
    refine ⟨rfl, ?_⟩
    first | exact Or.inl ⟨rfl, (encM_ne (fun v e => hB.2.2.1 _ _ v e)).mp h_8⟩ | exact Or.inr ⟨rfl, fun z => (encM_ne (fun v e => hB.2.2.1 _ _ v e)).mpr z h_8⟩
  · refine R_iconst (v := nI 1) dX8_isThere_11 rfl ?_
    refine R_goto (tgt := 16) dX8_isThere_12 (by decide) ?_
    refine R_ireturn dX8_isThere_16 rfl rfl ?_
    refine ⟨rfl, ?_⟩
    first | exact Or.inl ⟨rfl, (encM_ne (fun v e => hB.2.2.1 _ _ v e)).mp h_8⟩ | exact Or.inr ⟨rfl, fun z => (encM_ne (fun v e => hB.2.2.1 _ _ v e)).mpr z h_8⟩
set_option maxRecDepth 100000 in
set_option maxHeartbeats 4000000 in
theorem m_told {M : qMem} {x : Int32} {o : Option Int32} (hx : x = encM o) (ho : ∀ v, o = some v → okv v) : qSem 1 mX8_told [.int (x)] M (qr (shown o) M) := by
  refine qSem.of (by decide +kernel) (Nat.le_of_ble_eq_true rfl) (fun w => ?_)
  refine R_ls (L' := [(0, .int (x))]) (qs1 rfl qs0) ?_
  refine R_iload_n dX8_told_0 rfl ?_
  refine R_ldc (v := nI 99999) dX8_told_1 lc_RX8_83 ?_
  refine R_top (y := 99999) rfl ?_
  refine R_icmp_ne (tgt := 11) dX8_told_3 (by decide) (fun h_3 => ?_) (fun h_3 => ?_)
  · refine R_iload_n dX8_told_11 rfl ?_
    refine R_ldc (v := nI 100000) dX8_told_12 lc_RX8_167 ?_
    refine R_iadd dX8_told_14 ?_
    refine R_ireturn dX8_told_15 rfl rfl ?_
    subst hx
    cases o with
    | none => first | exact ⟨rfl, rfl⟩ | exact absurd rfl (by assumption)
    | some v => first | exact absurd (show encM (some v) = 99999 by assumption) (okv_M (ho v rfl)) | exact ⟨rfl, rfl⟩
  · refine R_bipush (v := -4) dX8_told_6 rfl ?_
    refine R_goto (tgt := 15) dX8_told_8 (by decide) ?_
    refine R_ireturn dX8_told_15 rfl rfl ?_
    subst hx
    cases o with
    | none => first | exact ⟨rfl, rfl⟩ | exact absurd rfl (by assumption)
    | some v => first | exact absurd (show encM (some v) = 99999 by assumption) (okv_M (ho v rfl)) | exact ⟨rfl, rfl⟩
set_option maxRecDepth 100000 in
set_option maxHeartbeats 4000000 in
theorem m_sq {M : qMem} {d : dT} (hX : MR M d) (hB : dB d) {u v : Nat} (hu : u < dK d) (hv : v < dK d) : qSem 1 mX8_square [.ref 0, .int (nI u), .int (nI v)] M (qr (sqd d u v) M) := by
  have hK6 := hB.2.1
  have hY16 := hB.1
  refine qSem.of (by decide +kernel) (Nat.le_of_ble_eq_true rfl) (fun w => ?_)
  refine R_ls (L' := [(0, .ref 0), (1, .int (nI u)), (2, .int (nI v))]) (qs1 rfl (qs1 rfl (qs1 rfl qs0))) ?_
  refine R_aload_n dX8_square_0 rfl ?_
  refine R_getR dX8_square_1 lg_RX8_13 (by decide) rfl rfl ?_
  refine R_iload_n dX8_square_4 rfl ?_
  refine R_ialdN dX8_square_5 (by decide) rfl (by omega) (by decide) ?_
  refine R_top (y := dX d u) (hX.1.2.2.1 u hu) ?_
  refine R_aload_n dX8_square_6 rfl ?_
  refine R_getR dX8_square_7 lg_RX8_13 (by decide) rfl rfl ?_
  refine R_iload_n dX8_square_10 rfl ?_
  refine R_ialdN dX8_square_11 (by decide) rfl (by omega) (by decide) ?_
  refine R_top (y := dX d v) (hX.1.2.2.1 v hv) ?_
  refine R_isub dX8_square_12 ?_
  refine R_aload_n dX8_square_13 rfl ?_
  refine R_getR dX8_square_14 lg_RX8_13 (by decide) rfl rfl ?_
  refine R_iload_n dX8_square_17 rfl ?_
  refine R_ialdN dX8_square_18 (by decide) rfl (by omega) (by decide) ?_
  refine R_top (y := dX d u) (hX.1.2.2.1 u hu) ?_
  refine R_aload_n dX8_square_19 rfl ?_
  refine R_getR dX8_square_20 lg_RX8_13 (by decide) rfl rfl ?_
  refine R_iload_n dX8_square_23 rfl ?_
  refine R_ialdN dX8_square_24 (by decide) rfl (by omega) (by decide) ?_
  refine R_top (y := dX d v) (hX.1.2.2.1 v hv) ?_
  refine R_isub dX8_square_25 ?_
  refine R_imul dX8_square_26 ?_
  refine R_aload_n dX8_square_27 rfl ?_
  refine R_getR dX8_square_28 lg_RX8_16 (by decide) rfl rfl ?_
  refine R_iload_n dX8_square_31 rfl ?_
  refine R_ialdN dX8_square_32 (by decide) rfl (by omega) (by decide) ?_
  refine R_top (y := dZ d u) (hX.1.2.2.2 u hu) ?_
  refine R_aload_n dX8_square_33 rfl ?_
  refine R_getR dX8_square_34 lg_RX8_16 (by decide) rfl rfl ?_
  refine R_iload_n dX8_square_37 rfl ?_
  refine R_ialdN dX8_square_38 (by decide) rfl (by omega) (by decide) ?_
  refine R_top (y := dZ d v) (hX.1.2.2.2 v hv) ?_
  refine R_isub dX8_square_39 ?_
  refine R_aload_n dX8_square_40 rfl ?_
  refine R_getR dX8_square_41 lg_RX8_16 (by decide) rfl rfl ?_
  refine R_iload_n dX8_square_44 rfl ?_
  refine R_ialdN dX8_square_45 (by decide) rfl (by omega) (by decide) ?_
  refine R_top (y := dZ d u) (hX.1.2.2.2 u hu) ?_
  refine R_aload_n dX8_square_46 rfl ?_
  refine R_getR dX8_square_47 lg_RX8_16 (by decide) rfl rfl ?_
  refine R_iload_n dX8_square_50 rfl ?_
  refine R_ialdN dX8_square_51 (by decide) rfl (by omega) (by decide) ?_
  refine R_top (y := dZ d v) (hX.1.2.2.2 v hv) ?_
  refine R_isub dX8_square_52 ?_
  refine R_imul dX8_square_53 ?_
  refine R_iadd dX8_square_54 ?_
  refine R_ireturn dX8_square_55 rfl rfl ?_
  exact ⟨rfl, rfl⟩

theorem near_t {d : dT} {c o q : Nat} (h1 : ¬ q = c) (h2 : sqd d c q < sqd d c o ∨ (sqd d c q = sqd d c o ∧ q < o)) : rnkTo d c o (q + 1) = rnkTo d c o q + 1 := by
  show rnkTo d c o q + (if nearr d c o q then 1 else 0) = _
  rw [if_pos]; unfold nearr
  rw [Bool.and_eq_true, Bool.or_eq_true, Bool.and_eq_true, decide_eq_true_eq, decide_eq_true_eq, decide_eq_true_eq, decide_eq_true_eq]
  exact ⟨h1, h2⟩
theorem near_f {d : dT} {c o q : Nat} (h : q = c ∨ (¬ sqd d c q < sqd d c o ∧ (¬ sqd d c q = sqd d c o ∨ ¬ q < o))) : rnkTo d c o (q + 1) = rnkTo d c o q + 0 := by
  show rnkTo d c o q + (if nearr d c o q then 1 else 0) = _
  rw [if_neg]; unfold nearr
  rw [Bool.and_eq_true, Bool.or_eq_true, Bool.and_eq_true, decide_eq_true_eq, decide_eq_true_eq, decide_eq_true_eq, decide_eq_true_eq]
  rintro ⟨q1, q2⟩
  rcases h with z | ⟨z1, z2⟩
  · exact q1 z
  · rcases q2 with y | ⟨y1, y2⟩
    · exact z1 y
    · rcases z2 with x | x
      · exact x y1
      · exact x y2
set_option maxRecDepth 100000 in
set_option maxHeartbeats 4000000 in
theorem m_rankL {w : qWT} {M : qMem} {d : dT} (hX : MR M d) (hB : dB d) {c o : Nat} (hc : c < dK d) (ho : o < dK d) : ∀ (fu : Nat) (q : Nat), (dK d + 1 - q) < fu → (q ≤ dK d) → qRW 1 w mX8_rankOf 5 [(0, .ref 0), (1, .int (nI c)), (2, .int (nI o)), (3, .int (nI (rnkTo d c o q))), (4, .int (nI q))] [] M (qr (nI (rnk d c o)) M) := by
  intro fu
  induction fu with
  | zero => intro q hn; exact absurd hn (Nat.not_lt_zero _)
  | succ fu ih =>
    intro q hn hq
    have hK6 := hB.2.1
    have hY16 := hB.1
    have hrq := rnkTo_le d c o q
    refine R_iload dX8_rankOf_5 rfl ?_
    refine R_aload_n dX8_rankOf_7 rfl ?_
    refine R_getI dX8_rankOf_8 (lf_RX8_148).get (by decide) rfl rfl ?_
    refine R_top (y := nI (dK d)) hX.1.1 ?_
    refine R_icmp_geN (tgt := 90) dX8_rankOf_11 (by decide) (by omega) (by omega) (fun h_11 => ?_) (fun h_11 => ?_)
    · refine R_iload_n dX8_rankOf_90 rfl ?_
      refine R_ireturn dX8_rankOf_91 rfl rfl ?_
      have e : q = dK d := by omega
      subst e
      exact ⟨rfl, rfl⟩
    · refine R_aload_n dX8_rankOf_14 rfl ?_
      refine R_iload_n dX8_rankOf_15 rfl ?_
      refine R_iload dX8_rankOf_16 rfl ?_
      refine R_callV (mc := mX8_square) (As := [_, _]) (r := 0) dX8_rankOf_18 lm_RX8_204 mv_X8_square rfl (by decide) rfl rfl rfl rfl (Nat.le_of_ble_eq_true rfl) (m_sq hX hB (by omega) (by omega)) ?_
      rintro _ _ ⟨rfl, rfl⟩
      refine R_aload_n dX8_rankOf_21 rfl ?_
      refine R_iload_n dX8_rankOf_22 rfl ?_
      refine R_iload_n dX8_rankOf_23 rfl ?_
      refine R_callV (mc := mX8_square) (As := [_, _]) (r := 0) dX8_rankOf_24 lm_RX8_204 mv_X8_square rfl (by decide) rfl rfl rfl rfl (Nat.le_of_ble_eq_true rfl) (m_sq hX hB (by omega) (by omega)) ?_
      rintro _ _ ⟨rfl, rfl⟩
      refine R_icmp_lt (tgt := 52) dX8_rankOf_27 (by decide) (fun h_27 => ?_) (fun h_27 => ?_)
      · refine R_iconst (v := nI 1) dX8_rankOf_52 rfl ?_
        refine R_goto (tgt := 57) dX8_rankOf_53 (by decide) ?_
        refine R_istore (L' := [(0, .ref 0), (1, .int (nI c)), (2, .int (nI o)), (3, .int (nI (rnkTo d c o q))), (4, .int (nI q)), (5, .int (nI 1))]) dX8_rankOf_57 (by decide) (qs1 rfl (qs1 rfl (qs1 rfl (qs1 rfl (qs1 rfl (qs1 rfl qs0)))))) ?_
        refine R_iload_n dX8_rankOf_59 rfl ?_
        refine R_iload dX8_rankOf_60 rfl ?_
        refine R_iload_n dX8_rankOf_62 rfl ?_
        refine R_icmp_eqN (tgt := 81) dX8_rankOf_63 (by decide) (by omega) (by omega) (fun h_63 => ?_) (fun h_63 => ?_)
        · refine R_iconst (v := nI 0) dX8_rankOf_81 rfl ?_
          refine R_iaddN dX8_rankOf_82 ?_
          refine R_istore_n (L' := [(0, .ref 0), (1, .int (nI c)), (2, .int (nI o)), (3, .int (nI ((rnkTo d c o q) + 0))), (4, .int (nI q)), (5, .int (nI 1))]) dX8_rankOf_83 (by decide) (qs1 rfl (qs1 rfl (qs1 rfl (qs1 rfl (qs1 rfl (qs1 rfl qs0)))))) ?_
          refine R_iincN (n := 1) (L' := [(0, .ref 0), (1, .int (nI c)), (2, .int (nI o)), (3, .int (nI ((rnkTo d c o q) + 0))), (4, .int (nI (q + 1))), (5, .int (nI 1))]) dX8_rankOf_84 rfl (by decide) (qs1 rfl (qs1 rfl (qs1 rfl (qs1 rfl (qs1 rfl (qs1 rfl qs0)))))) ?_
          refine R_goto (tgt := 5) dX8_rankOf_87 (by decide) ?_
          refine R_ls (L' := [(0, .ref 0), (1, .int (nI c)), (2, .int (nI o)), (3, .int (nI ((rnkTo d c o q) + 0))), (4, .int (nI (q + 1)))]) (qs1 rfl (qs1 rfl (qs1 rfl (qs1 rfl (qs1 rfl qs0))))) ?_
          exact (by have h := ih (q + 1) (by omega) (by omega); rw [near_f (Or.inl h_63)] at h; exact h)
        · refine R_iload dX8_rankOf_66 rfl ?_
          refine R_iload_n dX8_rankOf_68 rfl ?_
          refine R_icmp_eqN (tgt := 81) dX8_rankOf_69 (by decide) (by omega) (by omega) (fun h_69 => ?_) (fun h_69 => ?_)
          · refine R_iconst (v := nI 0) dX8_rankOf_81 rfl ?_
            refine R_iaddN dX8_rankOf_82 ?_
            refine R_istore_n (L' := [(0, .ref 0), (1, .int (nI c)), (2, .int (nI o)), (3, .int (nI ((rnkTo d c o q) + 0))), (4, .int (nI q)), (5, .int (nI 1))]) dX8_rankOf_83 (by decide) (qs1 rfl (qs1 rfl (qs1 rfl (qs1 rfl (qs1 rfl (qs1 rfl qs0)))))) ?_
            refine R_iincN (n := 1) (L' := [(0, .ref 0), (1, .int (nI c)), (2, .int (nI o)), (3, .int (nI ((rnkTo d c o q) + 0))), (4, .int (nI (q + 1))), (5, .int (nI 1))]) dX8_rankOf_84 rfl (by decide) (qs1 rfl (qs1 rfl (qs1 rfl (qs1 rfl (qs1 rfl (qs1 rfl qs0)))))) ?_
            refine R_goto (tgt := 5) dX8_rankOf_87 (by decide) ?_
            refine R_ls (L' := [(0, .ref 0), (1, .int (nI c)), (2, .int (nI o)), (3, .int (nI ((rnkTo d c o q) + 0))), (4, .int (nI (q + 1)))]) (qs1 rfl (qs1 rfl (qs1 rfl (qs1 rfl (qs1 rfl qs0))))) ?_
            exact (by have h := ih (q + 1) (by omega) (by omega); rw [near_f (by subst h_69; exact (Int32.lt_irrefl (by first | exact h_27 | exact Int32.not_le.mp h_27)).elim)] at h; exact h)
          · refine R_iload dX8_rankOf_72 rfl ?_
            refine R_if_eqN (tgt := 81) dX8_rankOf_74 (by decide) (by omega) (fun h_74 => by exact absurd h_74 (by decide)) (fun h_74 => ?_)
            refine R_iconst (v := nI 1) dX8_rankOf_77 rfl ?_
            refine R_goto (tgt := 82) dX8_rankOf_78 (by decide) ?_
            refine R_iaddN dX8_rankOf_82 ?_
            refine R_istore_n (L' := [(0, .ref 0), (1, .int (nI c)), (2, .int (nI o)), (3, .int (nI ((rnkTo d c o q) + 1))), (4, .int (nI q)), (5, .int (nI 1))]) dX8_rankOf_83 (by decide) (qs1 rfl (qs1 rfl (qs1 rfl (qs1 rfl (qs1 rfl (qs1 rfl qs0)))))) ?_
            refine R_iincN (n := 1) (L' := [(0, .ref 0), (1, .int (nI c)), (2, .int (nI o)), (3, .int (nI ((rnkTo d c o q) + 1))), (4, .int (nI (q + 1))), (5, .int (nI 1))]) dX8_rankOf_84 rfl (by decide) (qs1 rfl (qs1 rfl (qs1 rfl (qs1 rfl (qs1 rfl (qs1 rfl qs0)))))) ?_
            refine R_goto (tgt := 5) dX8_rankOf_87 (by decide) ?_
            refine R_ls (L' := [(0, .ref 0), (1, .int (nI c)), (2, .int (nI o)), (3, .int (nI ((rnkTo d c o q) + 1))), (4, .int (nI (q + 1)))]) (qs1 rfl (qs1 rfl (qs1 rfl (qs1 rfl (qs1 rfl qs0))))) ?_
            exact (by have h := ih (q + 1) (by omega) (by omega); rw [near_t h_63 (Or.inl (by first | exact h_27 | exact Int32.not_le.mp h_27))] at h; exact h)
      · refine R_aload_n dX8_rankOf_30 rfl ?_
        refine R_iload_n dX8_rankOf_31 rfl ?_
        refine R_iload dX8_rankOf_32 rfl ?_
        refine R_callV (mc := mX8_square) (As := [_, _]) (r := 0) dX8_rankOf_34 lm_RX8_204 mv_X8_square rfl (by decide) rfl rfl rfl rfl (Nat.le_of_ble_eq_true rfl) (m_sq hX hB (by omega) (by omega)) ?_
        rintro _ _ ⟨rfl, rfl⟩
        refine R_aload_n dX8_rankOf_37 rfl ?_
        refine R_iload_n dX8_rankOf_38 rfl ?_
        refine R_iload_n dX8_rankOf_39 rfl ?_
        refine R_callV (mc := mX8_square) (As := [_, _]) (r := 0) dX8_rankOf_40 lm_RX8_204 mv_X8_square rfl (by decide) rfl rfl rfl rfl (Nat.le_of_ble_eq_true rfl) (m_sq hX hB (by omega) (by omega)) ?_
        rintro _ _ ⟨rfl, rfl⟩
        refine R_icmp_ne (tgt := 56) dX8_rankOf_43 (by decide) (fun h_43 => ?_) (fun h_43 => ?_)
        · refine R_iconst (v := nI 0) dX8_rankOf_56 rfl ?_
          refine R_istore (L' := [(0, .ref 0), (1, .int (nI c)), (2, .int (nI o)), (3, .int (nI (rnkTo d c o q))), (4, .int (nI q)), (5, .int (nI 0))]) dX8_rankOf_57 (by decide) (qs1 rfl (qs1 rfl (qs1 rfl (qs1 rfl (qs1 rfl (qs1 rfl qs0)))))) ?_
          refine R_iload_n dX8_rankOf_59 rfl ?_
          refine R_iload dX8_rankOf_60 rfl ?_
          refine R_iload_n dX8_rankOf_62 rfl ?_
          refine R_icmp_eqN (tgt := 81) dX8_rankOf_63 (by decide) (by omega) (by omega) (fun h_63 => ?_) (fun h_63 => ?_)
          · refine R_iconst (v := nI 0) dX8_rankOf_81 rfl ?_
            refine R_iaddN dX8_rankOf_82 ?_
            refine R_istore_n (L' := [(0, .ref 0), (1, .int (nI c)), (2, .int (nI o)), (3, .int (nI ((rnkTo d c o q) + 0))), (4, .int (nI q)), (5, .int (nI 0))]) dX8_rankOf_83 (by decide) (qs1 rfl (qs1 rfl (qs1 rfl (qs1 rfl (qs1 rfl (qs1 rfl qs0)))))) ?_
            refine R_iincN (n := 1) (L' := [(0, .ref 0), (1, .int (nI c)), (2, .int (nI o)), (3, .int (nI ((rnkTo d c o q) + 0))), (4, .int (nI (q + 1))), (5, .int (nI 0))]) dX8_rankOf_84 rfl (by decide) (qs1 rfl (qs1 rfl (qs1 rfl (qs1 rfl (qs1 rfl (qs1 rfl qs0)))))) ?_
            refine R_goto (tgt := 5) dX8_rankOf_87 (by decide) ?_
            refine R_ls (L' := [(0, .ref 0), (1, .int (nI c)), (2, .int (nI o)), (3, .int (nI ((rnkTo d c o q) + 0))), (4, .int (nI (q + 1)))]) (qs1 rfl (qs1 rfl (qs1 rfl (qs1 rfl (qs1 rfl qs0))))) ?_
            exact (by have h := ih (q + 1) (by omega) (by omega); rw [near_f (Or.inl h_63)] at h; exact h)
          · refine R_iload dX8_rankOf_66 rfl ?_
            refine R_iload_n dX8_rankOf_68 rfl ?_
            refine R_icmp_eqN (tgt := 81) dX8_rankOf_69 (by decide) (by omega) (by omega) (fun h_69 => ?_) (fun h_69 => ?_)
            · refine R_iconst (v := nI 0) dX8_rankOf_81 rfl ?_
              refine R_iaddN dX8_rankOf_82 ?_
              refine R_istore_n (L' := [(0, .ref 0), (1, .int (nI c)), (2, .int (nI o)), (3, .int (nI ((rnkTo d c o q) + 0))), (4, .int (nI q)), (5, .int (nI 0))]) dX8_rankOf_83 (by decide) (qs1 rfl (qs1 rfl (qs1 rfl (qs1 rfl (qs1 rfl (qs1 rfl qs0)))))) ?_
              refine R_iincN (n := 1) (L' := [(0, .ref 0), (1, .int (nI c)), (2, .int (nI o)), (3, .int (nI ((rnkTo d c o q) + 0))), (4, .int (nI (q + 1))), (5, .int (nI 0))]) dX8_rankOf_84 rfl (by decide) (qs1 rfl (qs1 rfl (qs1 rfl (qs1 rfl (qs1 rfl (qs1 rfl qs0)))))) ?_
              refine R_goto (tgt := 5) dX8_rankOf_87 (by decide) ?_
              refine R_ls (L' := [(0, .ref 0), (1, .int (nI c)), (2, .int (nI o)), (3, .int (nI ((rnkTo d c o q) + 0))), (4, .int (nI (q + 1)))]) (qs1 rfl (qs1 rfl (qs1 rfl (qs1 rfl (qs1 rfl qs0))))) ?_
              exact (by have h := ih (q + 1) (by omega) (by omega); rw [near_f (Or.inr ⟨(by first | exact h_27 | exact Int32.not_lt.mpr h_27), Or.inl h_43⟩)] at h; exact h)
            · refine R_iload dX8_rankOf_72 rfl ?_
              refine R_if_eqN (tgt := 81) dX8_rankOf_74 (by decide) (by omega) (fun h_74 => ?_) (fun h_74 => by exact absurd h_74 (by decide))
              refine R_iconst (v := nI 0) dX8_rankOf_81 rfl ?_
              refine R_iaddN dX8_rankOf_82 ?_
              refine R_istore_n (L' := [(0, .ref 0), (1, .int (nI c)), (2, .int (nI o)), (3, .int (nI ((rnkTo d c o q) + 0))), (4, .int (nI q)), (5, .int (nI 0))]) dX8_rankOf_83 (by decide) (qs1 rfl (qs1 rfl (qs1 rfl (qs1 rfl (qs1 rfl (qs1 rfl qs0)))))) ?_
              refine R_iincN (n := 1) (L' := [(0, .ref 0), (1, .int (nI c)), (2, .int (nI o)), (3, .int (nI ((rnkTo d c o q) + 0))), (4, .int (nI (q + 1))), (5, .int (nI 0))]) dX8_rankOf_84 rfl (by decide) (qs1 rfl (qs1 rfl (qs1 rfl (qs1 rfl (qs1 rfl (qs1 rfl qs0)))))) ?_
              refine R_goto (tgt := 5) dX8_rankOf_87 (by decide) ?_
              refine R_ls (L' := [(0, .ref 0), (1, .int (nI c)), (2, .int (nI o)), (3, .int (nI ((rnkTo d c o q) + 0))), (4, .int (nI (q + 1)))]) (qs1 rfl (qs1 rfl (qs1 rfl (qs1 rfl (qs1 rfl qs0))))) ?_
              exact (by have h := ih (q + 1) (by omega) (by omega); rw [near_f (Or.inr ⟨(by first | exact h_27 | exact Int32.not_lt.mpr h_27), Or.inl h_43⟩)] at h; exact h)
        · refine R_iload dX8_rankOf_46 rfl ?_
          refine R_iload_n dX8_rankOf_48 rfl ?_
          refine R_icmp_geN (tgt := 56) dX8_rankOf_49 (by decide) (by omega) (by omega) (fun h_49 => ?_) (fun h_49 => ?_)
          · refine R_iconst (v := nI 0) dX8_rankOf_56 rfl ?_
            refine R_istore (L' := [(0, .ref 0), (1, .int (nI c)), (2, .int (nI o)), (3, .int (nI (rnkTo d c o q))), (4, .int (nI q)), (5, .int (nI 0))]) dX8_rankOf_57 (by decide) (qs1 rfl (qs1 rfl (qs1 rfl (qs1 rfl (qs1 rfl (qs1 rfl qs0)))))) ?_
            refine R_iload_n dX8_rankOf_59 rfl ?_
            refine R_iload dX8_rankOf_60 rfl ?_
            refine R_iload_n dX8_rankOf_62 rfl ?_
            refine R_icmp_eqN (tgt := 81) dX8_rankOf_63 (by decide) (by omega) (by omega) (fun h_63 => ?_) (fun h_63 => ?_)
            · refine R_iconst (v := nI 0) dX8_rankOf_81 rfl ?_
              refine R_iaddN dX8_rankOf_82 ?_
              refine R_istore_n (L' := [(0, .ref 0), (1, .int (nI c)), (2, .int (nI o)), (3, .int (nI ((rnkTo d c o q) + 0))), (4, .int (nI q)), (5, .int (nI 0))]) dX8_rankOf_83 (by decide) (qs1 rfl (qs1 rfl (qs1 rfl (qs1 rfl (qs1 rfl (qs1 rfl qs0)))))) ?_
              refine R_iincN (n := 1) (L' := [(0, .ref 0), (1, .int (nI c)), (2, .int (nI o)), (3, .int (nI ((rnkTo d c o q) + 0))), (4, .int (nI (q + 1))), (5, .int (nI 0))]) dX8_rankOf_84 rfl (by decide) (qs1 rfl (qs1 rfl (qs1 rfl (qs1 rfl (qs1 rfl (qs1 rfl qs0)))))) ?_
              refine R_goto (tgt := 5) dX8_rankOf_87 (by decide) ?_
              refine R_ls (L' := [(0, .ref 0), (1, .int (nI c)), (2, .int (nI o)), (3, .int (nI ((rnkTo d c o q) + 0))), (4, .int (nI (q + 1)))]) (qs1 rfl (qs1 rfl (qs1 rfl (qs1 rfl (qs1 rfl qs0))))) ?_
              exact (by have h := ih (q + 1) (by omega) (by omega); rw [near_f (Or.inl h_63)] at h; exact h)
            · refine R_iload dX8_rankOf_66 rfl ?_
              refine R_iload_n dX8_rankOf_68 rfl ?_
              refine R_icmp_eqN (tgt := 81) dX8_rankOf_69 (by decide) (by omega) (by omega) (fun h_69 => ?_) (fun h_69 => ?_)
              · refine R_iconst (v := nI 0) dX8_rankOf_81 rfl ?_
                refine R_iaddN dX8_rankOf_82 ?_
                refine R_istore_n (L' := [(0, .ref 0), (1, .int (nI c)), (2, .int (nI o)), (3, .int (nI ((rnkTo d c o q) + 0))), (4, .int (nI q)), (5, .int (nI 0))]) dX8_rankOf_83 (by decide) (qs1 rfl (qs1 rfl (qs1 rfl (qs1 rfl (qs1 rfl (qs1 rfl qs0)))))) ?_
                refine R_iincN (n := 1) (L' := [(0, .ref 0), (1, .int (nI c)), (2, .int (nI o)), (3, .int (nI ((rnkTo d c o q) + 0))), (4, .int (nI (q + 1))), (5, .int (nI 0))]) dX8_rankOf_84 rfl (by decide) (qs1 rfl (qs1 rfl (qs1 rfl (qs1 rfl (qs1 rfl (qs1 rfl qs0)))))) ?_
                refine R_goto (tgt := 5) dX8_rankOf_87 (by decide) ?_
                refine R_ls (L' := [(0, .ref 0), (1, .int (nI c)), (2, .int (nI o)), (3, .int (nI ((rnkTo d c o q) + 0))), (4, .int (nI (q + 1)))]) (qs1 rfl (qs1 rfl (qs1 rfl (qs1 rfl (qs1 rfl qs0))))) ?_
                exact (by have h := ih (q + 1) (by omega) (by omega); rw [near_f (Or.inr ⟨(by first | exact h_27 | exact Int32.not_lt.mpr h_27), Or.inr (by omega)⟩)] at h; exact h)
              · refine R_iload dX8_rankOf_72 rfl ?_
                refine R_if_eqN (tgt := 81) dX8_rankOf_74 (by decide) (by omega) (fun h_74 => ?_) (fun h_74 => by exact absurd h_74 (by decide))
                refine R_iconst (v := nI 0) dX8_rankOf_81 rfl ?_
                refine R_iaddN dX8_rankOf_82 ?_
                refine R_istore_n (L' := [(0, .ref 0), (1, .int (nI c)), (2, .int (nI o)), (3, .int (nI ((rnkTo d c o q) + 0))), (4, .int (nI q)), (5, .int (nI 0))]) dX8_rankOf_83 (by decide) (qs1 rfl (qs1 rfl (qs1 rfl (qs1 rfl (qs1 rfl (qs1 rfl qs0)))))) ?_
                refine R_iincN (n := 1) (L' := [(0, .ref 0), (1, .int (nI c)), (2, .int (nI o)), (3, .int (nI ((rnkTo d c o q) + 0))), (4, .int (nI (q + 1))), (5, .int (nI 0))]) dX8_rankOf_84 rfl (by decide) (qs1 rfl (qs1 rfl (qs1 rfl (qs1 rfl (qs1 rfl (qs1 rfl qs0)))))) ?_
                refine R_goto (tgt := 5) dX8_rankOf_87 (by decide) ?_
                refine R_ls (L' := [(0, .ref 0), (1, .int (nI c)), (2, .int (nI o)), (3, .int (nI ((rnkTo d c o q) + 0))), (4, .int (nI (q + 1)))]) (qs1 rfl (qs1 rfl (qs1 rfl (qs1 rfl (qs1 rfl qs0))))) ?_
                exact (by have h := ih (q + 1) (by omega) (by omega); rw [near_f (Or.inr ⟨(by first | exact h_27 | exact Int32.not_lt.mpr h_27), Or.inr (by omega)⟩)] at h; exact h)
          · refine R_iconst (v := nI 1) dX8_rankOf_52 rfl ?_
            refine R_goto (tgt := 57) dX8_rankOf_53 (by decide) ?_
            refine R_istore (L' := [(0, .ref 0), (1, .int (nI c)), (2, .int (nI o)), (3, .int (nI (rnkTo d c o q))), (4, .int (nI q)), (5, .int (nI 1))]) dX8_rankOf_57 (by decide) (qs1 rfl (qs1 rfl (qs1 rfl (qs1 rfl (qs1 rfl (qs1 rfl qs0)))))) ?_
            refine R_iload_n dX8_rankOf_59 rfl ?_
            refine R_iload dX8_rankOf_60 rfl ?_
            refine R_iload_n dX8_rankOf_62 rfl ?_
            refine R_icmp_eqN (tgt := 81) dX8_rankOf_63 (by decide) (by omega) (by omega) (fun h_63 => ?_) (fun h_63 => ?_)
            · refine R_iconst (v := nI 0) dX8_rankOf_81 rfl ?_
              refine R_iaddN dX8_rankOf_82 ?_
              refine R_istore_n (L' := [(0, .ref 0), (1, .int (nI c)), (2, .int (nI o)), (3, .int (nI ((rnkTo d c o q) + 0))), (4, .int (nI q)), (5, .int (nI 1))]) dX8_rankOf_83 (by decide) (qs1 rfl (qs1 rfl (qs1 rfl (qs1 rfl (qs1 rfl (qs1 rfl qs0)))))) ?_
              refine R_iincN (n := 1) (L' := [(0, .ref 0), (1, .int (nI c)), (2, .int (nI o)), (3, .int (nI ((rnkTo d c o q) + 0))), (4, .int (nI (q + 1))), (5, .int (nI 1))]) dX8_rankOf_84 rfl (by decide) (qs1 rfl (qs1 rfl (qs1 rfl (qs1 rfl (qs1 rfl (qs1 rfl qs0)))))) ?_
              refine R_goto (tgt := 5) dX8_rankOf_87 (by decide) ?_
              refine R_ls (L' := [(0, .ref 0), (1, .int (nI c)), (2, .int (nI o)), (3, .int (nI ((rnkTo d c o q) + 0))), (4, .int (nI (q + 1)))]) (qs1 rfl (qs1 rfl (qs1 rfl (qs1 rfl (qs1 rfl qs0))))) ?_
              exact (by have h := ih (q + 1) (by omega) (by omega); rw [near_f (Or.inl h_63)] at h; exact h)
            · refine R_iload dX8_rankOf_66 rfl ?_
              refine R_iload_n dX8_rankOf_68 rfl ?_
              refine R_icmp_eqN (tgt := 81) dX8_rankOf_69 (by decide) (by omega) (by omega) (fun h_69 => ?_) (fun h_69 => ?_)
              · refine R_iconst (v := nI 0) dX8_rankOf_81 rfl ?_
                refine R_iaddN dX8_rankOf_82 ?_
                refine R_istore_n (L' := [(0, .ref 0), (1, .int (nI c)), (2, .int (nI o)), (3, .int (nI ((rnkTo d c o q) + 0))), (4, .int (nI q)), (5, .int (nI 1))]) dX8_rankOf_83 (by decide) (qs1 rfl (qs1 rfl (qs1 rfl (qs1 rfl (qs1 rfl (qs1 rfl qs0)))))) ?_
                refine R_iincN (n := 1) (L' := [(0, .ref 0), (1, .int (nI c)), (2, .int (nI o)), (3, .int (nI ((rnkTo d c o q) + 0))), (4, .int (nI (q + 1))), (5, .int (nI 1))]) dX8_rankOf_84 rfl (by decide) (qs1 rfl (qs1 rfl (qs1 rfl (qs1 rfl (qs1 rfl (qs1 rfl qs0)))))) ?_
                refine R_goto (tgt := 5) dX8_rankOf_87 (by decide) ?_
                refine R_ls (L' := [(0, .ref 0), (1, .int (nI c)), (2, .int (nI o)), (3, .int (nI ((rnkTo d c o q) + 0))), (4, .int (nI (q + 1)))]) (qs1 rfl (qs1 rfl (qs1 rfl (qs1 rfl (qs1 rfl qs0))))) ?_
                exact (by have h := ih (q + 1) (by omega) (by omega); rw [near_f (by exfalso; omega)] at h; exact h)
              · refine R_iload dX8_rankOf_72 rfl ?_
                refine R_if_eqN (tgt := 81) dX8_rankOf_74 (by decide) (by omega) (fun h_74 => by exact absurd h_74 (by decide)) (fun h_74 => ?_)
                refine R_iconst (v := nI 1) dX8_rankOf_77 rfl ?_
                refine R_goto (tgt := 82) dX8_rankOf_78 (by decide) ?_
                refine R_iaddN dX8_rankOf_82 ?_
                refine R_istore_n (L' := [(0, .ref 0), (1, .int (nI c)), (2, .int (nI o)), (3, .int (nI ((rnkTo d c o q) + 1))), (4, .int (nI q)), (5, .int (nI 1))]) dX8_rankOf_83 (by decide) (qs1 rfl (qs1 rfl (qs1 rfl (qs1 rfl (qs1 rfl (qs1 rfl qs0)))))) ?_
                refine R_iincN (n := 1) (L' := [(0, .ref 0), (1, .int (nI c)), (2, .int (nI o)), (3, .int (nI ((rnkTo d c o q) + 1))), (4, .int (nI (q + 1))), (5, .int (nI 1))]) dX8_rankOf_84 rfl (by decide) (qs1 rfl (qs1 rfl (qs1 rfl (qs1 rfl (qs1 rfl (qs1 rfl qs0)))))) ?_
                refine R_goto (tgt := 5) dX8_rankOf_87 (by decide) ?_
                refine R_ls (L' := [(0, .ref 0), (1, .int (nI c)), (2, .int (nI o)), (3, .int (nI ((rnkTo d c o q) + 1))), (4, .int (nI (q + 1)))]) (qs1 rfl (qs1 rfl (qs1 rfl (qs1 rfl (qs1 rfl qs0))))) ?_
                exact (by have h := ih (q + 1) (by omega) (by omega); rw [near_t h_63 (Or.inr ⟨h_43, by omega⟩)] at h; exact h)
set_option maxRecDepth 100000 in
set_option maxHeartbeats 4000000 in
theorem m_rank {M : qMem} {d : dT} (hX : MR M d) (hB : dB d) {c o : Nat} (hc : c < dK d) (ho : o < dK d) : qSem 1 mX8_rankOf [.ref 0, .int (nI c), .int (nI o)] M (qr (nI (rnk d c o)) M) := by
  have hK6 := hB.2.1
  have hY16 := hB.1
  refine qSem.of (by decide +kernel) (Nat.le_of_ble_eq_true rfl) (fun w => ?_)
  refine R_ls (L' := [(0, .ref 0), (1, .int (nI c)), (2, .int (nI o))]) (qs1 rfl (qs1 rfl (qs1 rfl qs0))) ?_
  refine R_iconst (v := nI 0) dX8_rankOf_0 rfl ?_
  refine R_istore_n (L' := [(0, .ref 0), (1, .int (nI c)), (2, .int (nI o)), (3, .int (nI 0))]) dX8_rankOf_1 (by decide) (qs1 rfl (qs1 rfl (qs1 rfl (qs1 rfl qs0)))) ?_
  refine R_iconst (v := nI 0) dX8_rankOf_2 rfl ?_
  refine R_istore (L' := [(0, .ref 0), (1, .int (nI c)), (2, .int (nI o)), (3, .int (nI 0)), (4, .int (nI 0))]) dX8_rankOf_3 (by decide) (qs1 rfl (qs1 rfl (qs1 rfl (qs1 rfl (qs1 rfl qs0))))) ?_
  refine R_ls (L' := [(0, .ref 0), (1, .int (nI c)), (2, .int (nI o)), (3, .int (nI 0)), (4, .int (nI 0))]) (qs1 rfl (qs1 rfl (qs1 rfl (qs1 rfl (qs1 rfl qs0))))) ?_
  exact (m_rankL hX hB hc ho (dK d + 2) 0 (by omega) (Nat.zero_le _))
set_option maxRecDepth 100000 in
set_option maxHeartbeats 4000000 in
theorem m_pair {M : qMem} {d : dT} (hX : MR M d) (hB : dB d) {u v : Nat} (hu : u < dK d) (hv : v < dK d) : qSem 1 mX8_isPair [.ref 0, .int (nI u), .int (nI v)] M (qb (prb d u v = true) M) := by
  have hK6 := hB.2.1
  have hY16 := hB.1
  have hR1 := hB.2.2.2.2.1
  refine qSem.of (by decide +kernel) (Nat.le_of_ble_eq_true rfl) (fun w => ?_)
  refine R_ls (L' := [(0, .ref 0), (1, .int (nI u)), (2, .int (nI v))]) (qs1 rfl (qs1 rfl (qs1 rfl qs0))) ?_
  refine R_aload_n dX8_isPair_0 rfl ?_
  refine R_iload_n dX8_isPair_1 rfl ?_
  refine R_iload_n dX8_isPair_2 rfl ?_
  refine R_callV (mc := mX8_rankOf) (As := [_, _]) (r := 0) dX8_isPair_3 lm_RX8_207 mv_X8_rankOf rfl (by decide) rfl rfl rfl rfl (Nat.le_of_ble_eq_true rfl) (m_rank hX hB (by omega) (by omega)) ?_
  rintro _ _ ⟨rfl, rfl⟩
  have hrkuv : rnk d u v ≤ dK d := rnkTo_le d _ _ _
  refine R_aload_n dX8_isPair_6 rfl ?_
  refine R_getR dX8_isPair_7 lg_RX8_19 (by decide) rfl rfl ?_
  refine R_bipush (v := nI 98) dX8_isPair_10 rfl ?_
  refine R_ialdN dX8_isPair_12 (by decide) rfl (by omega) (by decide) ?_
  refine R_top (y := nI (dR d 1)) (hX.r (k := 1) (by omega)) ?_
  refine R_icmp_ltN (tgt := 32) dX8_isPair_13 (by decide) (by omega) (by omega) (fun h_13 => ?_) (fun h_13 => ?_)
  · refine R_iconst (v := nI 1) dX8_isPair_32 rfl ?_
    refine R_goto (tgt := 37) dX8_isPair_33 (by decide) ?_
    refine R_ireturn dX8_isPair_37 rfl rfl ?_
    refine ⟨rfl, ?_⟩
    rw [prb_iff]
    first | exact Or.inl ⟨rfl, Or.inl (by omega)⟩ | exact Or.inl ⟨rfl, Or.inr (by omega)⟩ | exact Or.inr ⟨rfl, by omega⟩
  · refine R_aload_n dX8_isPair_16 rfl ?_
    refine R_iload_n dX8_isPair_17 rfl ?_
    refine R_iload_n dX8_isPair_18 rfl ?_
    refine R_callV (mc := mX8_rankOf) (As := [_, _]) (r := 0) dX8_isPair_19 lm_RX8_207 mv_X8_rankOf rfl (by decide) rfl rfl rfl rfl (Nat.le_of_ble_eq_true rfl) (m_rank hX hB (by omega) (by omega)) ?_
    rintro _ _ ⟨rfl, rfl⟩
    have hrkvu : rnk d v u ≤ dK d := rnkTo_le d _ _ _
    refine R_aload_n dX8_isPair_22 rfl ?_
    refine R_getR dX8_isPair_23 lg_RX8_19 (by decide) rfl rfl ?_
    refine R_bipush (v := nI 98) dX8_isPair_26 rfl ?_
    refine R_ialdN dX8_isPair_28 (by decide) rfl (by omega) (by decide) ?_
    refine R_top (y := nI (dR d 1)) (hX.r (k := 1) (by omega)) ?_
    refine R_icmp_geN (tgt := 36) dX8_isPair_29 (by decide) (by omega) (by omega) (fun h_29 => ?_) (fun h_29 => ?_)
    · refine R_iconst (v := nI 0) dX8_isPair_36 rfl ?_
      refine R_ireturn dX8_isPair_37 rfl rfl ?_
      refine ⟨rfl, ?_⟩
      rw [prb_iff]
      first | exact Or.inl ⟨rfl, Or.inl (by omega)⟩ | exact Or.inl ⟨rfl, Or.inr (by omega)⟩ | exact Or.inr ⟨rfl, by omega⟩
    · refine R_iconst (v := nI 1) dX8_isPair_32 rfl ?_
      refine R_goto (tgt := 37) dX8_isPair_33 (by decide) ?_
      refine R_ireturn dX8_isPair_37 rfl rfl ?_
      refine ⟨rfl, ?_⟩
      rw [prb_iff]
      first | exact Or.inl ⟨rfl, Or.inl (by omega)⟩ | exact Or.inl ⟨rfl, Or.inr (by omega)⟩ | exact Or.inr ⟨rfl, by omega⟩
