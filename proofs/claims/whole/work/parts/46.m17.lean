
-- ===== the model: changes =====
theorem hA_trm (as : List aT) (x : aT) : (hA as x).reverse = x :: (trm as).reverse ∧ (hA as x).length = (trm as).length + 1 := by
  unfold hA trm
  constructor
  · rw [List.reverse_append]; rfl
  · rw [List.length_append]; rfl
theorem MI_ch {M K N : qMem} {s s' : sT} {x : aT} (hI : MI M s) (hs : sOk s) (hN : NT M K s) (hA' : sA s' = hA (sA s) x) (hX' : sX s' = sX s) (hu : und x (sD s', sG s') = (sD s, sG s)) (hP : MP M (sD s')) (hR : MRow N 4 0 (sD s')) (hL : ML N (sG s')) (e : ∀ o, o ≠ 4 → o ≠ 9 → N.1 o = K.1 o) : MI N s' := by
  obtain ⟨n1, n2, n3, n4, n5, n6, n7, n8⟩ := hN
  have e0 : ∀ k, k ≠ 13 → k ≠ 22 → N.1 0 k = M.1 0 k := fun k a b => by rw [e 0 (by decide) (by decide)]; exact n3 k a b
  have e1 : ∀ o, o ≠ 8 → o ≠ 0 → o ≠ 4 → o ≠ 9 → N.1 o = M.1 o := fun o a b c d => by rw [e o c d]; exact n1 o a b
  have ht := hA_trm (sA s) x
  refine ⟨⟨⟨by rw [e0 2 (by decide) (by decide)]; exact hP.1, by rw [e0 3 (by decide) (by decide)]; exact hP.2.1, fun c hc => by rw [e1 2 (by decide) (by decide) (by decide) (by decide)]; exact hP.2.2.1 c hc, fun c hc => by rw [e1 3 (by decide) (by decide) (by decide) (by decide)]; exact hP.2.2.2 c hc⟩, hR⟩, hL, ?_, ?_, ?_, fun z => absurd (by rw [e 0 (by decide) (by decide), n4]; rfl) z⟩
  · rw [hX']; exact hI.2.2.1.off (e0 0 (by decide) (by decide)) (e1 1 (by decide) (by decide) (by decide) (by decide))
  · rw [e 0 (by decide) (by decide), hA', ht.2]; exact n5
  · rw [hA', ht.1]
    have e8 := e 8 (by decide) (by decide)
    show MRow N 8 (102 * (trm (sA s)).reverse.length) (und x (sD s', sG s')).1 ∧ N.1 8 (102 * (trm (sA s)).reverse.length + 101) = nI (und x (sD s', sG s')).2.length ∧ MB N (und x (sD s', sG s')) (trm (sA s)).reverse
    rw [hu, List.length_reverse]
    exact ⟨n7.off e8, by rw [e8]; exact n8, n6.off e8⟩
theorem und_V {s : sT} (hs : sOk s) {c t : Nat} {v : Option Int32} : und (0, c, t, encX (dV (sD s) c t)) (sD (chV s c t v), sG (chV s c t v)) = (sD s, sG s) := by
  show (setV (setV (sD s) c t v) c t (decX (encX (dV (sD s) c t))), sG s) = (sD s, sG s)
  rw [decX_enc (fun v e => hs.1.2.2.1 _ _ v e), setV_back]
theorem und_R {s : sT} (hs : sOk s) {k v : Nat} (hk : k < 5) : und (chRa s k) (sD (chR s k v), sG (chR s k v)) = (sD s, sG s) := by
  unfold chRa
  have h9 := rB_9 (rB_now hs.1 hk)
  by_cases h4 : k = 4
  · subst h4
    show (setR (setR (sD s) 4 v) 4 (nI (dR (sD s) 4)).toNatClampNeg, sG s) = (sD s, sG s)
    rw [nI_clamp (by omega), setR_back]
  · rw [if_neg h4]
    show (setR (setR (sD s) k v) k (nI (dR (sD s) k)).toNatClampNeg, sG s) = (sD s, sG s)
    rw [nI_clamp (by omega), setR_back]
theorem MI_chV {M K : qMem} {s : sT} (hI : MI M s) (hs : sOk s) {c t : Nat} {v : Option Int32} {x : Int32} (hc : c < dK (sD s)) (ht : t < dY (sD s)) (hx : x = encM v) (hN : NT M K s) : MI (qIs K 4 (16 * c + t) x) (chV s c t v) := by
  have hK6 := hs.1.2.1
  have hY16 := hs.1.1
  have e4 := hN.1 4 (by decide) (by decide)
  have e9 := hN.1 9 (by decide) (by decide)
  refine MI_ch (x := (0, c, t, encX (dV (sD s) c t))) hI hs hN rfl rfl (und_V hs) hI.1.1 ⟨fun a b ha hb => ?_, ?_, fun k hk => ?_⟩ (hI.2.1.off ?_ ?_) (fun o h1 h2 => by rw [qIs_no h1])
  · have ha : a < dK (sD s) := ha
    have hb : b < dY (sD s) := hb
    rw [Nat.zero_add, qIs_1, e4]
    show _ = encM (dV (setV (sD s) c t v) a b)
    rw [dV_set]
    by_cases q : a = c ∧ b = t
    · rw [if_pos q, if_pos ⟨rfl, by rw [q.1, q.2]⟩]; exact hx
    · rw [if_neg q, if_neg (by omega)]; exact hI.1.v ha hb
  · rw [qIs_nk (by omega), e4]; exact hI.1.2.2.1
  · rw [qIs_nk (by omega), e4]; exact hI.1.2.2.2 k hk
  · rw [qIs_nk (by omega), e4]
  · rw [qIs_no (by decide)]; exact e9
theorem MI_chR {M K : qMem} {s : sT} (hI : MI M s) (hs : sOk s) {k v : Nat} (hk : k < 5) (hN : NT M K s) {i : Nat} (hi : i = if k = 4 then 96 else 97 + k) : MI (qIs K 4 i (nI v)) (chR s k v) := by
  have hK6 := hs.1.2.1
  have hY16 := hs.1.1
  have e4 := hN.1 4 (by decide) (by decide)
  have e9 := hN.1 9 (by decide) (by decide)
  have eR : ∀ j, dR (setR (sD s) k v) j = if j = k then v else dR (sD s) j := fun _ => rfl
  have hi2 : (k = 4 ∧ i = 96) ∨ (k < 4 ∧ i = 97 + k) := by split at hi <;> omega
  refine MI_ch (x := chRa s k) hI hs hN rfl rfl (und_R hs hk) hI.1.1 ⟨fun a b ha hb => ?_, ?_, fun j hj => ?_⟩ (hI.2.1.off ?_ ?_) (fun o h1 h2 => by rw [qIs_no h1])
  · have ha : a < dK (sD s) := ha
    have hb : b < dY (sD s) := hb
    rw [qIs_nk (by omega), e4]; exact hI.1.2.1 a b ha hb
  · show (qIs K 4 i (nI v)).1 4 (0 + 96) = nI (dR (setR (sD s) k v) 4)
    rw [qIs_1, e4, eR]
    by_cases q : k = 4
    · rw [if_pos (by omega), if_pos q.symm]
    · rw [if_neg (by omega), if_neg (fun z => q z.symm)]; exact hI.1.2.2.1
  · show (qIs K 4 i (nI v)).1 4 (0 + (97 + j)) = nI (dR (setR (sD s) k v) j)
    rw [qIs_1, e4, eR]
    by_cases q : j = k
    · rw [if_pos (by omega), if_pos q]
    · rw [if_neg (by omega), if_neg q]; exact hI.1.2.2.2 j hj
  · rw [qIs_nk (by omega), e4]
  · rw [qIs_no (by decide)]; exact e9
theorem in_val {x : Int32} : (-9999 ≤ x.toInt64 ∧ x.toInt64 ≤ 9999) ↔ okI x := by
  rw [show (-9999 : Int64) = (-9999 : Int32).toInt64 from rfl, show (9999 : Int64) = (9999 : Int32).toInt64 from rfl, in64]
theorem encXM {a : Option Int32} {x : Int32} (ha : ∀ v, a = some v → okv v) (hx : okv x) : encM a = x ↔ encX a = x := by
  cases a with
  | none => exact ⟨fun e => absurd e.symm (okv_M hx), fun e => absurd e.symm (okv_X hx)⟩
  | some v => exact Iff.rfl
set_option maxRecDepth 100000 in
set_option maxHeartbeats 4000000 in
theorem p_set {M : qMem} {s : sT} (hI : MI M s) (hs : sOk s) {c t v : Int32} : qSem 1 mX8_set [.ref 0, .int (c), .int (t), .int (v)] M (fun r N => r = some (.int (rSet s c t v).1) ∧ MI N (rSet s c t v).2) := by
  have hX := hI.1
  have hB := hs.1
  have hK6 := hB.2.1
  have hY16 := hB.1
  have hY4 := hs.2.1.1
  have hK2 := hs.2.1.2
  refine qSem.of (by decide +kernel) (Nat.le_of_ble_eq_true rfl) (fun w => ?_)
  refine R_ls (L' := [(0, .ref 0), (1, .int (c)), (2, .int (t)), (3, .int (v))]) (qs1 rfl (qs1 rfl (qs1 rfl (qs1 rfl qs0)))) ?_
  refine R_aload_n dX8_set_0 rfl ?_
  refine R_iload_n dX8_set_1 rfl ?_
  refine R_callV (mc := mX8_isStation) (As := [_]) (r := 0) dX8_set_2 lm_RX8_161 mv_X8_isStation rfl (by decide) rfl rfl rfl rfl (Nat.le_of_ble_eq_true rfl) (m_isSta hX (by omega) (by omega)) ?_
  rintro _ _ ⟨rfl, ⟨rfl, hkc⟩ | ⟨rfl, hkc⟩⟩
  · have hkc2 : inN c (dK (sD s)) := hkc
    obtain ⟨cc, hcc, rfl⟩ := inN_o (by omega) hkc2
    refine R_if_eqN (tgt := 30) dX8_set_5 (by decide) (by omega) (fun h_5 => by exact absurd h_5 (by decide)) (fun h_5 => ?_)
    refine R_aload_n dX8_set_8 rfl ?_
    refine R_iload_n dX8_set_9 rfl ?_
    refine R_callV (mc := mX8_isYear) (As := [_]) (r := 0) dX8_set_10 lm_RX8_171 mv_X8_isYear rfl (by decide) rfl rfl rfl rfl (Nat.le_of_ble_eq_true rfl) (m_isYea hX (by omega) (by omega)) ?_
    rintro _ _ ⟨rfl, ⟨rfl, hkt⟩ | ⟨rfl, hkt⟩⟩
    · have hkt2 : inN t (dY (sD s)) := hkt
      obtain ⟨ct, hct, rfl⟩ := inN_o (by omega) hkt2
      refine R_if_eqN (tgt := 30) dX8_set_13 (by decide) (by omega) (fun h_13 => by exact absurd h_13 (by decide)) (fun h_13 => ?_)
      refine R_iload_n dX8_set_16 rfl ?_
      refine R_i2l dX8_set_17 ?_
      refine R_ldc2 dX8_set_18 lc_RX8_177 ?_
      refine R_ldc2 dX8_set_21 lc_RX8_179 ?_
      refine R_callS (mc := mX8_in) (As := [_, _, _]) dX8_set_24 lm_RX8_98 mv_X8_in rfl rfl rfl (Nat.le_of_ble_eq_true rfl) m_in ?_
      rintro _ _ ⟨rfl, ⟨rfl, hq⟩ | ⟨rfl, hq⟩⟩
      · have hval := in_val.mp hq
        have hok := okv_iff.mpr hval
        refine R_if_neN (tgt := 32) dX8_set_27 (by decide) (by omega) (fun h_27 => ?_) (fun h_27 => by exact absurd h_27 (by decide))
        refine R_aload_n dX8_set_32 rfl ?_
        refine R_iload_n dX8_set_33 rfl ?_
        refine R_iload_n dX8_set_34 rfl ?_
        refine R_callV (mc := mX8_valueOf) (As := [_, _]) (r := 0) dX8_set_35 lm_RX8_164 mv_X8_valueOf rfl (by decide) rfl rfl rfl rfl (Nat.le_of_ble_eq_true rfl) (m_val hX hB hcc hct) ?_
        rintro _ _ ⟨rfl, rfl⟩
        refine R_iload_n dX8_set_38 rfl ?_
        refine R_icmp_ne (tgt := 47) dX8_set_39 (by decide) (fun h_39 => ?_) (fun h_39 => ?_)
        · rw [encXM (fun v e => hB.2.2.1 _ _ v e) hok] at h_39
          refine R_aload_n dX8_set_47 rfl ?_
          refine R_bipush (v := nI 16) dX8_set_48 rfl ?_
          refine R_iload_n dX8_set_50 rfl ?_
          refine R_imulN dX8_set_51 ?_
          refine R_iload_n dX8_set_52 rfl ?_
          refine R_iaddN dX8_set_53 ?_
          refine R_iload_n dX8_set_54 rfl ?_
          refine R_callV (mc := mX8_change) (As := [_, _]) (r := 0) dX8_set_55 lm_RX8_181 mv_X8_change rfl (by decide) rfl rfl rfl rfl (Nat.le_of_ble_eq_true rfl) (m_change hI hs (by omega)) ?_
          rintro _ _ ⟨rfl, K2, hN, rfl⟩
          refine R_callS (mc := mX8_told) (As := [_]) dX8_set_58 lm_RX8_174 mv_X8_told rfl rfl rfl (Nat.le_of_ble_eq_true rfl) (m_told (o := dV (sD s) cc ct) (hX.v hcc hct) (fun v e => hB.2.2.1 _ _ v e)) ?_
          rintro _ _ ⟨rfl, rfl⟩
          refine R_ireturn dX8_set_61 rfl rfl ?_
          refine ⟨?_, ?_⟩ <;> unfold rSet <;> rw [if_pos ⟨⟨hkc2, hkt2⟩, hval⟩, kn_n (by omega), kn_n (by omega), if_neg h_39]
          exact MI_chV hI hs hcc hct rfl hN
        · have h_39b := (encXM (fun v e => hB.2.2.1 _ _ v e) hok).mp (by first | exact h_39 | exact Decidable.not_not.mp h_39)
          refine R_bipush (v := -2) dX8_set_42 rfl ?_
          refine R_goto (tgt := 61) dX8_set_44 (by decide) ?_
          refine R_ireturn dX8_set_61 rfl rfl ?_
          refine ⟨?_, ?_⟩ <;> unfold rSet <;> rw [if_pos ⟨⟨hkc2, hkt2⟩, hval⟩, kn_n (by omega), kn_n (by omega), if_pos h_39b]
          exact hI
      · have hval := fun z => hq (in_val.mpr z)
        refine R_if_neN (tgt := 32) dX8_set_27 (by decide) (by omega) (fun h_27 => by exact absurd h_27 (by decide)) (fun h_27 => ?_)
        refine R_iconst (v := -1) dX8_set_30 rfl ?_
        refine R_ireturn dX8_set_31 rfl rfl ?_
        refine ⟨?_, ?_⟩ <;> unfold rSet <;> rw [if_neg (fun h => by first | exact hkt h.1.2 | exact hkc h.1.1 | exact hval h.2)]
        exact hI
    · refine R_if_eqN (tgt := 30) dX8_set_13 (by decide) (by omega) (fun h_13 => ?_) (fun h_13 => by exact absurd h_13 (by decide))
      refine R_iconst (v := -1) dX8_set_30 rfl ?_
      refine R_ireturn dX8_set_31 rfl rfl ?_
      refine ⟨?_, ?_⟩ <;> unfold rSet <;> rw [if_neg (fun h => by first | exact hkt h.1.2 | exact hkc h.1.1 | exact hval h.2)]
      exact hI
  · refine R_if_eqN (tgt := 30) dX8_set_5 (by decide) (by omega) (fun h_5 => ?_) (fun h_5 => by exact absurd h_5 (by decide))
    refine R_iconst (v := -1) dX8_set_30 rfl ?_
    refine R_ireturn dX8_set_31 rfl rfl ?_
    refine ⟨?_, ?_⟩ <;> unfold rSet <;> rw [if_neg (fun h => by first | exact hkt h.1.2 | exact hkc h.1.1 | exact hval h.2)]
    exact hI
set_option maxRecDepth 100000 in
set_option maxHeartbeats 4000000 in
theorem p_lose {M : qMem} {s : sT} (hI : MI M s) (hs : sOk s) {c t : Int32} : qSem 1 mX8_lose [.ref 0, .int (c), .int (t)] M (fun r N => r = some (.int (rLose s c t).1) ∧ MI N (rLose s c t).2) := by
  have hX := hI.1
  have hB := hs.1
  have hK6 := hB.2.1
  have hY16 := hB.1
  have hY4 := hs.2.1.1
  have hK2 := hs.2.1.2
  refine qSem.of (by decide +kernel) (Nat.le_of_ble_eq_true rfl) (fun w => ?_)
  refine R_ls (L' := [(0, .ref 0), (1, .int (c)), (2, .int (t))]) (qs1 rfl (qs1 rfl (qs1 rfl qs0))) ?_
  refine R_aload_n dX8_lose_0 rfl ?_
  refine R_iload_n dX8_lose_1 rfl ?_
  refine R_callV (mc := mX8_isStation) (As := [_]) (r := 0) dX8_lose_2 lm_RX8_161 mv_X8_isStation rfl (by decide) rfl rfl rfl rfl (Nat.le_of_ble_eq_true rfl) (m_isSta hX (by omega) (by omega)) ?_
  rintro _ _ ⟨rfl, ⟨rfl, hkc⟩ | ⟨rfl, hkc⟩⟩
  · have hkc2 : inN c (dK (sD s)) := hkc
    obtain ⟨cc, hcc, rfl⟩ := inN_o (by omega) hkc2
    refine R_if_eqN (tgt := 16) dX8_lose_5 (by decide) (by omega) (fun h_5 => by exact absurd h_5 (by decide)) (fun h_5 => ?_)
    refine R_aload_n dX8_lose_8 rfl ?_
    refine R_iload_n dX8_lose_9 rfl ?_
    refine R_callV (mc := mX8_isYear) (As := [_]) (r := 0) dX8_lose_10 lm_RX8_171 mv_X8_isYear rfl (by decide) rfl rfl rfl rfl (Nat.le_of_ble_eq_true rfl) (m_isYea hX (by omega) (by omega)) ?_
    rintro _ _ ⟨rfl, ⟨rfl, hkt⟩ | ⟨rfl, hkt⟩⟩
    · have hkt2 : inN t (dY (sD s)) := hkt
      obtain ⟨ct, hct, rfl⟩ := inN_o (by omega) hkt2
      refine R_if_neN (tgt := 18) dX8_lose_13 (by decide) (by omega) (fun h_13 => ?_) (fun h_13 => by exact absurd h_13 (by decide))
      refine R_aload_n dX8_lose_18 rfl ?_
      refine R_iload_n dX8_lose_19 rfl ?_
      refine R_iload_n dX8_lose_20 rfl ?_
      refine R_callV (mc := mX8_isThere) (As := [_, _]) (r := 0) dX8_lose_21 lm_RX8_184 mv_X8_isThere rfl (by decide) rfl rfl rfl rfl (Nat.le_of_ble_eq_true rfl) (m_isT hX hB hcc hct) ?_
      rintro _ _ ⟨rfl, ⟨rfl, hp⟩ | ⟨rfl, hp⟩⟩
      · have hnn : ¬ dV (sD s) cc ct = none := fun z => by rw [z] at hp; cases hp
        refine R_if_eqN (tgt := 45) dX8_lose_24 (by decide) (by omega) (fun h_24 => by exact absurd h_24 (by decide)) (fun h_24 => ?_)
        refine R_aload_n dX8_lose_27 rfl ?_
        refine R_bipush (v := nI 16) dX8_lose_28 rfl ?_
        refine R_iload_n dX8_lose_30 rfl ?_
        refine R_imulN dX8_lose_31 ?_
        refine R_iload_n dX8_lose_32 rfl ?_
        refine R_iaddN dX8_lose_33 ?_
        refine R_ldc (v := nI 99999) dX8_lose_34 lc_RX8_83 ?_
        refine R_top (y := 99999) rfl ?_
        refine R_callV (mc := mX8_change) (As := [_, _]) (r := 0) dX8_lose_36 lm_RX8_181 mv_X8_change rfl (by decide) rfl rfl rfl rfl (Nat.le_of_ble_eq_true rfl) (m_change hI hs (by omega)) ?_
        rintro _ _ ⟨rfl, K2, hN, rfl⟩
        refine R_callS (mc := mX8_told) (As := [_]) dX8_lose_39 lm_RX8_174 mv_X8_told rfl rfl rfl (Nat.le_of_ble_eq_true rfl) (m_told (o := dV (sD s) cc ct) (hX.v hcc hct) (fun v e => hB.2.2.1 _ _ v e)) ?_
        rintro _ _ ⟨rfl, rfl⟩
        refine R_goto (tgt := 47) dX8_lose_42 (by decide) ?_
        refine R_ireturn dX8_lose_47 rfl rfl ?_
        refine ⟨?_, ?_⟩ <;> unfold rLose <;> rw [if_pos ⟨hkc2, hkt2⟩, kn_n (by omega), kn_n (by omega), if_neg hnn]
        exact MI_chV hI hs hcc hct rfl hN
      · have hnn : dV (sD s) cc ct = none := Option.not_isSome_iff_eq_none.mp hp
        refine R_if_eqN (tgt := 45) dX8_lose_24 (by decide) (by omega) (fun h_24 => ?_) (fun h_24 => by exact absurd h_24 (by decide))
        refine R_bipush (v := -2) dX8_lose_45 rfl ?_
        refine R_ireturn dX8_lose_47 rfl rfl ?_
        refine ⟨?_, ?_⟩ <;> unfold rLose <;> rw [if_pos ⟨hkc2, hkt2⟩, kn_n (by omega), kn_n (by omega), if_pos hnn]
        exact hI
    · refine R_if_neN (tgt := 18) dX8_lose_13 (by decide) (by omega) (fun h_13 => by exact absurd h_13 (by decide)) (fun h_13 => ?_)
      refine R_iconst (v := -1) dX8_lose_16 rfl ?_
      refine R_ireturn dX8_lose_17 rfl rfl ?_
      refine ⟨?_, ?_⟩ <;> unfold rLose <;> rw [if_neg (fun h => by first | exact hkt h.2 | exact hkc h.1)]
      exact hI
  · refine R_if_eqN (tgt := 16) dX8_lose_5 (by decide) (by omega) (fun h_5 => ?_) (fun h_5 => by exact absurd h_5 (by decide))
    refine R_iconst (v := -1) dX8_lose_16 rfl ?_
    refine R_ireturn dX8_lose_17 rfl rfl ?_
    refine ⟨?_, ?_⟩ <;> unfold rLose <;> rw [if_neg (fun h => by first | exact hkt h.2 | exact hkc h.1)]
    exact hI
set_option maxRecDepth 100000 in
set_option maxHeartbeats 4000000 in
theorem p_penalty {M : qMem} {s : sT} (hI : MI M s) (hs : sOk s) {p : Int32} : qSem 1 mX8_penalty [.ref 0, .int (p)] M (fun r N => r = some (.int (rPen s p).1) ∧ MI N (rPen s p).2) := by
  have hX := hI.1
  have hB := hs.1
  have hK6 := hB.2.1
  have hY16 := hB.1
  have hY4 := hs.2.1.1
  have hK2 := hs.2.1.2
  refine qSem.of (by decide +kernel) (Nat.le_of_ble_eq_true rfl) (fun w => ?_)
  refine R_ls (L' := [(0, .ref 0), (1, .int (p))]) (qs1 rfl (qs1 rfl qs0)) ?_
  refine R_iload_n dX8_penalty_0 rfl ?_
  refine R_i2l dX8_penalty_1 ?_
  refine R_lconst (v := 0) dX8_penalty_2 rfl ?_
  refine R_ldc2 dX8_penalty_3 lc_RX8_188 ?_
  refine R_callS (mc := mX8_in) (As := [_, _, _]) dX8_penalty_6 lm_RX8_98 mv_X8_in rfl rfl rfl (Nat.le_of_ble_eq_true rfl) m_in ?_
  rintro _ _ ⟨rfl, ⟨rfl, hp⟩ | ⟨rfl, hp⟩⟩
  · have hp2 := in_pen.mp hp
    obtain ⟨q, hq, rfl⟩ := isPn_o hp2
    refine R_if_neN (tgt := 14) dX8_penalty_9 (by decide) (by omega) (fun h_9 => ?_) (fun h_9 => by exact absurd h_9 (by decide))
    refine R_aload_n dX8_penalty_14 rfl ?_
    refine R_getR dX8_penalty_15 lg_RX8_19 (by decide) rfl rfl ?_
    refine R_bipush (v := nI 96) dX8_penalty_18 rfl ?_
    refine R_ialdN dX8_penalty_20 (by decide) rfl (by omega) (by decide) ?_
    refine R_top (y := nI (dR (sD s) 4)) hX.p ?_
    refine R_iload_n dX8_penalty_21 rfl ?_
    refine R_icmp_ne (tgt := 30) dX8_penalty_22 (by decide) (fun h_22 => ?_) (fun h_22 => ?_)
    · refine R_aload_n dX8_penalty_30 rfl ?_
      refine R_bipush (v := nI 96) dX8_penalty_31 rfl ?_
      refine R_iload_n dX8_penalty_33 rfl ?_
      refine R_callV (mc := mX8_change) (As := [_, _]) (r := 0) dX8_penalty_34 lm_RX8_181 mv_X8_change rfl (by decide) rfl rfl rfl rfl (Nat.le_of_ble_eq_true rfl) (m_change hI hs (by omega)) ?_
      rintro _ _ ⟨rfl, K2, hN, rfl⟩
      refine R_ireturn dX8_penalty_37 rfl rfl ?_
      refine ⟨?_, ?_⟩ <;> unfold rPen <;> rw [if_pos hp2, if_neg h_22]
      · exact congrArg (fun z => some (Value.int z)) hX.p
      rw [kn_n (by omega)]
      exact MI_chR hI hs (by decide) hN rfl
    · refine R_bipush (v := -2) dX8_penalty_25 rfl ?_
      refine R_goto (tgt := 37) dX8_penalty_27 (by decide) ?_
      refine R_ireturn dX8_penalty_37 rfl rfl ?_
      have h_22b : nI (dR (sD s) 4) = nI q := by first | exact h_22 | exact Decidable.not_not.mp h_22
      refine ⟨?_, ?_⟩ <;> unfold rPen <;> rw [if_pos hp2, if_pos h_22b]
      exact hI
  · have hp2 := fun z => hp (in_pen.mpr z)
    refine R_if_neN (tgt := 14) dX8_penalty_9 (by decide) (by omega) (fun h_9 => by exact absurd h_9 (by decide)) (fun h_9 => ?_)
    refine R_iconst (v := -1) dX8_penalty_12 rfl ?_
    refine R_ireturn dX8_penalty_13 rfl rfl ?_
    refine ⟨?_, ?_⟩ <;> unfold rPen <;> rw [if_neg hp2]
    exact hI
