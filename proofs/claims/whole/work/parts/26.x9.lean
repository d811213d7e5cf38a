
-- ===== the object under test: what changes it =====
-- the state after an operation
def chV (s : sT) (c t : Nat) (v : Option Int32) : sT := (setV (sD s) c t v, sG s, hA (sA s) (0, c, t, encX (dV (sD s) c t)), sX s)
def chR (s : sT) (k v : Nat) : sT := (setR (sD s) k v, sG s, hA (sA s) (if k = 4 then (1, 0, 0, nI (dR (sD s) 4)) else (2, k, 0, nI (dR (sD s) k))), sX s)
def chU (s : sT) (a : aT) : sT := ((und a (sD s, sG s)).1, (und a (sD s, sG s)).2, (sA s).dropLast, sX s)
def chM (s : sT) (c t : Nat) (z : Int32) : sT := (shV (sD s) c t z, sG s ++ [(nI c, nI t, z)], hA (sA s) (3, c, t, z), sX s)
def chX (s : sT) (x : List Nat) : sT := (sD s, sG s, sA s, x)
def rSet (s : sT) (c t v : Int32) : Int32 × sT := if ck (sD s) c t ∧ okI v then (if encX (dV (sD s) (kn c) (kn t)) = v then (-2, s) else (shown (dV (sD s) (kn c) (kn t)), chV s (kn c) (kn t) (some v))) else (-1, s)
def rLose (s : sT) (c t : Int32) : Int32 × sT := if ck (sD s) c t then (if dV (sD s) (kn c) (kn t) = none then (-2, s) else (shown (dV (sD s) (kn c) (kn t)), chV s (kn c) (kn t) none)) else (-1, s)
def rPen (s : sT) (p : Int32) : Int32 × sT := if isPn p = true then (if nI (dR (sD s) 4) = p then (-2, s) else (nI (dR (sD s) 4), chR s 4 (kn p))) else (-1, s)
def rlOk (k v : Int32) : Prop := inN k 4 ∧ qtab 0 (kn k) ≤ v ∧ v ≤ qtab 1 (kn k)
def rUndo (s : sT) : Int32 × sT := match (sA s).getLast? with
  | none => (-2, s)
  | some a => (nI ((sA s).length - 1), chU s a)
def rMake (s : sT) (c t : Int32) : Int32 × sT := if aEst (sD s) c t < 0 then (aEst (sD s) c t, s) else if okI (aEst (sD s) c t - nI 100000) then (aEst (sD s) c t, chV s (kn c) (kn t) (some (aEst (sD s) c t - nI 100000))) else (-3, s)
def dyN (p k : Nat) : Nat := ((7919 * p + 6151 * k + 1) * (7919 * p + 6151 * k + 1)) % 65521
def dyV (x : Nat) : Option Int32 := if x / 128 % 30 = 29 then none else some (nI (x / 128 % 30))
def rDay1 (s : sT) (x : Nat) : Nat × sT := if encX (dV (sD s) (x % dK (sD s)) (x / 8 % dY (sD s))) = encX (dyV x) then (0, s) else (1, chV s (x % dK (sD s)) (x / 8 % dY (sD s)) (dyV x))
def rDayTo (s : sT) (p : Nat) : Nat → Nat × sT
  | 0 => (0, s)
  | k + 1 => ((rDayTo s p k).1 + (rDay1 (rDayTo s p k).2 (dyN p k)).1, (rDay1 (rDayTo s p k).2 (dyN p k)).2)
def rDay (s : sT) (p n : Int32) : Int32 × sT := if (0 ≤ p ∧ p ≤ nI 9999) ∧ (1 ≤ n ∧ n ≤ nI 20) then (nI (rDayTo s (kn p) (kn n)).1, (rDayTo s (kn p) (kn n)).2) else (-1, s)
def cnS (d : dT) (c : Nat) (z : Int32) : Nat → Bool
  | 0 => true
  | b + 1 => cnS d c z b && (match dV d c b with | some v => decide (okI (v + z)) | none => true)
def rMd (s : sT) (i : Nat) : Int32 × sT := match (cuL (sD s))[i]? with
  | none => (-4, s)
  | some x => if 10 ≤ (sG s).length then (-3, s) else if x.2.2.2 = 0 ∨ cnS (sD s) x.1 x.2.2.2 x.2.1 = false then (-2, s) else (nI ((sG s).length + 1), chM s x.1 x.2.1 x.2.2.2)
def rMend (s : sT) (i : Int32) : Int32 × sT := if i < 0 then (-1, s) else rMd s (kn i)
def rMends : Nat → sT → Nat × sT
  | 0, s => (0, s)
  | n + 1, s => if 0 < (rMd s 0).1 then ((rMends n (rMd s 0).2).1 + 1, (rMends n (rMd s 0).2).2) else (0, s)
def rWrite (s : sT) (x : Int32) : Int32 × sT := if x < nI 32 ∨ nI 126 < x then (-1, s) else if (sX s).length < 200 then (nI ((sX s).length + 1), chX s (sX s ++ [kn x])) else (-3, s)
def rWipe (s : sT) : Int32 × sT := (nI (sX s).length, chX s [])
def rFault (s : sT) : Int32 := match rdR (sX s) with
  | .inl f => nI f
  | .inr _ => -4
def rLay (s : sT) : Int32 × sT := match rdR (sX s) with
  | .inl _ => (-2, s)
  | .inr d => if dK d < 2 then (-2, s) else (nI (dK d), (d, [], [], sX s))
-- what keeps the record in order
theorem HV_chV {s : sT} (h : HV (sD s, sG s) (sA s).reverse) (hB : dB (sD s)) {c t : Nat} {v : Option Int32} (hc : c < dK (sD s)) (ht : t < dY (sD s)) : HV (sD (chV s c t v), sG (chV s c t v)) (sA (chV s c t v)).reverse := by
  refine HV_add (q0 := (sD s, sG s)) h ?_ ?_ hB
  · show (setV (setV (sD s) c t v) c t (decX (encX (dV (sD s) c t))), sG s) = (sD s, sG s)
    rw [decX_enc (fun v e => hB.2.2.1 _ _ v e), setV_back]
  · refine ⟨hc, ht, ?_⟩
    show encX (dV (sD s) c t) = 1000000 ∨ okv (encX (dV (sD s) c t))
    cases e : dV (sD s) c t with
    | none => exact Or.inl rfl
    | some v => exact Or.inr (hB.2.2.1 _ _ v e)
theorem XR_put {K : qMem} {d : dT} (h : XR 14 K d) (hK : dK d ≤ 6) {c t : Nat} (hc : c < dK d) {v : Option Int32} {x ver : Int32} (hx : x = encX v) : XR 14 (qIs (qIs K (19 + c) t x) 14 7 ver) (setV d c t v) := by
  obtain ⟨h1, h2, h3, h4, h5, h6, h7⟩ := h
  refine ⟨?_, ?_, fun a ha => ?_, fun a ha => ?_, fun a b ha hb => ?_, ?_, fun k hk => ?_⟩
  · rw [qIs_nk (by omega), qIs_no (by omega)]; exact h1
  · rw [qIs_nk (by omega), qIs_no (by omega)]; exact h2
  · rw [qIs_no (by omega), qIs_no (by omega)]; exact h3 a ha
  · rw [qIs_no (by omega), qIs_no (by omega)]; exact h4 a ha
  · have ha : a < dK d := ha
    rw [qIs_no (by omega), dV_set, qIs_1]
    by_cases e : a = c ∧ b = t
    · rw [if_pos e, if_pos ⟨by omega, e.2⟩]; exact hx
    · rw [if_neg e, if_neg (fun z => e ⟨by omega, z.2⟩)]; exact h5 a b ha hb
  · rw [qIs_nk (by omega), qIs_no (by omega)]; exact h6
  · rw [qIs_no (by omega), qIs_no (by omega)]; exact h7 k hk
theorem encX_inj {a b : Option Int32} (ha : ∀ v, a = some v → okv v) (hb : ∀ v, b = some v → okv v) (h : encX a = encX b) : a = b := by
  rw [← decX_enc ha, ← decX_enc hb, h]
theorem XI_chV {vb : Nat} {M K : qMem} {s : sT} (hI : XI vb M s) (hvb : vb < 2000000000) {c t : Nat} {v : Option Int32} {x : Int32} (hc : c < dK (sD s)) (ht : t < dY (sD s)) (hv : ∀ z, v = some z → okv z) (hx : x = encX v) (hH : XH K (hAdd ((sA s).map aEnc) (nI 0, nI c, nI t, encX (dV (sD s) c t)))) (hO : qOff oHi M K) : XI (vb + 1) (qIs (qIs K (19 + c) t x) 14 7 (K.1 14 7 + nI 1)) (chV s c t v) := by
  have e : ∀ o, ¬ (90 ≤ o ∧ o < 96) → K.1 o = M.1 o := fun o ho => (hO o ho).1
  have e2 : ∀ o, ¬ (90 ≤ o ∧ o < 96) → K.2 o = M.2 o := fun o ho => (hO o ho).2
  have hK6 := hI.2.1.2.1
  have hRK : XR 14 K (sD s) := hI.1.off hK6 (fun o a b => e o (by omega))
  refine hI.chg (s' := chV s c t v) hvb (XR_put hRK hK6 hc hx) (dB_setV hI.2.1 hv) hI.2.2.1 ?_ ?_ ?_ ?_ ?_ ?_ hI.2.2.2.2.2.2.2.1 (HV_chV hI.2.2.2.2.2.2.2.2.2 hI.2.1 hc ht)
  · rw [qIs_eq, e 14 (by omega)]
  · rw [qIs_no (by omega), qIs_no (by omega), e 36 (by omega)]
  · exact hI.2.2.2.1.off (fun o ho => by rw [qIs_2, qIs_2, e2 o (by omega)])
  · refine XH.off (M := K) (h := (hA (sA s) (0, c, t, encX (dV (sD s) c t))).map aEnc) ?_ (fun o a b => by rw [qIs_no (by omega), qIs_no (by omega)])
    rw [hA_enc]; exact hH
  · exact hI.2.2.2.2.2.1.off (fun o a b => by rw [qIs_no (by omega), qIs_no (by omega), e o (by omega)])
  · exact hI.2.2.2.2.2.2.1.off (by rw [qIs_no (by omega), qIs_no (by omega), e 1 (by omega)]) (by rw [qIs_no (by omega), qIs_no (by omega), e 2 (by omega)])
set_option maxRecDepth 100000 in
set_option maxHeartbeats 4000000 in
theorem c_chv {vb : Nat} {M : qMem} {s : sT} (hI : XI vb M s) (hvb : vb < 2000000000) {c t : Nat} {x : Int32} {v : Option Int32} (hc : c < dK (sD s)) (ht : t < dY (sD s)) (hx : x = encX v) (hv : ∀ z, v = some z → okv z) : qSem 0 mX7_changeValue [.ref 0, .int (nI c), .int (nI t), .int (x)] M (fun r N => (encX (dV (sD s) c t) = x ∧ r = some (.int (nI 0)) ∧ N = M) ∨ (¬ encX (dV (sD s) c t) = x ∧ r = some (.int (nI 1)) ∧ XI (vb + 1) N (chV s c t v))) := by
  have hX := hI.1
  have hB := hI.2.1
  have hK6 := hB.2.1
  have hY16 := hB.1
  have hZ := hI.2.2.2.1
  refine qSem.of (by decide +kernel) (Nat.le_of_ble_eq_true rfl) (fun w => ?_)
  refine R_ls (L' := [(0, .ref 0), (1, .int (nI c)), (2, .int (nI t)), (3, .int (x))]) (qs1 rfl (qs1 rfl (qs1 rfl (qs1 rfl qs0)))) ?_
  refine R_aload_n dX7_changeValue_0 rfl ?_
  refine R_getR dX7_changeValue_1 lg_RX7_19 (by decide) rfl rfl ?_
  refine R_iload_n dX7_changeValue_4 rfl ?_
  refine R_iload_n dX7_changeValue_5 rfl ?_
  refine R_callV (mc := mX3_at) (As := [_, _]) (r := 14) dX7_changeValue_6 lm_RX7_101 mv_X3_at rfl (by decide) rfl rfl rfl rfl (Nat.le_of_ble_eq_true rfl) (c_at_14 (by omega) (by omega)) ?_
  rintro _ _ ⟨rfl, rfl⟩
  refine R_top (y := encX (dV (sD s) c t)) (hX.2.2.2.2.1 c t hc ht) ?_
  refine R_istore (L' := [(0, .ref 0), (1, .int (nI c)), (2, .int (nI t)), (3, .int (x)), (4, .int (encX (dV (sD s) c t)))]) dX7_changeValue_9 (by decide) (qs1 rfl (qs1 rfl (qs1 rfl (qs1 rfl (qs1 rfl qs0))))) ?_
  refine R_iload dX7_changeValue_11 rfl ?_
  refine R_iload_n dX7_changeValue_13 rfl ?_
  refine R_icmp_ne (tgt := 19) dX7_changeValue_14 (by decide) (fun h_14 => ?_) (fun h_14 => ?_)
  · refine R_aload_n dX7_changeValue_19 rfl ?_
    refine R_getR dX7_changeValue_20 lg_RX7_47 (by decide) rfl rfl ?_
    refine R_iconst (v := nI 0) dX7_changeValue_23 rfl ?_
    refine R_iload_n dX7_changeValue_24 rfl ?_
    refine R_iload_n dX7_changeValue_25 rfl ?_
    refine R_iload dX7_changeValue_26 rfl ?_
    refine R_callV (mc := mX1_add) (As := [_, _, _, _]) (r := 90) dX7_changeValue_28 lm_RX7_119 mv_X1_add rfl (by decide) rfl rfl rfl rfl (Nat.le_of_ble_eq_true rfl) (c_hadd (x := (nI 0, nI c, nI t, encX (dV (sD s) c t))) hI.2.2.2.2.1) ?_
    rintro _ _ ⟨rfl, hH, hO⟩
    refine R_aload_n dX7_changeValue_31 rfl ?_
    refine R_getR dX7_changeValue_32 lg_RX7_19 (by decide) rfl rfl ?_
    refine R_iload_n dX7_changeValue_35 rfl ?_
    refine R_iload_n dX7_changeValue_36 rfl ?_
    refine R_iload_n dX7_changeValue_37 rfl ?_
    refine R_callV (mc := mX3_put) (As := [_, _, _]) (r := 14) dX7_changeValue_38 lm_RX7_123 mv_X3_put rfl (by decide) rfl rfl rfl rfl (Nat.le_of_ble_eq_true rfl) (c_put_14 (by omega) (by omega)) ?_
    rintro _ _ ⟨rfl, rfl⟩
    refine R_iconst (v := nI 1) dX7_changeValue_41 rfl ?_
    refine R_ireturn dX7_changeValue_42 rfl rfl ?_
    exact Or.inr ⟨h_14, rfl, XI_chV hI hvb hc ht hv hx hH hO⟩
  · refine R_iconst (v := nI 0) dX7_changeValue_17 rfl ?_
    refine R_ireturn dX7_changeValue_18 rfl rfl ?_
    exact Or.inl ⟨h_14, rfl, rfl⟩
set_option maxRecDepth 100000 in
set_option maxHeartbeats 4000000 in
theorem o_set {vb : Nat} {M : qMem} {s : sT} (hI : XI vb M s) (hvb : vb < 2000000000) {c t v : Int32} : qSem 0 mX7_set [.ref 0, .int (c), .int (t), .int (v)] M (fun r N => r = some (.int (rSet s c t v).1) ∧ XI (vb + 1) N (rSet s c t v).2) := by
  have hX := hI.1
  have hB := hI.2.1
  have hK6 := hB.2.1
  have hY16 := hB.1
  have hZ := hI.2.2.2.1
  refine qSem.of (by decide +kernel) (Nat.le_of_ble_eq_true rfl) (fun w => ?_)
  refine R_ls (L' := [(0, .ref 0), (1, .int (c)), (2, .int (t)), (3, .int (v))]) (qs1 rfl (qs1 rfl (qs1 rfl (qs1 rfl qs0)))) ?_
  refine R_aload_n dX7_set_0 rfl ?_
  refine R_getR dX7_set_1 lg_RX7_19 (by decide) rfl rfl ?_
  refine R_iload_n dX7_set_4 rfl ?_
  refine R_iload_n dX7_set_5 rfl ?_
  refine R_callV (mc := mX3_knows) (As := [_, _]) (r := 14) dX7_set_6 lm_RX7_97 mv_X3_knows rfl (by decide) rfl rfl rfl rfl (Nat.le_of_ble_eq_true rfl) c_knows ?_
  rintro _ _ ⟨rfl, ⟨rfl, hk⟩ | ⟨rfl, hk⟩⟩
  · rw [hX.1, hX.2.1] at hk
    have hk2 : ck (sD s) c t := hk
    obtain ⟨⟨cc, hcc, rfl⟩, ⟨ct, hct, rfl⟩⟩ : (∃ j, j < dK (sD s) ∧ c = nI j) ∧ (∃ j, j < dY (sD s) ∧ t = nI j) := ⟨inN_o (by omega) hk2.1, inN_o (by omega) hk2.2⟩
    refine R_if_eqN (tgt := 19) dX7_set_9 (by decide) (by omega) (fun h_9 => by exact absurd h_9 (by decide)) (fun h_9 => ?_)
    refine R_iload_n dX7_set_12 rfl ?_
    refine R_callS (mc := mX7_isValue) (As := [_]) dX7_set_13 lm_RX7_111 mv_X7_isValue rfl rfl rfl (Nat.le_of_ble_eq_true rfl) c_isValue ?_
    rintro _ _ ⟨rfl, ⟨rfl, hok⟩ | ⟨rfl, hok⟩⟩
    · have hoi := okv_iff.mp hok
      refine R_if_neN (tgt := 21) dX7_set_16 (by decide) (by omega) (fun h_16 => ?_) (fun h_16 => by exact absurd h_16 (by decide))
      refine R_aload_n dX7_set_21 rfl ?_
      refine R_getR dX7_set_22 lg_RX7_19 (by decide) rfl rfl ?_
      refine R_iload_n dX7_set_25 rfl ?_
      refine R_iload_n dX7_set_26 rfl ?_
      refine R_callV (mc := mX3_at) (As := [_, _]) (r := 14) dX7_set_27 lm_RX7_101 mv_X3_at rfl (by decide) rfl rfl rfl rfl (Nat.le_of_ble_eq_true rfl) (c_at_14 (by omega) (by omega)) ?_
      rintro _ _ ⟨rfl, rfl⟩
      refine R_top (y := encX (dV (sD s) cc ct)) (hX.2.2.2.2.1 cc ct hcc hct) ?_
      refine R_istore (L' := [(0, .ref 0), (1, .int (nI cc)), (2, .int (nI ct)), (3, .int (v)), (4, .int (encX (dV (sD s) cc ct)))]) dX7_set_30 (by decide) (qs1 rfl (qs1 rfl (qs1 rfl (qs1 rfl (qs1 rfl qs0))))) ?_
      refine R_aload_n dX7_set_32 rfl ?_
      refine R_iload_n dX7_set_33 rfl ?_
      refine R_iload_n dX7_set_34 rfl ?_
      refine R_iload_n dX7_set_35 rfl ?_
      refine R_callV (mc := mX7_changeValue) (As := [_, _, _]) (r := 0) dX7_set_36 lm_RX7_115 mv_X7_changeValue rfl (by decide) rfl rfl rfl rfl (Nat.le_of_ble_eq_true rfl) (c_chv hI hvb (c := cc) (t := ct) (v := some v) hcc hct rfl (fun z e => by cases e; exact hok)) ?_
      rintro _ _ (⟨hq, rfl, rfl⟩ | ⟨hq, rfl, hI9⟩)
      · refine R_if_eqN (tgt := 50) dX7_set_39 (by decide) (by omega) (fun h_39 => ?_) (fun h_39 => by exact absurd h_39 (by decide))
        refine R_bipush (v := -2) dX7_set_50 rfl ?_
        refine R_ireturn dX7_set_52 rfl rfl ?_
        refine ⟨?_, ?_⟩ <;> unfold rSet <;> rw [if_pos ⟨hk2, hoi⟩, kn_n (by omega), kn_n (by omega), if_pos hq]
        exact hI.mono (by omega)
      · refine R_if_eqN (tgt := 50) dX7_set_39 (by decide) (by omega) (fun h_39 => by exact absurd h_39 (by decide)) (fun h_39 => ?_)
        refine R_iload dX7_set_42 rfl ?_
        refine R_callS (mc := mX7_shown) (As := [_]) dX7_set_44 lm_RX7_105 mv_X7_shown rfl rfl rfl (Nat.le_of_ble_eq_true rfl) (c_shown (o := dV (sD s) cc ct) rfl (fun v e => hB.2.2.1 _ _ v e)) ?_
        rintro _ _ ⟨rfl, rfl⟩
        refine R_goto (tgt := 52) dX7_set_47 (by decide) ?_
        refine R_ireturn dX7_set_52 rfl rfl ?_
        refine ⟨?_, ?_⟩ <;> unfold rSet <;> rw [if_pos ⟨hk2, hoi⟩, kn_n (by omega), kn_n (by omega), if_neg hq]
        exact hI9
    · refine R_if_neN (tgt := 21) dX7_set_16 (by decide) (by omega) (fun h_16 => by exact absurd h_16 (by decide)) (fun h_16 => ?_)
      refine R_iconst (v := -1) dX7_set_19 rfl ?_
      refine R_ireturn dX7_set_20 rfl rfl ?_
      exact ⟨by unfold rSet; rw [if_neg (fun h => by first | exact hk2 h.1 | exact hok (okv_iff.mpr h.2))], by unfold rSet; rw [if_neg (fun h => by first | exact hk2 h.1 | exact hok (okv_iff.mpr h.2))]; exact hI.mono (by omega)⟩
  · rw [hX.1, hX.2.1] at hk
    have hk2 : ¬ ck (sD s) c t := hk
    refine R_if_eqN (tgt := 19) dX7_set_9 (by decide) (by omega) (fun h_9 => ?_) (fun h_9 => by exact absurd h_9 (by decide))
    refine R_iconst (v := -1) dX7_set_19 rfl ?_
    refine R_ireturn dX7_set_20 rfl rfl ?_
    exact ⟨by unfold rSet; rw [if_neg (fun h => by first | exact hk2 h.1 | exact hok (okv_iff.mpr h.2))], by unfold rSet; rw [if_neg (fun h => by first | exact hk2 h.1 | exact hok (okv_iff.mpr h.2))]; exact hI.mono (by omega)⟩
set_option maxRecDepth 100000 in
set_option maxHeartbeats 4000000 in
theorem o_lose {vb : Nat} {M : qMem} {s : sT} (hI : XI vb M s) (hvb : vb < 2000000000) {c t : Int32} : qSem 0 mX7_lose [.ref 0, .int (c), .int (t)] M (fun r N => r = some (.int (rLose s c t).1) ∧ XI (vb + 1) N (rLose s c t).2) := by
  have hX := hI.1
  have hB := hI.2.1
  have hK6 := hB.2.1
  have hY16 := hB.1
  have hZ := hI.2.2.2.1
  refine qSem.of (by decide +kernel) (Nat.le_of_ble_eq_true rfl) (fun w => ?_)
  refine R_ls (L' := [(0, .ref 0), (1, .int (c)), (2, .int (t))]) (qs1 rfl (qs1 rfl (qs1 rfl qs0))) ?_
  refine R_aload_n dX7_lose_0 rfl ?_
  refine R_getR dX7_lose_1 lg_RX7_19 (by decide) rfl rfl ?_
  refine R_iload_n dX7_lose_4 rfl ?_
  refine R_iload_n dX7_lose_5 rfl ?_
  refine R_callV (mc := mX3_knows) (As := [_, _]) (r := 14) dX7_lose_6 lm_RX7_97 mv_X3_knows rfl (by decide) rfl rfl rfl rfl (Nat.le_of_ble_eq_true rfl) c_knows ?_
  rintro _ _ ⟨rfl, ⟨rfl, hk⟩ | ⟨rfl, hk⟩⟩
  · rw [hX.1, hX.2.1] at hk
    have hk2 : ck (sD s) c t := hk
    obtain ⟨⟨cc, hcc, rfl⟩, ⟨ct, hct, rfl⟩⟩ : (∃ j, j < dK (sD s) ∧ c = nI j) ∧ (∃ j, j < dY (sD s) ∧ t = nI j) := ⟨inN_o (by omega) hk2.1, inN_o (by omega) hk2.2⟩
    refine R_if_neN (tgt := 14) dX7_lose_9 (by decide) (by omega) (fun h_9 => ?_) (fun h_9 => by exact absurd h_9 (by decide))
    refine R_aload_n dX7_lose_14 rfl ?_
    refine R_getR dX7_lose_15 lg_RX7_19 (by decide) rfl rfl ?_
    refine R_iload_n dX7_lose_18 rfl ?_
    refine R_iload_n dX7_lose_19 rfl ?_
    refine R_callV (mc := mX3_at) (As := [_, _]) (r := 14) dX7_lose_20 lm_RX7_101 mv_X3_at rfl (by decide) rfl rfl rfl rfl (Nat.le_of_ble_eq_true rfl) (c_at_14 (by omega) (by omega)) ?_
    rintro _ _ ⟨rfl, rfl⟩
    refine R_top (y := encX (dV (sD s) cc ct)) (hX.2.2.2.2.1 cc ct hcc hct) ?_
    refine R_istore_n (L' := [(0, .ref 0), (1, .int (nI cc)), (2, .int (nI ct)), (3, .int (encX (dV (sD s) cc ct)))]) dX7_lose_23 (by decide) (qs1 rfl (qs1 rfl (qs1 rfl (qs1 rfl qs0)))) ?_
    refine R_aload_n dX7_lose_24 rfl ?_
    refine R_iload_n dX7_lose_25 rfl ?_
    refine R_iload_n dX7_lose_26 rfl ?_
    refine R_ldc (v := nI 1000000) dX7_lose_27 lc_RX7_109 ?_
    refine R_top (y := 1000000) rfl ?_
    refine R_callV (mc := mX7_changeValue) (As := [_, _, _]) (r := 0) dX7_lose_29 lm_RX7_115 mv_X7_changeValue rfl (by decide) rfl rfl rfl rfl (Nat.le_of_ble_eq_true rfl) (c_chv hI hvb (c := cc) (t := ct) (v := none) hcc hct rfl (fun z e => by cases e)) ?_
    rintro _ _ (⟨hq, rfl, rfl⟩ | ⟨hq, rfl, hI9⟩)
    · have hq2 : dV (sD s) cc ct = none := encX_inj (fun v e => hB.2.2.1 _ _ v e) (fun v e => by cases e) hq
      refine R_if_eqN (tgt := 42) dX7_lose_32 (by decide) (by omega) (fun h_32 => ?_) (fun h_32 => by exact absurd h_32 (by decide))
      refine R_bipush (v := -2) dX7_lose_42 rfl ?_
      refine R_ireturn dX7_lose_44 rfl rfl ?_
      refine ⟨?_, ?_⟩ <;> unfold rLose <;> rw [if_pos hk2, kn_n (by omega), kn_n (by omega), if_pos hq2]
      exact hI.mono (by omega)
    · have hq2 : ¬ dV (sD s) cc ct = none := fun e => hq (by rw [e]; rfl)
      refine R_if_eqN (tgt := 42) dX7_lose_32 (by decide) (by omega) (fun h_32 => by exact absurd h_32 (by decide)) (fun h_32 => ?_)
      refine R_iload_n dX7_lose_35 rfl ?_
      refine R_callS (mc := mX7_shown) (As := [_]) dX7_lose_36 lm_RX7_105 mv_X7_shown rfl rfl rfl (Nat.le_of_ble_eq_true rfl) (c_shown (o := dV (sD s) cc ct) rfl (fun v e => hB.2.2.1 _ _ v e)) ?_
      rintro _ _ ⟨rfl, rfl⟩
      refine R_goto (tgt := 44) dX7_lose_39 (by decide) ?_
      refine R_ireturn dX7_lose_44 rfl rfl ?_
      refine ⟨?_, ?_⟩ <;> unfold rLose <;> rw [if_pos hk2, kn_n (by omega), kn_n (by omega), if_neg hq2]
      exact hI9
  · rw [hX.1, hX.2.1] at hk
    have hk2 : ¬ ck (sD s) c t := hk
    refine R_if_neN (tgt := 14) dX7_lose_9 (by decide) (by omega) (fun h_9 => by exact absurd h_9 (by decide)) (fun h_9 => ?_)
    refine R_iconst (v := -1) dX7_lose_12 rfl ?_
    refine R_ireturn dX7_lose_13 rfl rfl ?_
    refine ⟨?_, ?_⟩ <;> unfold rLose <;> rw [if_neg hk2]
    exact hI.mono (by omega)

theorem XR_pen {K : qMem} {d : dT} (h : XR 14 K d) (hK : dK d ≤ 6) {p : Nat} {ver : Int32} : XR 14 (qIs (qIs K 14 5 (nI p)) 14 7 ver) (setR d 4 p) := by
  obtain ⟨h1, h2, h3, h4, h5, h6, h7⟩ := h
  refine ⟨?_, ?_, fun a ha => ?_, fun a ha => ?_, fun a b ha hb => ?_, ?_, fun k hk => ?_⟩
  · rw [qIs_nk (by omega), qIs_nk (by omega)]; exact h1
  · rw [qIs_nk (by omega), qIs_nk (by omega)]; exact h2
  · rw [qIs_no (by omega), qIs_no (by omega)]; exact h3 a ha
  · rw [qIs_no (by omega), qIs_no (by omega)]; exact h4 a ha
  · rw [qIs_no (by omega), qIs_no (by omega)]; exact h5 a b ha hb
  · rw [qIs_nk (by omega), qIs_eq]; rfl
  · rw [qIs_no (by omega), qIs_no (by omega), h7 k hk]
    show _ = nI (if k = 4 then p else dR d k); rw [if_neg (by omega)]
theorem XR_rul {K : qMem} {d : dT} (h : XR 14 K d) (hK : dK d ≤ 6) {r p : Nat} (hr : r < 4) {ver : Int32} : XR 14 (qIs (qIs K 18 r (nI p)) 14 7 ver) (setR d r p) := by
  obtain ⟨h1, h2, h3, h4, h5, h6, h7⟩ := h
  refine ⟨?_, ?_, fun a ha => ?_, fun a ha => ?_, fun a b ha hb => ?_, ?_, fun k hk => ?_⟩
  · rw [qIs_nk (by omega), qIs_no (by omega)]; exact h1
  · rw [qIs_nk (by omega), qIs_no (by omega)]; exact h2
  · rw [qIs_no (by omega), qIs_no (by omega)]; exact h3 a ha
  · rw [qIs_no (by omega), qIs_no (by omega)]; exact h4 a ha
  · rw [qIs_no (by omega), qIs_no (by omega)]; exact h5 a b ha hb
  · rw [qIs_nk (by omega), qIs_no (by omega), h6]
    show _ = nI (if 4 = r then p else dR d 4); rw [if_neg (by omega)]
  · rw [qIs_no (by omega), qIs_1]
    show _ = nI (if k = r then p else dR d k)
    by_cases e : k = r
    · rw [if_pos ⟨rfl, e⟩, if_pos e]
    · rw [if_neg (fun z => e z.2), if_neg e]; exact h7 k hk
def rB (k v : Nat) : Prop := if k = 4 then v ≤ 99999 else k < 4 ∧ (qtab 0 k).toNatClampNeg ≤ v ∧ v ≤ (qtab 1 k).toNatClampNeg
theorem dB_setR {d : dT} {k v : Nat} (h : dB d) (hk : k < 5) (hr : rB k v) : dB (setR d k v) := by
  obtain ⟨h1, h2, h3, h4, h5, h6, h7, h8⟩ := h
  have e : ∀ j, dR (setR d k v) j = if j = k then v else dR d j := fun _ => rfl
  have hh : k = 0 ∨ k = 1 ∨ k = 2 ∨ k = 3 ∨ k = 4 := by omega
  unfold dB
  rw [e 0, e 1, e 2, e 3, e 4]
  have t0 : (qtab 0 0).toNatClampNeg = 1 ∧ (qtab 1 0).toNatClampNeg = 4 ∧ (qtab 0 1).toNatClampNeg = 1 ∧ (qtab 1 1).toNatClampNeg = 5 ∧ (qtab 0 2).toNatClampNeg = 1 ∧ (qtab 1 2).toNatClampNeg = 5 ∧ (qtab 0 3).toNatClampNeg = 0 ∧ (qtab 1 3).toNatClampNeg = 2 := by decide
  unfold rB at hr
  rcases hh with rfl | rfl | rfl | rfl | rfl <;> simp at hr ⊢ <;> exact ⟨h1, h2, h3, by omega, by omega, by omega, by omega, by omega⟩
theorem rB_now {d : dT} (h : dB d) {k : Nat} (hk : k < 5) : rB k (dR d k) := by
  obtain ⟨h1, h2, h3, h4, h5, h6, h7, h8⟩ := h
  have t0 : (qtab 0 0).toNatClampNeg = 1 ∧ (qtab 1 0).toNatClampNeg = 4 ∧ (qtab 0 1).toNatClampNeg = 1 ∧ (qtab 1 1).toNatClampNeg = 5 ∧ (qtab 0 2).toNatClampNeg = 1 ∧ (qtab 1 2).toNatClampNeg = 5 ∧ (qtab 0 3).toNatClampNeg = 0 ∧ (qtab 1 3).toNatClampNeg = 2 := by decide
  have hh : k = 0 ∨ k = 1 ∨ k = 2 ∨ k = 3 ∨ k = 4 := by omega
  unfold rB
  rcases hh with rfl | rfl | rfl | rfl | rfl <;> simp <;> omega
theorem rB_9 {k v : Nat} (h : rB k v) : v ≤ 99999 := by
  unfold rB at h
  split at h
  · exact h
  · obtain ⟨hk, _, h2⟩ := h
    have hh : k = 0 ∨ k = 1 ∨ k = 2 ∨ k = 3 := by omega
    have t0 : (qtab 1 0).toNatClampNeg = 4 ∧ (qtab 1 1).toNatClampNeg = 5 ∧ (qtab 1 2).toNatClampNeg = 5 ∧ (qtab 1 3).toNatClampNeg = 2 := by decide
    rcases hh with rfl | rfl | rfl | rfl <;> omega
def chRa (s : sT) (k : Nat) : aT := if k = 4 then (1, 0, 0, nI (dR (sD s) 4)) else (2, k, 0, nI (dR (sD s) k))
theorem XI_chR {vb : Nat} {M K N : qMem} {s : sT} (hI : XI vb M s) (hvb : vb < 2000000000) {k v : Nat} (hk : k < 5) (hr : rB k v) (hH : XH K (hAdd ((sA s).map aEnc) (aEnc (chRa s k)))) (hO : qOff oHi M K) (hR : XR 14 K (sD s) → XR 14 N (setR (sD s) k v)) (hN : ∀ o, o ≠ 14 → o ≠ 18 → N.1 o = K.1 o) (hN2 : N.2 = K.2) (hver : N.1 14 7 = K.1 14 7 + nI 1) : XI (vb + 1) N (chR s k v) := by
  have e : ∀ o, ¬ (90 ≤ o ∧ o < 96) → K.1 o = M.1 o := fun o ho => (hO o ho).1
  have e2 : ∀ o, ¬ (90 ≤ o ∧ o < 96) → K.2 o = M.2 o := fun o ho => (hO o ho).2
  have hK6 := hI.2.1.2.1
  have hRK : XR 14 K (sD s) := hI.1.off hK6 (fun o a b => e o (by omega))
  refine hI.chg (s' := chR s k v) hvb (hR hRK) (dB_setR hI.2.1 hk hr) hI.2.2.1 ?_ ?_ ?_ ?_ ?_ ?_ hI.2.2.2.2.2.2.2.1 ?_
  · rw [hver, e 14 (by omega)]
  · rw [hN 36 (by omega) (by omega), e 36 (by omega)]
  · exact hI.2.2.2.1.off (fun o ho => by rw [hN2, e2 o (by omega)])
  · refine XH.off (M := K) (h := (hA (sA s) (chRa s k)).map aEnc) ?_ (fun o a b => by rw [hN o (by omega) (by omega)])
    rw [hA_enc]; exact hH
  · exact hI.2.2.2.2.2.1.off (fun o a b => by rw [hN o (by omega) (by omega), e o (by omega)])
  · exact hI.2.2.2.2.2.2.1.off (by rw [hN 1 (by omega) (by omega), e 1 (by omega)]) (by rw [hN 2 (by omega) (by omega), e 2 (by omega)])
  · refine HV_add (q0 := (sD s, sG s)) (x := chRa s k) hI.2.2.2.2.2.2.2.2.2 ?_ ?_ hI.2.1
    · unfold chRa
      have h9 := rB_9 (rB_now hI.2.1 hk)
      by_cases h4 : k = 4
      · subst h4
        show (setR (setR (sD s) 4 v) 4 (nI (dR (sD s) 4)).toNatClampNeg, sG s) = (sD s, sG s)
        rw [nI_clamp (by omega), setR_back]
      · rw [if_neg h4]
        show (setR (setR (sD s) k v) k (nI (dR (sD s) k)).toNatClampNeg, sG s) = (sD s, sG s)
        rw [nI_clamp (by omega), setR_back]
    · unfold chRa
      have h9 := rB_9 (rB_now hI.2.1 hk)
      by_cases h4 : k = 4
      · subst h4; exact ⟨dR (sD s) 4, h9, rfl⟩
      · rw [if_neg h4]; exact ⟨show k < 4 by omega, dR (sD s) k, h9, rfl⟩
set_option maxRecDepth 100000 in
set_option maxHeartbeats 4000000 in
theorem o_penalty {vb : Nat} {M : qMem} {s : sT} (hI : XI vb M s) (hvb : vb < 2000000000) {p : Int32} : qSem 0 mX7_penalty [.ref 0, .int (p)] M (fun r N => r = some (.int (rPen s p).1) ∧ XI (vb + 1) N (rPen s p).2) := by
  have hX := hI.1
  have hB := hI.2.1
  have hK6 := hB.2.1
  have hY16 := hB.1
  have hZ := hI.2.2.2.1
  refine qSem.of (by decide +kernel) (Nat.le_of_ble_eq_true rfl) (fun w => ?_)
  refine R_ls (L' := [(0, .ref 0), (1, .int (p))]) (qs1 rfl (qs1 rfl qs0)) ?_
  refine R_iload_n dX7_penalty_0 rfl ?_
  refine R_callS (mc := mX7_isPenalty) (As := [_]) dX7_penalty_1 lm_RX7_127 mv_X7_isPenalty rfl rfl rfl (Nat.le_of_ble_eq_true rfl) c_isPen ?_
  rintro _ _ ⟨rfl, ⟨rfl, hp⟩ | ⟨rfl, hp⟩⟩
  · have hp2 := hp
    obtain ⟨q, hq, rfl⟩ := isPn_o hp
    refine R_if_neN (tgt := 9) dX7_penalty_4 (by decide) (by omega) (fun h_4 => ?_) (fun h_4 => by exact absurd h_4 (by decide))
    refine R_aload_n dX7_penalty_9 rfl ?_
    refine R_getR dX7_penalty_10 lg_RX7_19 (by decide) rfl rfl ?_
    refine R_callV (mc := mX3_breakPenalty) (As := []) (r := 14) dX7_penalty_13 lm_RX7_130 mv_X3_breakPenalty rfl (by decide) rfl rfl rfl rfl (Nat.le_of_ble_eq_true rfl) c_breakPenalty_14 ?_
    rintro _ _ ⟨rfl, rfl⟩
    refine R_top (y := nI (dR (sD s) 4)) hX.2.2.2.2.2.1 ?_
    refine R_istore_n (L' := [(0, .ref 0), (1, .int (nI q)), (2, .int (nI (dR (sD s) 4)))]) dX7_penalty_16 (by decide) (qs1 rfl (qs1 rfl (qs1 rfl qs0))) ?_
    refine R_iload_n dX7_penalty_17 rfl ?_
    refine R_iload_n dX7_penalty_18 rfl ?_
    refine R_icmp_ne (tgt := 25) dX7_penalty_19 (by decide) (fun h_19 => ?_) (fun h_19 => ?_)
    · refine R_aload_n dX7_penalty_25 rfl ?_
      refine R_getR dX7_penalty_26 lg_RX7_47 (by decide) rfl rfl ?_
      refine R_iconst (v := nI 1) dX7_penalty_29 rfl ?_
      refine R_iconst (v := nI 0) dX7_penalty_30 rfl ?_
      refine R_iconst (v := nI 0) dX7_penalty_31 rfl ?_
      refine R_iload_n dX7_penalty_32 rfl ?_
      refine R_callV (mc := mX1_add) (As := [_, _, _, _]) (r := 90) dX7_penalty_33 lm_RX7_119 mv_X1_add rfl (by decide) rfl rfl rfl rfl (Nat.le_of_ble_eq_true rfl) (c_hadd (x := (nI 1, nI 0, nI 0, nI (dR (sD s) 4))) hI.2.2.2.2.1) ?_
      rintro _ _ ⟨rfl, hH, hO⟩
      refine R_aload_n dX7_penalty_36 rfl ?_
      refine R_getR dX7_penalty_37 lg_RX7_19 (by decide) rfl rfl ?_
      refine R_iload_n dX7_penalty_40 rfl ?_
      refine R_callV (mc := mX3_setBreakPenalty) (As := [_]) (r := 14) dX7_penalty_41 lm_RX7_133 mv_X3_setBreakPenalty rfl (by decide) rfl rfl rfl rfl (Nat.le_of_ble_eq_true rfl) c_setPen_14 ?_
      rintro _ _ ⟨rfl, rfl⟩
      refine R_iload_n dX7_penalty_44 rfl ?_
      refine R_ireturn dX7_penalty_45 rfl rfl ?_
      refine ⟨?_, ?_⟩ <;> unfold rPen <;> rw [if_pos hp2, if_neg h_19]
      rw [kn_n (by omega)]
      exact XI_chR hI hvb (by decide) (by unfold rB; rw [if_pos rfl]; exact hq) hH hO (fun h => XR_pen h hK6) (fun o h1 h2 => by rw [qIs_no h1, qIs_no h1]) rfl (by rw [qIs_eq])
    · refine R_bipush (v := -2) dX7_penalty_22 rfl ?_
      refine R_ireturn dX7_penalty_24 rfl rfl ?_
      refine ⟨?_, ?_⟩ <;> unfold rPen <;> rw [if_pos hp2, if_pos h_19]
      exact hI.mono (by omega)
  · refine R_if_neN (tgt := 9) dX7_penalty_4 (by decide) (by omega) (fun h_4 => by exact absurd h_4 (by decide)) (fun h_4 => ?_)
    refine R_iconst (v := -1) dX7_penalty_7 rfl ?_
    refine R_ireturn dX7_penalty_8 rfl rfl ?_
    refine ⟨?_, ?_⟩ <;> unfold rPen <;> rw [if_neg hp]
    exact hI.mono (by omega)

def rRule (s : sT) (k v : Int32) : Int32 × sT := if 0 ≤ k ∧ k < nI 4 then (if qtab 0 (kn k) ≤ v ∧ v ≤ qtab 1 (kn k) then (if nI (dR (sD s) (kn k)) = v then (-2, s) else (nI (dR (sD s) (kn k)), chR s (kn k) (kn v))) else (-1, s)) else (-1, s)
theorem rule_n {k v : Int32} (h : ruleOk k v) : ∃ r x, r < 4 ∧ k = nI r ∧ v = nI x ∧ rB r x ∧ x ≤ 99999 := by
  obtain ⟨r, hr, rfl, h1, h2⟩ := h
  have hh : r = 0 ∨ r = 1 ∨ r = 2 ∨ r = 3 := by omega
  have k0 : ∀ (r b : Nat), r < 4 → (nI (qtab 1 r).toNatClampNeg = qtab 1 r) → (0 ≤ qtab 0 r) → (qtab 1 r).toNatClampNeg ≤ 5 → qtab 0 r ≤ v → v ≤ qtab 1 r → ∃ x, v = nI x ∧ rB r x ∧ x ≤ 99999 := by
    intro r b hr q1 q2 q3 q4 q5
    obtain ⟨x, hx, rfl⟩ := nI_of (x := v) (fun z => absurd (Int32.le_trans q2 q4) (Int32.not_le.mpr z))
    have e1 : x ≤ (qtab 1 r).toNatClampNeg := by
      rw [← q1, nI_leI (by omega) (by omega)] at q5; exact q5
    have e0 : (qtab 0 r).toNatClampNeg ≤ x := by
      obtain ⟨y, hy, e⟩ := nI_of (x := qtab 0 r) (Int32.not_lt.mpr q2)
      rw [e] at q4 ⊢
      rw [nI_leI (by omega) (by omega)] at q4; rw [nI_clamp hy]; exact q4
    refine ⟨x, rfl, ?_, by omega⟩
    unfold rB; rw [if_neg (by omega)]; exact ⟨hr, e0, e1⟩
  obtain ⟨x, e1, e2, e3⟩ := k0 r 0 hr (by rcases hh with rfl | rfl | rfl | rfl <;> decide) (by rcases hh with rfl | rfl | rfl | rfl <;> decide) (by rcases hh with rfl | rfl | rfl | rfl <;> decide) h1 h2
  exact ⟨r, x, hr, rfl, e1, e2, e3⟩
theorem rule_if {k v : Int32} : ruleOk k v ↔ (0 ≤ k ∧ k < nI 4) ∧ qtab 0 (kn k) ≤ v ∧ v ≤ qtab 1 (kn k) := by
  constructor
  · rintro ⟨r, hr, rfl, h1, h2⟩
    rw [kn_n (by omega)]
    exact ⟨(inN_n (by omega) (by omega)).mpr hr, h1, h2⟩
  · rintro ⟨h, h1⟩
    obtain ⟨j, hj, rfl⟩ := inN_o (by omega) h
    rw [kn_n (by omega)] at h1
    exact (ruleOk_n hj).mpr h1
set_option maxRecDepth 100000 in
set_option maxHeartbeats 4000000 in
theorem o_rule {vb : Nat} {M : qMem} {s : sT} (hI : XI vb M s) (hvb : vb < 2000000000) {k v : Int32} : qSem 0 mX7_rule [.ref 0, .int (k), .int (v)] M (fun r N => r = some (.int (rRule s k v).1) ∧ XI (vb + 1) N (rRule s k v).2) := by
  have hX := hI.1
  have hB := hI.2.1
  have hK6 := hB.2.1
  have hY16 := hB.1
  have hZ := hI.2.2.2.1
  refine qSem.of (by decide +kernel) (Nat.le_of_ble_eq_true rfl) (fun w => ?_)
  refine R_ls (L' := [(0, .ref 0), (1, .int (k)), (2, .int (v))]) (qs1 rfl (qs1 rfl (qs1 rfl qs0))) ?_
  refine R_iload_n dX7_rule_0 rfl ?_
  refine R_iload_n dX7_rule_1 rfl ?_
  refine R_callS (mc := mX7_isRule) (As := [_, _]) dX7_rule_2 lm_RX7_138 mv_X7_isRule rfl rfl rfl (Nat.le_of_ble_eq_true rfl) c_isRule ?_
  rintro _ _ ⟨rfl, ⟨rfl, hp⟩ | ⟨rfl, hp⟩⟩
  · have hp2 := rule_if.mp hp
    obtain ⟨r, x, hr4, rfl, rfl, hrB, hx9⟩ := rule_n hp
    refine R_if_neN (tgt := 10) dX7_rule_5 (by decide) (by omega) (fun h_5 => ?_) (fun h_5 => by exact absurd h_5 (by decide))
    refine R_aload_n dX7_rule_10 rfl ?_
    refine R_getR dX7_rule_11 lg_RX7_19 (by decide) rfl rfl ?_
    refine R_iload_n dX7_rule_14 rfl ?_
    refine R_callV (mc := mX3_ruleOf) (As := [_]) (r := 14) dX7_rule_15 lm_RX7_141 mv_X3_ruleOf rfl (by decide) rfl rfl rfl rfl (Nat.le_of_ble_eq_true rfl) (c_ruleOf_14 (by omega)) ?_
    rintro _ _ ⟨rfl, rfl⟩
    refine R_top (y := nI (dR (sD s) r)) (hX.2.2.2.2.2.2 r hr4) ?_
    refine R_istore_n (L' := [(0, .ref 0), (1, .int (nI r)), (2, .int (nI x)), (3, .int (nI (dR (sD s) r)))]) dX7_rule_18 (by decide) (qs1 rfl (qs1 rfl (qs1 rfl (qs1 rfl qs0)))) ?_
    refine R_iload_n dX7_rule_19 rfl ?_
    refine R_iload_n dX7_rule_20 rfl ?_
    refine R_icmp_ne (tgt := 27) dX7_rule_21 (by decide) (fun h_19 => ?_) (fun h_19 => ?_)
    · refine R_aload_n dX7_rule_27 rfl ?_
      refine R_getR dX7_rule_28 lg_RX7_47 (by decide) rfl rfl ?_
      refine R_iconst (v := nI 2) dX7_rule_31 rfl ?_
      refine R_iload_n dX7_rule_32 rfl ?_
      refine R_iconst (v := nI 0) dX7_rule_33 rfl ?_
      refine R_iload_n dX7_rule_34 rfl ?_
      refine R_callV (mc := mX1_add) (As := [_, _, _, _]) (r := 90) dX7_rule_35 lm_RX7_119 mv_X1_add rfl (by decide) rfl rfl rfl rfl (Nat.le_of_ble_eq_true rfl) (c_hadd (x := (nI 2, nI r, nI 0, nI (dR (sD s) r))) hI.2.2.2.2.1) ?_
      rintro _ _ ⟨rfl, hH, hO⟩
      refine R_aload_n dX7_rule_38 rfl ?_
      refine R_getR dX7_rule_39 lg_RX7_19 (by decide) rfl rfl ?_
      refine R_iload_n dX7_rule_42 rfl ?_
      refine R_iload_n dX7_rule_43 rfl ?_
      refine R_callV (mc := mX3_setRule) (As := [_, _]) (r := 14) dX7_rule_44 lm_RX7_144 mv_X3_setRule rfl (by decide) rfl rfl rfl rfl (Nat.le_of_ble_eq_true rfl) (c_setRule_14 hr4) ?_
      rintro _ _ ⟨rfl, rfl⟩
      refine R_iload_n dX7_rule_47 rfl ?_
      refine R_ireturn dX7_rule_48 rfl rfl ?_
      refine ⟨?_, ?_⟩ <;> unfold rRule <;> rw [if_pos hp2.1, if_pos hp2.2, kn_n (by omega), if_neg h_19]
      rw [kn_n (by omega)]
      exact XI_chR hI hvb (by omega) hrB (by unfold chRa; rw [if_neg (by omega)]; exact hH) hO (fun h => XR_rul h hK6 hr4) (fun o h1 h2 => by rw [qIs_no h1, qIs_no h2]) rfl (by rw [qIs_eq])
    · refine R_bipush (v := -2) dX7_rule_24 rfl ?_
      refine R_ireturn dX7_rule_26 rfl rfl ?_
      refine ⟨?_, ?_⟩ <;> unfold rRule <;> rw [if_pos hp2.1, if_pos hp2.2, kn_n (by omega), if_pos h_19]
      exact hI.mono (by omega)
  · refine R_if_neN (tgt := 10) dX7_rule_5 (by decide) (by omega) (fun h_5 => by exact absurd h_5 (by decide)) (fun h_5 => ?_)
    refine R_iconst (v := -1) dX7_rule_8 rfl ?_
    refine R_ireturn dX7_rule_9 rfl rfl ?_
    have hn : rRule s k v = (-1, s) := by
      unfold rRule; split
      · rename_i h1; rw [if_neg (fun h2 => hp (rule_if.mpr ⟨h1, h2⟩))]
      · rfl
    rw [hn]
    exact ⟨rfl, hI.mono (by omega)⟩
