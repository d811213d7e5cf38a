
/-- a station in the making: k of its values -/
def StI (M K : qMem) (d : dT) (tx : List Nat) (a k : Nat) : Prop := qOff oDr M K ∧ K.1 3 0 = nI (dY d) ∧ K.1 3 1 = nI (dK d + 1) ∧ (∀ c, c < dK d + 1 → K.1 4 c = dX (dSt d tx a) c) ∧ (∀ c, c < dK d + 1 → K.1 5 c = dZ (dSt d tx a) c) ∧ (∀ c t, c < dK d → t < dY d → K.1 (8 + c) t = encX (dV d c t)) ∧ K.1 3 5 = nI (dR d 4) ∧ (∀ j, j < 4 → K.1 7 j = nI (dR d j)) ∧ ∀ t, t < k → K.1 (8 + dK d) t = encX ((sgn tx (a + 3 + t)).map nI)
theorem StI_put {M K : qMem} {d : dT} {tx : List Nat} {a k : Nat} {x y : Int32} (h : StI M K d tx a k) (hK : dK d < 6) (hx : encX ((sgn tx (a + 3 + k)).map nI) = x) : StI M (qIs (qIs K (8 + dK d) k x) 3 7 y) d tx a (k + 1) := by
  obtain ⟨h0, h1, h2, h3, h4, h5, h6, h7, h8⟩ := h
  refine ⟨qOff.is (qOff.is h0 (by unfold oDr; omega)) (by unfold oDr; omega), by rw [qIs_nk (by decide), qIs_no (by omega)]; exact h1, by rw [qIs_nk (by decide), qIs_no (by omega)]; exact h2, fun c hc => by rw [qIs_no (by omega), qIs_no (by omega)]; exact h3 c hc, fun c hc => by rw [qIs_no (by omega), qIs_no (by omega)]; exact h4 c hc, fun c t hc ht => by rw [qIs_no (by omega), qIs_no (by omega)]; exact h5 c t hc ht, by rw [qIs_nk (by decide), qIs_no (by omega)]; exact h6, fun j hj => by rw [qIs_no (by omega), qIs_no (by omega)]; exact h7 j hj, fun t ht => ?_⟩
  rw [qIs_no (by omega)]
  rcases Nat.lt_or_ge t k with q | q
  · rw [qIs_nk (by omega)]; exact h8 t q
  · have e : t = k := by omega
    subst e; rw [qIs_eq, hx]
theorem StI_end {M K : qMem} {d : dT} {tx : List Nat} {a : Nat} (h : StI M K d tx a (dY d)) : XR 3 K (dSt d tx a) := by
  obtain ⟨h0, h1, h2, h3, h4, h5, h6, h7, h8⟩ := h
  refine ⟨h1, h2, h3, h4, fun c t hc ht => ?_, h6, h7⟩
  show K.1 (8 + c) t = encX (if c = dK d then (sgn tx (a + 3 + t)).map nI else dV d c t)
  by_cases e : c = dK d
  · subst e; rw [if_pos rfl]; exact h8 t ht
  · rw [if_neg e]
    have hc2 : c < dK d + 1 := hc
    exact h5 c t (by omega) ht
theorem valsOk_at {tx : List Nat} {a : Nat} : ∀ {n : Nat}, valsOk tx a n = true → ∀ k, k < n → (sgn tx (a + k)).isSome = true ∨ lt tx (a + k) = 46
  | 0, _, k, hk => absurd hk (Nat.not_lt_zero k)
  | n + 1, h, k, hk => by
    unfold valsOk at h
    rw [Bool.and_eq_true, Bool.or_eq_true, decide_eq_true_eq] at h
    rcases Nat.lt_or_ge k n with q | q
    · exact valsOk_at h.1 k q
    · have e : k = n := by omega
      subst e; exact h.2
theorem valsOk_s {tx : List Nat} {a k : Nat} (h : valsOk tx a k = true) (hk : (sgn tx (a + k)).isSome = true ∨ lt tx (a + k) = 46) : valsOk tx a (k + 1) = true := by
  unfold valsOk
  rw [Bool.and_eq_true, Bool.or_eq_true, decide_eq_true_eq]
  exact ⟨h, hk⟩
theorem StI_0 {M N : qMem} {d : dT} {tx : List Nat} {a x y : Nat} (hX : XR 3 M d) (hx : sgn tx (a + 1) = some x) (hy : sgn tx (a + 2) = some y)
    (e1 : N.1 3 1 = nI (dK d + 1)) (e4 : N.1 4 = upd (M.1 4) (dK d) (nI x)) (e5 : N.1 5 = upd (M.1 5) (dK d) (nI y)) (e3 : ∀ k, k ≠ 1 → k ≠ 7 → N.1 3 k = M.1 3 k) (eo : ∀ o, o ≠ 3 → o ≠ 4 → o ≠ 5 → N.1 o = M.1 o) (e2 : N.2 = M.2) : StI M N d tx a 0 := by
  refine ⟨fun o ho => ?_, by rw [e3 0 (by omega) (by omega)]; exact hX.1, e1, fun c hc => ?_, fun c hc => ?_, fun c t hc ht => by rw [eo (8 + c) (by omega) (by omega) (by omega)]; exact hX.2.2.2.2.1 c t hc ht, by rw [e3 5 (by omega) (by omega)]; exact hX.2.2.2.2.2.1, fun j hj => by rw [eo 7 (by omega) (by omega) (by omega)]; exact hX.2.2.2.2.2.2 j hj, fun t ht => absurd ht (Nat.not_lt_zero t)⟩
  · have h3 : o ≠ 3 ∧ o ≠ 4 ∧ o ≠ 5 := by unfold oDr at ho; omega
    exact ⟨eo o h3.1 h3.2.1 h3.2.2, by rw [e2]⟩
  · rw [e4]
    show _ = (if c = dK d then nI ((sgn tx (a + 1)).getD 0) else dX d c)
    by_cases e : c = dK d
    · subst e; rw [pk_us, if_pos rfl, hx]; rfl
    · rw [pk_un e, if_neg e]; exact hX.2.2.1 c (by omega)
  · rw [e5]
    show _ = (if c = dK d then nI ((sgn tx (a + 2)).getD 0) else dZ d c)
    by_cases e : c = dK d
    · subst e; rw [pk_us, if_pos rfl, hy]; rfl
    · rw [pk_un e, if_neg e]; exact hX.2.2.2.1 c (by omega)
theorem sgn_dot {tx : List Nat} {i : Nat} (h : lt tx i = 46) : sgn tx i = none := by unfold sgn; rw [h]; rfl
set_option maxRecDepth 100000 in
set_option maxHeartbeats 4000000 in
theorem l_st2 {w : qWT} {M : qMem} {tx : List Nat} (hT : XT M tx) (hB : txB tx) {d : dT} (hX : XR 3 M d) (hD : dB d) {a : Nat} (ha : a < 200) {x y : Nat} (hx : sgn tx (a + 1) = some x) (hy : sgn tx (a + 2) = some y) (he : lt tx (a + 3 + dY d) = 59) (hv : valsOk tx (a + 3) (dY d) = true) (hK : dK d < 6) : ∀ (fu : Nat) (k : Nat) (K : qMem), (17 - k) < fu → (k ≤ dY d) → (StI M K d tx a k) → qRW 0 w mX4_readStation 109 [(0, .ref 1), (1, .int (nI a)), (2, .int (nI (a + 3))), (3, .int (nI (a + 3 + dY d))), (4, .int (nI x)), (5, .int (nI y)), (6, .int (nI (a + 3 + k)))] [] K (fun v N => ((∃ z d2, itemS tx a d = some (z, d2) ∧ v = some (.int (nI z)) ∧ XR 3 N d2) ∨ (itemS tx a d = none ∧ v = some (.int (nI 0)))) ∧ qOff oDr M N) := by
  intro fu
  induction fu with
  | zero => intro k K hn; exact absurd hn (Nat.not_lt_zero _)
  | succ fu ih =>
    intro k K hn hk hI
    have hY16 := hD.1
    have hx28 := sgn_le hx
    have hy28 := sgn_le hy
    have hlen := hB.1
    have hend : a + 3 + dY d < tx.length := by rcases Nat.lt_or_ge (a + 3 + dY d) tx.length with q | q <;> first | exact q | (rw [lt_out q] at he; exact absurd he (by decide))
    have hTK : XT K tx := hT.dr hI.1
    refine R_iload dX4_readStation_109 rfl ?_
    refine R_iload_n dX4_readStation_111 rfl ?_
    refine R_icmp_geN (tgt := 164) dX4_readStation_112 (by decide) (by omega) (by omega) (fun h_112 => ?_) (fun h_112 => ?_)
    · refine R_iload_n dX4_readStation_164 rfl ?_
      refine R_iconst (v := nI 1) dX4_readStation_165 rfl ?_
      refine R_iaddN dX4_readStation_166 ?_
      refine R_iload_n dX4_readStation_167 rfl ?_
      refine R_isubN dX4_readStation_168 (by omega) ?_
      rw [show a + 3 + dY d + 1 - a = dY d + 4 by omega]
      refine R_ireturn dX4_readStation_169 rfl rfl ?_
      have e : k = dY d := by omega
      subst e
      exact ⟨Or.inl ⟨dY d + 4, dSt d tx a, by unfold itemS; exact if_pos ⟨by rw [hx]; rfl, by rw [hy]; rfl, he, hv, hK⟩, rfl, StI_end hI⟩, hI.1⟩
    · refine R_aload_n dX4_readStation_115 rfl ?_
      refine R_getR dX4_readStation_116 lg_RX4_18 (by decide) rfl rfl ?_
      refine R_aload_n dX4_readStation_119 rfl ?_
      refine R_getR dX4_readStation_120 lg_RX4_18 (by decide) rfl rfl ?_
      refine R_callV (mc := mX3_stations) (As := []) (r := 3) dX4_readStation_123 lm_RX4_64 mv_X3_stations rfl (by decide) rfl rfl rfl rfl (Nat.le_of_ble_eq_true rfl) c_stations_3 ?_
      rintro _ _ ⟨rfl, rfl⟩
      refine R_top (y := nI (dK d + 1)) hI.2.2.1 ?_
      refine R_iconst (v := nI 1) dX4_readStation_126 rfl ?_
      refine R_isubN dX4_readStation_127 (by omega) ?_
      refine R_top (y := nI (dK d)) (by rw [Nat.add_sub_cancel]) ?_
      refine R_iload dX4_readStation_128 rfl ?_
      refine R_iload_n dX4_readStation_130 rfl ?_
      refine R_isubN dX4_readStation_131 (by omega) ?_
      refine R_top (y := nI k) (by rw [show a + 3 + k - (a + 3) = k by omega]) ?_
      refine R_aload_n dX4_readStation_132 rfl ?_
      refine R_getR dX4_readStation_133 lg_RX4_9 (by decide) rfl rfl ?_
      refine R_iload dX4_readStation_136 rfl ?_
      refine R_caldN dX4_readStation_138 (by decide) rfl (by omega) (by decide) ?_
      refine R_top (y := nI (lt tx (a + 3 + k))) (hTK.2 _ (by omega)) ?_
      refine R_bipush (v := nI 46) dX4_readStation_139 rfl ?_
      refine R_icmp_neN (tgt := 149) dX4_readStation_141 (by decide) (by have := hB.2 (a + 3 + k) (by omega); omega) (by omega) (fun h_141 => ?_) (fun h_141 => ?_)
      · refine R_aload_n dX4_readStation_149 rfl ?_
        refine R_iload dX4_readStation_150 rfl ?_
        refine R_callV (mc := mX4_signAt) (As := [_]) (r := 1) dX4_readStation_152 lm_RX4_49 mv_X4_signAt rfl (by decide) rfl rfl rfl rfl (Nat.le_of_ble_eq_true rfl) ((c_sign hTK hB (i := a + 3 + k) (by omega)).mono (fun v N hq => (show ∃ z, sgn tx (a + 3 + k) = some z ∧ v = some (.int (nI z)) ∧ K = N from by obtain ⟨rfl, ⟨z, hz, rfl⟩ | ⟨hz, rfl⟩⟩ := hq <;> first | exact ⟨z, hz, rfl, rfl⟩ | (rcases valsOk_at hv k (by omega) with q | q <;> first | exact absurd q h_141 | (rw [hz] at q; cases q))))) ?_
        rintro _ _ ⟨z, hz, rfl, rfl⟩
        refine R_callV (mc := mX3_put) (As := [_, _, _]) (r := 3) dX4_readStation_155 lm_RX4_68 mv_X3_put rfl (by decide) rfl rfl rfl rfl (Nat.le_of_ble_eq_true rfl) (c_put_3 hK (by omega)) ?_
        rintro _ _ ⟨rfl, rfl⟩
        refine R_iincN (n := 1) (L' := [(0, .ref 1), (1, .int (nI a)), (2, .int (nI (a + 3))), (3, .int (nI (a + 3 + dY d))), (4, .int (nI x)), (5, .int (nI y)), (6, .int (nI ((a + 3 + k) + 1)))]) dX4_readStation_158 rfl (by decide) (qs1 rfl (qs1 rfl (qs1 rfl (qs1 rfl (qs1 rfl (qs1 rfl (qs1 rfl qs0))))))) ?_
        refine R_goto (tgt := 109) dX4_readStation_161 (by decide) ?_
        refine R_ls (L' := [(0, .ref 1), (1, .int (nI a)), (2, .int (nI (a + 3))), (3, .int (nI (a + 3 + dY d))), (4, .int (nI x)), (5, .int (nI y)), (6, .int (nI ((a + 3 + k) + 1)))]) (qs1 rfl (qs1 rfl (qs1 rfl (qs1 rfl (qs1 rfl (qs1 rfl (qs1 rfl qs0))))))) ?_
        exact (ih (k + 1) _ (by omega) (by omega) (StI_put hI hK (by first | (rw [hz]; rfl) | (rw [sgn_dot h_141]; rfl))))
      · refine R_ldc (v := nI 1000000) dX4_readStation_144 lc_RX4_67 ?_
        refine R_goto (tgt := 155) dX4_readStation_146 (by decide) ?_
        refine R_callV (mc := mX3_put) (As := [_, _, _]) (r := 3) dX4_readStation_155 lm_RX4_68 mv_X3_put rfl (by decide) rfl rfl rfl rfl (Nat.le_of_ble_eq_true rfl) (c_put_3 hK (by omega)) ?_
        rintro _ _ ⟨rfl, rfl⟩
        refine R_iincN (n := 1) (L' := [(0, .ref 1), (1, .int (nI a)), (2, .int (nI (a + 3))), (3, .int (nI (a + 3 + dY d))), (4, .int (nI x)), (5, .int (nI y)), (6, .int (nI ((a + 3 + k) + 1)))]) dX4_readStation_158 rfl (by decide) (qs1 rfl (qs1 rfl (qs1 rfl (qs1 rfl (qs1 rfl (qs1 rfl (qs1 rfl qs0))))))) ?_
        refine R_goto (tgt := 109) dX4_readStation_161 (by decide) ?_
        refine R_ls (L' := [(0, .ref 1), (1, .int (nI a)), (2, .int (nI (a + 3))), (3, .int (nI (a + 3 + dY d))), (4, .int (nI x)), (5, .int (nI y)), (6, .int (nI ((a + 3 + k) + 1)))]) (qs1 rfl (qs1 rfl (qs1 rfl (qs1 rfl (qs1 rfl (qs1 rfl (qs1 rfl qs0))))))) ?_
        exact (ih (k + 1) _ (by omega) (by omega) (StI_put hI hK (by first | (rw [hz]; rfl) | (rw [sgn_dot h_141]; rfl))))
set_option maxRecDepth 100000 in
set_option maxHeartbeats 4000000 in
theorem l_st1 {w : qWT} {M : qMem} {tx : List Nat} (hT : XT M tx) (hB : txB tx) {d : dT} (hX : XR 3 M d) (hD : dB d) {a : Nat} (ha : a < 200) {x y : Nat} (hx : sgn tx (a + 1) = some x) (hy : sgn tx (a + 2) = some y) (he : lt tx (a + 3 + dY d) = 59) : ∀ (fu : Nat) (k : Nat), (17 - k) < fu → (k ≤ dY d) → (valsOk tx (a + 3) k = true) → qRW 0 w mX4_readStation 55 [(0, .ref 1), (1, .int (nI a)), (2, .int (nI (a + 3))), (3, .int (nI (a + 3 + dY d))), (4, .int (nI x)), (5, .int (nI y)), (6, .int (nI (a + 3 + k)))] [] M (fun v N => ((∃ z d2, itemS tx a d = some (z, d2) ∧ v = some (.int (nI z)) ∧ XR 3 N d2) ∨ (itemS tx a d = none ∧ v = some (.int (nI 0)))) ∧ qOff oDr M N) := by
  intro fu
  induction fu with
  | zero => intro k hn; exact absurd hn (Nat.not_lt_zero _)
  | succ fu ih =>
    intro k hn hk hv
    have hY16 := hD.1
    have hx28 := sgn_le hx
    have hy28 := sgn_le hy
    have hlen := hB.1
    have hend : a + 3 + dY d < tx.length := by rcases Nat.lt_or_ge (a + 3 + dY d) tx.length with q | q <;> first | exact q | (rw [lt_out q] at he; exact absurd he (by decide))
    refine R_iload dX4_readStation_55 rfl ?_
    refine R_iload_n dX4_readStation_57 rfl ?_
    refine R_icmp_geN (tgt := 90) dX4_readStation_58 (by decide) (by omega) (by omega) (fun h_58 => ?_) (fun h_58 => ?_)
    · refine R_aload_n dX4_readStation_90 rfl ?_
      refine R_getR dX4_readStation_91 lg_RX4_18 (by decide) rfl rfl ?_
      refine R_iload dX4_readStation_94 rfl ?_
      refine R_iload dX4_readStation_96 rfl ?_
      refine R_callV (mc := mX3_addStation) (As := [_, _]) (r := 3) dX4_readStation_98 lm_RX4_60 mv_X3_addStation rfl (by decide) rfl rfl rfl rfl (Nat.le_of_ble_eq_true rfl) (c_addStation hX.2.1 hD.2.1) ?_
      rintro _ _ (⟨hK6, rfl, e1, e4, e5, e3, eo, e2⟩ | ⟨hK6, rfl, rfl⟩)
      · refine R_if_neN (tgt := 106) dX4_readStation_101 (by decide) (by omega) (fun h_101 => ?_) (fun h_101 => by exact absurd h_101 (by decide))
        refine R_iload_n dX4_readStation_106 rfl ?_
        refine R_istore (L' := [(0, .ref 1), (1, .int (nI a)), (2, .int (nI (a + 3))), (3, .int (nI (a + 3 + dY d))), (4, .int (nI x)), (5, .int (nI y)), (6, .int (nI (a + 3)))]) dX4_readStation_107 (by decide) (qs1 rfl (qs1 rfl (qs1 rfl (qs1 rfl (qs1 rfl (qs1 rfl (qs1 rfl qs0))))))) ?_
        refine R_ls (L' := [(0, .ref 1), (1, .int (nI a)), (2, .int (nI (a + 3))), (3, .int (nI (a + 3 + dY d))), (4, .int (nI x)), (5, .int (nI y)), (6, .int (nI (a + 3)))]) (qs1 rfl (qs1 rfl (qs1 rfl (qs1 rfl (qs1 rfl (qs1 rfl (qs1 rfl qs0))))))) ?_
        exact (by have e : k = dY d := (by omega); subst e; exact l_st2 hT hB hX hD ha hx hy he hv hK6 18 0 _ (by omega) (by omega) (StI_0 hX hx hy e1 e4 e5 e3 eo e2))
      · refine R_if_neN (tgt := 106) dX4_readStation_101 (by decide) (by omega) (fun h_101 => by exact absurd h_101 (by decide)) (fun h_101 => ?_)
        refine R_iconst (v := nI 0) dX4_readStation_104 rfl ?_
        refine R_ireturn dX4_readStation_105 rfl rfl ?_
        exact ⟨Or.inr ⟨by unfold itemS; exact if_neg (fun h => by omega), rfl⟩, qOff.rf⟩
    · refine R_aload_n dX4_readStation_61 rfl ?_
      refine R_iload dX4_readStation_62 rfl ?_
      refine R_callV (mc := mX4_signAt) (As := [_]) (r := 1) dX4_readStation_64 lm_RX4_49 mv_X4_signAt rfl (by decide) rfl rfl rfl rfl (Nat.le_of_ble_eq_true rfl) (c_sign hT hB (i := a + 3 + k) (by omega)) ?_
      rintro _ _ ⟨rfl, ⟨z, hz, rfl⟩ | ⟨hz, rfl⟩⟩
      · have lz := sgn_le hz
        refine R_if_geN (tgt := 84) dX4_readStation_67 (by decide) (by omega) ?_
        refine R_iincN (n := 1) (L' := [(0, .ref 1), (1, .int (nI a)), (2, .int (nI (a + 3))), (3, .int (nI (a + 3 + dY d))), (4, .int (nI x)), (5, .int (nI y)), (6, .int (nI ((a + 3 + k) + 1)))]) dX4_readStation_84 rfl (by decide) (qs1 rfl (qs1 rfl (qs1 rfl (qs1 rfl (qs1 rfl (qs1 rfl (qs1 rfl qs0))))))) ?_
        refine R_goto (tgt := 55) dX4_readStation_87 (by decide) ?_
        refine R_ls (L' := [(0, .ref 1), (1, .int (nI a)), (2, .int (nI (a + 3))), (3, .int (nI (a + 3 + dY d))), (4, .int (nI x)), (5, .int (nI y)), (6, .int (nI ((a + 3 + k) + 1)))]) (qs1 rfl (qs1 rfl (qs1 rfl (qs1 rfl (qs1 rfl (qs1 rfl (qs1 rfl qs0))))))) ?_
        exact (ih (k + 1) (by omega) (by omega) (valsOk_s hv (by first | exact Or.inl (by rw [hz]; rfl) | exact Or.inr h_79)))
      · refine R_if_ge (tgt := 84) dX4_readStation_67 (by decide) (fun h_67 => by exact absurd h_67 (by decide)) (fun h_67 => ?_)
        refine R_aload_n dX4_readStation_70 rfl ?_
        refine R_getR dX4_readStation_71 lg_RX4_9 (by decide) rfl rfl ?_
        refine R_iload dX4_readStation_74 rfl ?_
        refine R_caldN dX4_readStation_76 (by decide) rfl (by omega) (by decide) ?_
        refine R_top (y := nI (lt tx (a + 3 + k))) (hT.2 _ (by omega)) ?_
        refine R_bipush (v := nI 46) dX4_readStation_77 rfl ?_
        refine R_icmp_eqN (tgt := 84) dX4_readStation_79 (by decide) (by have := hB.2 (a + 3 + k) (by omega); omega) (by omega) (fun h_79 => ?_) (fun h_79 => ?_)
        · refine R_iincN (n := 1) (L' := [(0, .ref 1), (1, .int (nI a)), (2, .int (nI (a + 3))), (3, .int (nI (a + 3 + dY d))), (4, .int (nI x)), (5, .int (nI y)), (6, .int (nI ((a + 3 + k) + 1)))]) dX4_readStation_84 rfl (by decide) (qs1 rfl (qs1 rfl (qs1 rfl (qs1 rfl (qs1 rfl (qs1 rfl (qs1 rfl qs0))))))) ?_
          refine R_goto (tgt := 55) dX4_readStation_87 (by decide) ?_
          refine R_ls (L' := [(0, .ref 1), (1, .int (nI a)), (2, .int (nI (a + 3))), (3, .int (nI (a + 3 + dY d))), (4, .int (nI x)), (5, .int (nI y)), (6, .int (nI ((a + 3 + k) + 1)))]) (qs1 rfl (qs1 rfl (qs1 rfl (qs1 rfl (qs1 rfl (qs1 rfl (qs1 rfl qs0))))))) ?_
          exact (ih (k + 1) (by omega) (by omega) (valsOk_s hv (by first | exact Or.inl (by rw [hz]; rfl) | exact Or.inr h_79)))
        · refine R_iconst (v := nI 0) dX4_readStation_82 rfl ?_
          refine R_ireturn dX4_readStation_83 rfl rfl ?_
          refine ⟨Or.inr ⟨?_, rfl⟩, qOff.rf⟩
          unfold itemS
          refine if_neg (fun h => ?_)
          rcases valsOk_at h.2.2.2.1 k (by omega) with q | q
          · rw [hz] at q; cases q
          · exact absurd q h_79
set_option maxRecDepth 100000 in
set_option maxHeartbeats 4000000 in
theorem c_rdS {M : qMem} {tx : List Nat} (hT : XT M tx) (hB : txB tx) {d : dT} (hX : XR 3 M d) (hD : dB d) {a : Nat} (ha : a < 200) : qSem 0 mX4_readStation [.ref 1, .int (nI a)] M (fun v N => ((∃ z d2, itemS tx a d = some (z, d2) ∧ v = some (.int (nI z)) ∧ XR 3 N d2) ∨ (itemS tx a d = none ∧ v = some (.int (nI 0)))) ∧ qOff oDr M N) := by
  have hY16 := hD.1
  refine qSem.of (by decide +kernel) (Nat.le_of_ble_eq_true rfl) (fun w => ?_)
  refine R_ls (L' := [(0, .ref 1), (1, .int (nI a))]) (qs1 rfl (qs1 rfl qs0)) ?_
  refine R_iload_n dX4_readStation_0 rfl ?_
  refine R_iconst (v := nI 3) dX4_readStation_1 rfl ?_
  refine R_iaddN dX4_readStation_2 ?_
  refine R_istore_n (L' := [(0, .ref 1), (1, .int (nI a)), (2, .int (nI (a + 3)))]) dX4_readStation_3 (by decide) (qs1 rfl (qs1 rfl (qs1 rfl qs0))) ?_
  refine R_iload_n dX4_readStation_4 rfl ?_
  refine R_aload_n dX4_readStation_5 rfl ?_
  refine R_getR dX4_readStation_6 lg_RX4_18 (by decide) rfl rfl ?_
  refine R_callV (mc := mX3_years) (As := []) (r := 3) dX4_readStation_9 lm_RX4_36 mv_X3_years rfl (by decide) rfl rfl rfl rfl (Nat.le_of_ble_eq_true rfl) c_years_3 ?_
  rintro _ _ ⟨rfl, rfl⟩
  refine R_top (y := nI (dY d)) hX.1 ?_
  refine R_iaddN dX4_readStation_12 ?_
  refine R_istore_n (L' := [(0, .ref 1), (1, .int (nI a)), (2, .int (nI (a + 3))), (3, .int (nI ((a + 3) + (dY d))))]) dX4_readStation_13 (by decide) (qs1 rfl (qs1 rfl (qs1 rfl (qs1 rfl qs0)))) ?_
  refine R_aload_n dX4_readStation_14 rfl ?_
  refine R_iload_n dX4_readStation_15 rfl ?_
  refine R_iconst (v := nI 1) dX4_readStation_16 rfl ?_
  refine R_iaddN dX4_readStation_17 ?_
  refine R_callV (mc := mX4_signAt) (As := [_]) (r := 1) dX4_readStation_18 lm_RX4_49 mv_X4_signAt rfl (by decide) rfl rfl rfl rfl (Nat.le_of_ble_eq_true rfl) (c_sign hT hB (i := a + 1) (by omega)) ?_
  rintro _ _ ⟨rfl, ⟨x, hx, rfl⟩ | ⟨hx, rfl⟩⟩
  · have lx := sgn_le hx
    refine R_istore (L' := [(0, .ref 1), (1, .int (nI a)), (2, .int (nI (a + 3))), (3, .int (nI ((a + 3) + (dY d)))), (4, .int (nI x))]) dX4_readStation_21 (by decide) (qs1 rfl (qs1 rfl (qs1 rfl (qs1 rfl (qs1 rfl qs0))))) ?_
    refine R_aload_n dX4_readStation_23 rfl ?_
    refine R_iload_n dX4_readStation_24 rfl ?_
    refine R_iconst (v := nI 2) dX4_readStation_25 rfl ?_
    refine R_iaddN dX4_readStation_26 ?_
    refine R_callV (mc := mX4_signAt) (As := [_]) (r := 1) dX4_readStation_27 lm_RX4_49 mv_X4_signAt rfl (by decide) rfl rfl rfl rfl (Nat.le_of_ble_eq_true rfl) (c_sign hT hB (i := a + 2) (by omega)) ?_
    rintro _ _ ⟨rfl, ⟨y, hy, rfl⟩ | ⟨hy, rfl⟩⟩
    · have ly := sgn_le hy
      refine R_istore (L' := [(0, .ref 1), (1, .int (nI a)), (2, .int (nI (a + 3))), (3, .int (nI ((a + 3) + (dY d)))), (4, .int (nI x)), (5, .int (nI y))]) dX4_readStation_30 (by decide) (qs1 rfl (qs1 rfl (qs1 rfl (qs1 rfl (qs1 rfl (qs1 rfl qs0)))))) ?_
      refine R_iload dX4_readStation_32 rfl ?_
      refine R_if_ltN (tgt := 50) dX4_readStation_34 (by decide) (by omega) ?_
      refine R_iload dX4_readStation_37 rfl ?_
      refine R_if_ltN (tgt := 50) dX4_readStation_39 (by decide) (by omega) ?_
      refine R_aload_n dX4_readStation_42 rfl ?_
      refine R_iload_n dX4_readStation_43 rfl ?_
      refine R_callV (mc := mX4_endsAt) (As := [_]) (r := 1) dX4_readStation_44 lm_RX4_52 mv_X4_endsAt rfl (by decide) rfl rfl rfl rfl (Nat.le_of_ble_eq_true rfl) (c_ends hT hB (i := a + 3 + dY d) (by omega)) ?_
      rintro _ _ ⟨rfl, ⟨rfl, he⟩ | ⟨rfl, he⟩⟩
      · refine R_if_neN (tgt := 52) dX4_readStation_47 (by decide) (by omega) (fun h_47 => ?_) (fun h_47 => by exact absurd h_47 (by decide))
        refine R_iload_n dX4_readStation_52 rfl ?_
        refine R_istore (L' := [(0, .ref 1), (1, .int (nI a)), (2, .int (nI (a + 3))), (3, .int (nI ((a + 3) + (dY d)))), (4, .int (nI x)), (5, .int (nI y)), (6, .int (nI (a + 3)))]) dX4_readStation_53 (by decide) (qs1 rfl (qs1 rfl (qs1 rfl (qs1 rfl (qs1 rfl (qs1 rfl (qs1 rfl qs0))))))) ?_
        refine R_ls (L' := [(0, .ref 1), (1, .int (nI a)), (2, .int (nI (a + 3))), (3, .int (nI ((a + 3) + (dY d)))), (4, .int (nI x)), (5, .int (nI y)), (6, .int (nI (a + 3)))]) (qs1 rfl (qs1 rfl (qs1 rfl (qs1 rfl (qs1 rfl (qs1 rfl (qs1 rfl qs0))))))) ?_
        exact (l_st1 hT hB hX hD ha hx hy he 18 0 (by omega) (by omega) rfl)
      · refine R_if_neN (tgt := 52) dX4_readStation_47 (by decide) (by omega) (fun h_47 => by exact absurd h_47 (by decide)) (fun h_47 => ?_)
        refine R_iconst (v := nI 0) dX4_readStation_50 rfl ?_
        refine R_ireturn dX4_readStation_51 rfl rfl ?_
        exact ⟨Or.inr ⟨by unfold itemS; refine if_neg (fun h => ?_); first | exact he h.2.2.1 | (rw [hx] at h; simp at h; done) | (rw [hy] at h; simp at h; done), rfl⟩, qOff.rf⟩
    · refine R_istore (L' := [(0, .ref 1), (1, .int (nI a)), (2, .int (nI (a + 3))), (3, .int (nI ((a + 3) + (dY d)))), (4, .int (nI x)), (5, .int (-1))]) dX4_readStation_30 (by decide) (qs1 rfl (qs1 rfl (qs1 rfl (qs1 rfl (qs1 rfl (qs1 rfl qs0)))))) ?_
      refine R_iload dX4_readStation_32 rfl ?_
      refine R_if_ltN (tgt := 50) dX4_readStation_34 (by decide) (by omega) ?_
      refine R_iload dX4_readStation_37 rfl ?_
      refine R_if_lt (tgt := 50) dX4_readStation_39 (by decide) (fun h_39 => ?_) (fun h_39 => by exact absurd h_39 (by decide))
      refine R_iconst (v := nI 0) dX4_readStation_50 rfl ?_
      refine R_ireturn dX4_readStation_51 rfl rfl ?_
      exact ⟨Or.inr ⟨by unfold itemS; refine if_neg (fun h => ?_); first | exact he h.2.2.1 | (rw [hx] at h; simp at h; done) | (rw [hy] at h; simp at h; done), rfl⟩, qOff.rf⟩
  · refine R_istore (L' := [(0, .ref 1), (1, .int (nI a)), (2, .int (nI (a + 3))), (3, .int (nI ((a + 3) + (dY d)))), (4, .int (-1))]) dX4_readStation_21 (by decide) (qs1 rfl (qs1 rfl (qs1 rfl (qs1 rfl (qs1 rfl qs0))))) ?_
    refine R_aload_n dX4_readStation_23 rfl ?_
    refine R_iload_n dX4_readStation_24 rfl ?_
    refine R_iconst (v := nI 2) dX4_readStation_25 rfl ?_
    refine R_iaddN dX4_readStation_26 ?_
    refine R_callV (mc := mX4_signAt) (As := [_]) (r := 1) dX4_readStation_27 lm_RX4_49 mv_X4_signAt rfl (by decide) rfl rfl rfl rfl (Nat.le_of_ble_eq_true rfl) (c_sign hT hB (i := a + 2) (by omega)) ?_
    rintro _ _ ⟨rfl, ⟨y, hy, rfl⟩ | ⟨hy, rfl⟩⟩
    · have ly := sgn_le hy
      refine R_istore (L' := [(0, .ref 1), (1, .int (nI a)), (2, .int (nI (a + 3))), (3, .int (nI ((a + 3) + (dY d)))), (4, .int (-1)), (5, .int (nI y))]) dX4_readStation_30 (by decide) (qs1 rfl (qs1 rfl (qs1 rfl (qs1 rfl (qs1 rfl (qs1 rfl qs0)))))) ?_
      refine R_iload dX4_readStation_32 rfl ?_
      refine R_if_lt (tgt := 50) dX4_readStation_34 (by decide) (fun h_34 => ?_) (fun h_34 => by exact absurd h_34 (by decide))
      refine R_iconst (v := nI 0) dX4_readStation_50 rfl ?_
      refine R_ireturn dX4_readStation_51 rfl rfl ?_
      exact ⟨Or.inr ⟨by unfold itemS; refine if_neg (fun h => ?_); first | exact he h.2.2.1 | (rw [hx] at h; simp at h; done) | (rw [hy] at h; simp at h; done), rfl⟩, qOff.rf⟩
    · refine R_istore (L' := [(0, .ref 1), (1, .int (nI a)), (2, .int (nI (a + 3))), (3, .int (nI ((a + 3) + (dY d)))), (4, .int (-1)), (5, .int (-1))]) dX4_readStation_30 (by decide) (qs1 rfl (qs1 rfl (qs1 rfl (qs1 rfl (qs1 rfl (qs1 rfl qs0)))))) ?_
      refine R_iload dX4_readStation_32 rfl ?_
      refine R_if_lt (tgt := 50) dX4_readStation_34 (by decide) (fun h_34 => ?_) (fun h_34 => by exact absurd h_34 (by decide))
      refine R_iconst (v := nI 0) dX4_readStation_50 rfl ?_
      refine R_ireturn dX4_readStation_51 rfl rfl ?_
      exact ⟨Or.inr ⟨by unfold itemS; refine if_neg (fun h => ?_); first | exact he h.2.2.1 | (rw [hx] at h; simp at h; done) | (rw [hy] at h; simp at h; done), rfl⟩, qOff.rf⟩
set_option maxRecDepth 100000 in
set_option maxHeartbeats 4000000 in
theorem c_item {M : qMem} {tx : List Nat} (hT : XT M tx) (hB : txB tx) {d : dT} (hX : XR 3 M d) (hD : dB d) {a : Nat} (ha : a < tx.length) (hK0 : a = 0 → dK d = 0) : qSem 0 mX4_readItem [.ref 1, .int (nI a)] M (fun v N => ((∃ z d2, item tx a d = some (z, d2) ∧ v = some (.int (nI z)) ∧ XR 3 N d2) ∨ (item tx a d = none ∧ v = some (.int (nI 0)))) ∧ qOff oDr M N) := by
  have hlen := hB.1
  have hla := hB.2 a ha
  refine qSem.of (by decide +kernel) (Nat.le_of_ble_eq_true rfl) (fun w => ?_)
  refine R_ls (L' := [(0, .ref 1), (1, .int (nI a))]) (qs1 rfl (qs1 rfl qs0)) ?_
  refine R_aload_n dX4_readItem_0 rfl ?_
  refine R_getR dX4_readItem_1 lg_RX4_9 (by decide) rfl rfl ?_
  refine R_iload_n dX4_readItem_4 rfl ?_
  refine R_caldN dX4_readItem_5 (by decide) rfl (by omega) (by decide) ?_
  refine R_top (y := nI (lt tx a)) (hT.2 a ha) ?_
  refine R_istore_n (L' := [(0, .ref 1), (1, .int (nI a)), (2, .int (nI (lt tx a)))]) dX4_readItem_6 (by decide) (qs1 rfl (qs1 rfl (qs1 rfl qs0))) ?_
  refine R_iload_n dX4_readItem_7 rfl ?_
  refine R_bipush (v := nI 121) dX4_readItem_8 rfl ?_
  refine R_icmp_neN (tgt := 19) dX4_readItem_10 (by decide) (by omega) (by omega) (fun h_10 => ?_) (fun h_10 => ?_)
  · refine R_aload_n dX4_readItem_19 rfl ?_
    refine R_getR dX4_readItem_20 lg_RX4_18 (by decide) rfl rfl ?_
    refine R_callV (mc := mX3_years) (As := []) (r := 3) dX4_readItem_23 lm_RX4_36 mv_X3_years rfl (by decide) rfl rfl rfl rfl (Nat.le_of_ble_eq_true rfl) c_years_3 ?_
    rintro _ _ ⟨rfl, rfl⟩
    refine R_top (y := nI (dY d)) hX.1 ?_
    refine R_if_neN (tgt := 31) dX4_readItem_26 (by decide) (by have := hD.1; omega) (fun h_26 => ?_) (fun h_26 => ?_)
    · refine R_iload_n dX4_readItem_31 rfl ?_
      refine R_bipush (v := nI 115) dX4_readItem_32 rfl ?_
      refine R_icmp_neN (tgt := 43) dX4_readItem_34 (by decide) (by omega) (by omega) (fun h_34 => ?_) (fun h_34 => ?_)
      · refine R_iload_n dX4_readItem_43 rfl ?_
        refine R_bipush (v := nI 112) dX4_readItem_44 rfl ?_
        refine R_icmp_neN (tgt := 55) dX4_readItem_46 (by decide) (by omega) (by omega) (fun h_46 => ?_) (fun h_46 => ?_)
        · refine R_iload_n dX4_readItem_55 rfl ?_
          refine R_bipush (v := nI 108) dX4_readItem_56 rfl ?_
          refine R_icmp_neN (tgt := 69) dX4_readItem_58 (by decide) (by omega) (by omega) (fun h_58 => ?_) (fun h_58 => ?_)
          · refine R_iconst (v := nI 0) dX4_readItem_69 rfl ?_
            refine R_ireturn dX4_readItem_70 rfl rfl ?_
            first | exact hr | exact ⟨Or.inr ⟨by unfold item; rw [if_neg h_10, if_neg (by omega), if_neg h_34, if_neg h_46, if_neg h_58], rfl⟩, qOff.rf⟩
          · refine R_aload_n dX4_readItem_61 rfl ?_
            refine R_iload_n dX4_readItem_62 rfl ?_
            refine R_callV (mc := mX4_readRules) (As := [_]) (r := 1) dX4_readItem_63 lm_RX4_46 mv_X4_readRules rfl (by decide) rfl rfl rfl rfl (Nat.le_of_ble_eq_true rfl) ((c_rdL hT hB hX hD (a := a) (by omega)).mono (fun v N hq => (show ∃ r : Int32, v = some (.int r) ∧ (fun v N => ((∃ z d2, item tx a d = some (z, d2) ∧ v = some (.int (nI z)) ∧ XR 3 N d2) ∨ (item tx a d = none ∧ v = some (.int (nI 0)))) ∧ qOff oDr M N) v N from by obtain ⟨⟨z, d2, h1, rfl, h3⟩ | ⟨h1, rfl⟩, hO⟩ := hq <;> first | exact ⟨_, rfl, Or.inl ⟨z, d2, by rw [← h1]; unfold item; rw [if_neg h_10, if_neg (by omega), if_neg h_34, if_neg h_46, if_pos h_58], rfl, h3⟩, hO⟩ | exact ⟨_, rfl, Or.inr ⟨by rw [← h1]; unfold item; rw [if_neg h_10, if_neg (by omega), if_neg h_34, if_neg h_46, if_pos h_58], rfl⟩, hO⟩))) ?_
            rintro _ _ ⟨r, rfl, hr⟩
            refine R_goto (tgt := 70) dX4_readItem_66 (by decide) ?_
            refine R_ireturn dX4_readItem_70 rfl rfl ?_
            first | exact hr | exact ⟨Or.inr ⟨by unfold item; rw [if_neg h_10, if_neg (by omega), if_neg h_34, if_neg h_46, if_neg h_58], rfl⟩, qOff.rf⟩
        · refine R_aload_n dX4_readItem_49 rfl ?_
          refine R_iload_n dX4_readItem_50 rfl ?_
          refine R_callV (mc := mX4_readPenalty) (As := [_]) (r := 1) dX4_readItem_51 lm_RX4_43 mv_X4_readPenalty rfl (by decide) rfl rfl rfl rfl (Nat.le_of_ble_eq_true rfl) ((c_rdP hT hB hX hD (a := a) (by omega)).mono (fun v N hq => (show ∃ r : Int32, v = some (.int r) ∧ (fun v N => ((∃ z d2, item tx a d = some (z, d2) ∧ v = some (.int (nI z)) ∧ XR 3 N d2) ∨ (item tx a d = none ∧ v = some (.int (nI 0)))) ∧ qOff oDr M N) v N from by obtain ⟨⟨z, d2, h1, rfl, h3⟩ | ⟨h1, rfl⟩, hO⟩ := hq <;> first | exact ⟨_, rfl, Or.inl ⟨z, d2, by rw [← h1]; unfold item; rw [if_neg h_10, if_neg (by omega), if_neg h_34, if_pos h_46], rfl, h3⟩, hO⟩ | exact ⟨_, rfl, Or.inr ⟨by rw [← h1]; unfold item; rw [if_neg h_10, if_neg (by omega), if_neg h_34, if_pos h_46], rfl⟩, hO⟩))) ?_
          rintro _ _ ⟨r, rfl, hr⟩
          refine R_ireturn dX4_readItem_54 rfl rfl ?_
          exact hr
      · refine R_aload_n dX4_readItem_37 rfl ?_
        refine R_iload_n dX4_readItem_38 rfl ?_
        refine R_callV (mc := mX4_readStation) (As := [_]) (r := 1) dX4_readItem_39 lm_RX4_40 mv_X4_readStation rfl (by decide) rfl rfl rfl rfl (Nat.le_of_ble_eq_true rfl) ((c_rdS hT hB hX hD (a := a) (by omega)).mono (fun v N hq => (show ∃ r : Int32, v = some (.int r) ∧ (fun v N => ((∃ z d2, item tx a d = some (z, d2) ∧ v = some (.int (nI z)) ∧ XR 3 N d2) ∨ (item tx a d = none ∧ v = some (.int (nI 0)))) ∧ qOff oDr M N) v N from by obtain ⟨⟨z, d2, h1, rfl, h3⟩ | ⟨h1, rfl⟩, hO⟩ := hq <;> first | exact ⟨_, rfl, Or.inl ⟨z, d2, by rw [← h1]; unfold item; rw [if_neg h_10, if_neg (by omega), if_pos h_34], rfl, h3⟩, hO⟩ | exact ⟨_, rfl, Or.inr ⟨by rw [← h1]; unfold item; rw [if_neg h_10, if_neg (by omega), if_pos h_34], rfl⟩, hO⟩))) ?_
        rintro _ _ ⟨r, rfl, hr⟩
        refine R_ireturn dX4_readItem_42 rfl rfl ?_
        exact hr
    · refine R_iconst (v := nI 0) dX4_readItem_29 rfl ?_
      refine R_ireturn dX4_readItem_30 rfl rfl ?_
      exact ⟨Or.inr ⟨by unfold item; rw [if_neg h_10, if_pos (by omega)], rfl⟩, qOff.rf⟩
  · refine R_aload_n dX4_readItem_13 rfl ?_
    refine R_iload_n dX4_readItem_14 rfl ?_
    refine R_callV (mc := mX4_readYears) (As := [_]) (r := 1) dX4_readItem_15 lm_RX4_33 mv_X4_readYears rfl (by decide) rfl rfl rfl rfl (Nat.le_of_ble_eq_true rfl) ((c_rdY hT hB hX hD (a := a) (by omega) hK0).mono (fun v N hq => (show ∃ r : Int32, v = some (.int r) ∧ (fun v N => ((∃ z d2, item tx a d = some (z, d2) ∧ v = some (.int (nI z)) ∧ XR 3 N d2) ∨ (item tx a d = none ∧ v = some (.int (nI 0)))) ∧ qOff oDr M N) v N from by obtain ⟨⟨z, d2, h1, rfl, h3⟩ | ⟨h1, rfl⟩, hO⟩ := hq <;> first | exact ⟨_, rfl, Or.inl ⟨z, d2, by rw [← h1]; unfold item; rw [if_pos h_10], rfl, h3⟩, hO⟩ | exact ⟨_, rfl, Or.inr ⟨by rw [← h1]; unfold item; rw [if_pos h_10], rfl⟩, hO⟩))) ?_
    rintro _ _ ⟨r, rfl, hr⟩
    refine R_ireturn dX4_readItem_18 rfl rfl ?_
    exact hr

def rdR (tx : List Nat) : Nat ⊕ dT := prs tx (tx.length + 1) 0 dFresh
abbrev qrd (tx : List Nat) (M : qMem) : qQ := fun v N => (match rdR tx with
  | .inl f => v = some (.int (nI f)) ∧ f < tx.length
  | .inr d => v = some (.int (-4)) ∧ XR 3 N d) ∧ qOff oDr M N
theorem prs_stop {tx : List Nat} {F a : Nat} {d : dT} (h : ¬ a < tx.length) : prs tx F a d = .inr d := by
  cases F with
  | zero => rfl
  | succ F => unfold prs; rw [if_neg h]
theorem prs_bad {tx : List Nat} {F a : Nat} {d : dT} (h : a < tx.length) (hi : item tx a d = none) : prs tx (F + 1) a d = .inl a := by
  unfold prs; rw [if_pos h, hi]
theorem prs_go {tx : List Nat} {F a z : Nat} {d d2 : dT} (h : a < tx.length) (hi : item tx a d = some (z, d2)) : prs tx (F + 1) a d = prs tx F (a + z) d2 := by
  rw [prs, if_pos h, hi]
set_option maxRecDepth 100000 in
set_option maxHeartbeats 4000000 in
theorem l_read {w : qWT} {M : qMem} {tx : List Nat} (hT : XT M tx) (hB : txB tx) : ∀ (fu : Nat) (a F : Nat) (d : dT) (K : qMem), (tx.length + 1 - a) < fu → (a ≤ tx.length) → (tx.length < a + F) → (prs tx F a d = rdR tx) → (XR 3 K d) → (dB d) → (a = 0 → dK d = 0) → (qOff oDr M K) → qRW 0 w mX4_read 9 [(0, .ref 1), (1, .int (nI a))] [] K (qrd tx M) := by
  intro fu
  induction fu with
  | zero => intro a F d K hn; exact absurd hn (Nat.not_lt_zero _)
  | succ fu ih =>
    intro a F d K hn ha hF hp hX hD hK0 hO
    have hlen := hB.1
    have hTK : XT K tx := hT.dr hO
    refine R_iload_n dX4_read_9 rfl ?_
    refine R_aload_n dX4_read_10 rfl ?_
    refine R_getI dX4_read_11 (lf_RX4_22).get (by decide) rfl rfl ?_
    refine R_top (y := nI tx.length) hTK.1 ?_
    refine R_icmp_geN (tgt := 37) dX4_read_14 (by decide) (by omega) (by omega) (fun h_14 => ?_) (fun h_14 => ?_)
    · refine R_bipush (v := -4) dX4_read_37 rfl ?_
      refine R_ireturn dX4_read_39 rfl rfl ?_
      have e : rdR tx = .inr d := by rw [← hp]; exact prs_stop (by omega)
      unfold qrd; rw [e]
      exact ⟨⟨rfl, hX⟩, hO⟩
    · refine R_aload_n dX4_read_17 rfl ?_
      refine R_iload_n dX4_read_18 rfl ?_
      refine R_callV (mc := mX4_readItem) (As := [_]) (r := 1) dX4_read_19 lm_RX4_29 mv_X4_readItem rfl (by decide) rfl rfl rfl rfl (Nat.le_of_ble_eq_true rfl) (c_item hTK hB hX hD h_14 hK0) ?_
      rintro _ _ ⟨⟨z, d2, hi, rfl, hX2⟩ | ⟨hi, rfl⟩, hO2⟩
      · obtain ⟨F2, rfl⟩ : ∃ F2, F = F2 + 1 := ⟨F - 1, by omega⟩
        have hok := item_ok hi hD
        refine R_istore_n (L' := [(0, .ref 1), (1, .int (nI a)), (2, .int (nI z))]) dX4_read_22 (by decide) (qs1 rfl (qs1 rfl (qs1 rfl qs0))) ?_
        refine R_iload_n dX4_read_23 rfl ?_
        refine R_iconst (v := nI 1) dX4_read_24 rfl ?_
        refine R_icmp_geN (tgt := 30) dX4_read_25 (by decide) (by omega) (by omega) (fun h_25 => ?_) (fun h_25 => by omega)
        refine R_iload_n dX4_read_30 rfl ?_
        refine R_iload_n dX4_read_31 rfl ?_
        refine R_iaddN dX4_read_32 ?_
        refine R_istore_n (L' := [(0, .ref 1), (1, .int (nI (a + z))), (2, .int (nI z))]) dX4_read_33 (by decide) (qs1 rfl (qs1 rfl (qs1 rfl qs0))) ?_
        refine R_goto (tgt := 9) dX4_read_34 (by decide) ?_
        refine R_ls (L' := [(0, .ref 1), (1, .int (nI (a + z)))]) (qs1 rfl (qs1 rfl qs0)) ?_
        exact (ih (a + z) F2 d2 _ (by omega) hok.2.2 (by omega) (by rw [← prs_go h_14 hi]; exact hp) hX2 hok.1 (fun e => by omega) (hO.tr hO2))
      · obtain ⟨F2, rfl⟩ : ∃ F2, F = F2 + 1 := ⟨F - 1, by omega⟩
        refine R_istore_n (L' := [(0, .ref 1), (1, .int (nI a)), (2, .int (nI 0))]) dX4_read_22 (by decide) (qs1 rfl (qs1 rfl (qs1 rfl qs0))) ?_
        refine R_iload_n dX4_read_23 rfl ?_
        refine R_iconst (v := nI 1) dX4_read_24 rfl ?_
        refine R_icmp_geN (tgt := 30) dX4_read_25 (by decide) (by omega) (by omega) (fun h_25 => by exact absurd h_25 (by decide)) (fun h_25 => ?_)
        refine R_iload_n dX4_read_28 rfl ?_
        refine R_ireturn dX4_read_29 rfl rfl ?_
        have e : rdR tx = .inl a := by rw [← hp]; exact prs_bad h_14 hi
        unfold qrd; rw [e]
        exact ⟨⟨rfl, h_14⟩, hO.tr hO2⟩
set_option maxRecDepth 100000 in
set_option maxHeartbeats 4000000 in
theorem c_read {M : qMem} {tx : List Nat} (hT : XT M tx) (hB : txB tx) : qSem 0 mX4_read [.ref 1] M (qrd tx M) := by
  refine qSem.of (by decide +kernel) (Nat.le_of_ble_eq_true rfl) (fun w => ?_)
  refine R_ls (L' := [(0, .ref 1)]) (qs1 rfl qs0) ?_
  refine R_aload_n dX4_read_0 rfl ?_
  refine R_getR dX4_read_1 lg_RX4_18 (by decide) rfl rfl ?_
  refine R_callV (mc := mX3_startAfresh) (As := []) (r := 3) dX4_read_4 lm_RX4_26 mv_X3_startAfresh rfl (by decide) rfl rfl rfl rfl (Nat.le_of_ble_eq_true rfl) c_startAfresh ?_
  rintro _ _ ⟨rfl, hX, hO⟩
  refine R_iconst (v := nI 0) dX4_read_7 rfl ?_
  refine R_istore_n (L' := [(0, .ref 1), (1, .int (nI 0))]) dX4_read_8 (by decide) (qs1 rfl (qs1 rfl qs0)) ?_
  refine R_ls (L' := [(0, .ref 1), (1, .int (nI 0))]) (qs1 rfl (qs1 rfl qs0)) ?_
  exact (l_read hT hB (tx.length + 2) 0 (tx.length + 1) dFresh _ (by omega) (by omega) (by omega) rfl hX dB_fresh (fun _ => rfl) hO)
