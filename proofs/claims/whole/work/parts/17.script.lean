
/-- the answer of the segmentation with exactly k breaks -/
def spA (l : List (Nat × Int32)) (R k : Nat) (x : Int64) : Prop := match rst l.length R (fz l) k 0 with
  | some s => x.toInt = s
  | none => x = -4
theorem spA_none {l : List (Nat × Int32)} {R k : Nat} (hR : 1 ≤ R) (h0 : 0 < k) (h : l.length < (k + 1) * R) : spA l R k (-4) := by
  unfold spA
  cases e : rst l.length R (fz l) k 0 with
  | none => rfl
  | some s => have := rst_room l.length R (fz l) hR e (Or.inl h0); omega
set_option maxRecDepth 100000 in
set_option maxHeartbeats 4000000 in
theorem l_sp2 {w : qWT} {M : qMem} {l : List (Nat × Int32)} (hS : XS M l) (hb : serB l) {R k : Nat} (hR : 1 ≤ R) (hR4 : R ≤ 4) (hk : k < 2147483648) (hf : k = 0 ∨ (k + 1) * R ≤ l.length) : ∀ (fu : Nat) (r : Nat) (K : qMem), (k + 1 - r) < fu → (r ≤ k) → ((∀ a, a + (r + 1) * R ≤ l.length → Fx K l R r a)) → (r = 0 → (K.2 34 0).toInt = fz l 0 l.length) → (XS K l) → (qOff oSg M K) → qRW 0 w mX5_scaledSpreads 65 [(0, .ref 30), (1, .int (nI R)), (2, .int (nI k)), (4, .int (nI (r + 2)))] [] K (fun v N => (∃ x, v = some (.long x) ∧ spA l R k x) ∧ qOff oSg M N) := by
  intro fu
  induction fu with
  | zero => intro r K hn; exact absurd hn (Nat.not_lt_zero _)
  | succ fu ih =>
    intro r K hn hr hF h0 hSK hO
    have hl16 := hS.2.1
    have hk16 : k ≤ 16 := by rcases hf with h | h <;> first | omega | (have := Nat.le_mul_of_pos_right (k + 1) hR; omega)
    refine R_iload dX5_scaledSpreads_65 rfl ?_
    refine R_iload_n dX5_scaledSpreads_67 rfl ?_
    refine R_iconst (v := nI 1) dX5_scaledSpreads_68 rfl ?_
    refine R_iaddN dX5_scaledSpreads_69 ?_
    refine R_icmp_gtN (tgt := 86) dX5_scaledSpreads_70 (by decide) (by omega) (by omega) (fun h_70 => ?_) (fun h_70 => ?_)
    · refine R_aload_n dX5_scaledSpreads_86 rfl ?_
      refine R_getR dX5_scaledSpreads_87 lg_RX5_29 (by decide) rfl rfl ?_
      refine R_iconst (v := nI 0) dX5_scaledSpreads_90 rfl ?_
      refine R_laldN dX5_scaledSpreads_91 (by decide) rfl (by omega) (by decide) ?_
      refine R_lreturn dX5_scaledSpreads_92 rfl ?_
      refine ⟨⟨_, rfl, ?_⟩, hO⟩
      have e : r = k := by omega
      subst e
      unfold spA
      rcases Nat.eq_zero_or_pos r with e | e
      · subst e; rw [rst_k0 _ _ _ (Or.inl rfl)]; exact h0 rfl
      · obtain ⟨s, hs⟩ := rst_some l.length R (fz l) hR (k := r) (i := 0) (by rcases hf with h | h <;> omega)
        rw [hs]; exact hF 0 (by rcases hf with h | h <;> omega) s hs
    · refine R_aload_n dX5_scaledSpreads_73 rfl ?_
      refine R_iload dX5_scaledSpreads_74 rfl ?_
      refine R_iload_n dX5_scaledSpreads_76 rfl ?_
      refine R_callV (mc := mX5_addRun) (As := [_, _]) (r := 30) dX5_scaledSpreads_77 lm_RX5_65 mv_X5_addRun rfl (by decide) rfl rfl rfl rfl (Nat.le_of_ble_eq_true rfl) (c_addRun hSK hb hR hR4 (r := r) (by rcases hf with h | h <;> first | omega | exact Nat.le_trans (Nat.mul_le_mul_right R (by omega)) h) (fun a ha => hF a ha)) ?_
      rintro _ _ ⟨rfl, hF2, hO2, h22, h12⟩
      refine R_iincN (n := 1) (L' := [(0, .ref 30), (1, .int (nI R)), (2, .int (nI k)), (4, .int (nI ((r + 2) + 1)))]) dX5_scaledSpreads_80 rfl (by decide) (qs1 rfl (qs1 rfl (qs1 rfl (qs1 rfl qs0)))) ?_
      refine R_goto (tgt := 65) dX5_scaledSpreads_83 (by decide) ?_
      refine R_ls (L' := [(0, .ref 30), (1, .int (nI R)), (2, .int (nI k)), (4, .int (nI ((r + 2) + 1)))]) (qs1 rfl (qs1 rfl (qs1 rfl (qs1 rfl qs0)))) ?_
      exact (ih (r + 1) _ (by omega) (by omega) (fun a ha => hF2 a ha) (fun e => absurd e (Nat.succ_ne_zero r)) (hSK.off (fun o h1 h2 => ⟨by rw [h12], h22 o (by omega)⟩)) (hO.tr hO2))
set_option maxRecDepth 100000 in
set_option maxHeartbeats 4000000 in
theorem l_sp1 {w : qWT} {M : qMem} {l : List (Nat × Int32)} (hS : XS M l) (hb : serB l) {R k : Nat} (hR : 1 ≤ R) (hR4 : R ≤ 4) (hk : k < 2147483648) (hf : k = 0 ∨ (k + 1) * R ≤ l.length) : ∀ (fu : Nat) (i : Nat) (K : qMem), (l.length + 2 - i) < fu → (i ≤ l.length + 1) → (∀ a, a < i → K.2 34 a = spd l a l.length) → (XS K l) → (qOff oSg M K) → qRW 0 w mX5_scaledSpreads 33 [(0, .ref 30), (1, .int (nI R)), (2, .int (nI k)), (3, .int (nI (l.length))), (4, .int (nI i))] [] K (fun v N => (∃ x, v = some (.long x) ∧ spA l R k x) ∧ qOff oSg M N) := by
  intro fu
  induction fu with
  | zero => intro i K hn; exact absurd hn (Nat.not_lt_zero _)
  | succ fu ih =>
    intro i K hn hi hF hSK hO
    have hl16 := hS.2.1
    refine R_iload dX5_scaledSpreads_33 rfl ?_
    refine R_iload_n dX5_scaledSpreads_35 rfl ?_
    refine R_icmp_gtN (tgt := 62) dX5_scaledSpreads_36 (by decide) (by omega) (by omega) (fun h_36 => ?_) (fun h_36 => ?_)
    · refine R_iconst (v := nI 2) dX5_scaledSpreads_62 rfl ?_
      refine R_istore (L' := [(0, .ref 30), (1, .int (nI R)), (2, .int (nI k)), (3, .int (nI (l.length))), (4, .int (nI 2))]) dX5_scaledSpreads_63 (by decide) (qs1 rfl (qs1 rfl (qs1 rfl (qs1 rfl (qs1 rfl qs0))))) ?_
      refine R_ls (L' := [(0, .ref 30), (1, .int (nI R)), (2, .int (nI k)), (4, .int (nI 2))]) (qs1 rfl (qs1 rfl (qs1 rfl (qs1 rfl qs0)))) ?_
      exact (l_sp2 hS hb hR hR4 hk hf (k + 2) 0 K (by omega) (Nat.zero_le _) (fun a ha s hs => by have ha2 : a + R ≤ l.length := (by omega); rw [rst_k0 _ _ _ (Or.inr ha2)] at hs; cases hs; rw [hF a (by omega)]; rfl) (fun _ => by rw [hF 0 (by omega)]; rfl) hSK hO)
    · refine R_aload_n dX5_scaledSpreads_39 rfl ?_
      refine R_getR dX5_scaledSpreads_40 lg_RX5_29 (by decide) rfl rfl ?_
      refine R_iload dX5_scaledSpreads_43 rfl ?_
      refine R_aload_n dX5_scaledSpreads_45 rfl ?_
      refine R_getR dX5_scaledSpreads_46 lg_RX5_12 (by decide) rfl rfl ?_
      refine R_iload dX5_scaledSpreads_49 rfl ?_
      refine R_iload_n dX5_scaledSpreads_51 rfl ?_
      refine R_callV (mc := mX6_scaledSpread) (As := [_, _]) (r := 25) dX5_scaledSpreads_52 lm_RX5_52 mv_X6_scaledSpread rfl (by decide) rfl rfl rfl rfl (Nat.le_of_ble_eq_true rfl) (c_spread hSK (by omega) (by omega)) ?_
      rintro _ _ ⟨rfl, rfl⟩
      refine R_lastN dX5_scaledSpreads_55 (by decide) rfl (by omega) (by decide) ?_
      refine R_iincN (n := 1) (L' := [(0, .ref 30), (1, .int (nI R)), (2, .int (nI k)), (3, .int (nI (l.length))), (4, .int (nI (i + 1)))]) dX5_scaledSpreads_56 rfl (by decide) (qs1 rfl (qs1 rfl (qs1 rfl (qs1 rfl (qs1 rfl qs0))))) ?_
      refine R_goto (tgt := 33) dX5_scaledSpreads_59 (by decide) ?_
      refine R_ls (L' := [(0, .ref 30), (1, .int (nI R)), (2, .int (nI k)), (3, .int (nI (l.length))), (4, .int (nI (i + 1)))]) (qs1 rfl (qs1 rfl (qs1 rfl (qs1 rfl (qs1 rfl qs0))))) ?_
      exact (ih (i + 1) _ (by omega) (by omega) (fun a ha => by simp only [qLs_2, true_and]; split <;> rename_i hh <;> first | rw [hh] | exact hF a (by omega)) (hSK.off (fun o h1 h2 => ⟨rfl, qLs_no (by omega)⟩)) (qOff.ls hO (by unfold oSg; omega)))
set_option maxRecDepth 100000 in
set_option maxHeartbeats 4000000 in
theorem c_sp {M : qMem} {l : List (Nat × Int32)} (hS : XS M l) (hb : serB l) {R k : Nat} (hR : 1 ≤ R) (hR4 : R ≤ 4) (hk : k < 2147483648) : qSem 0 mX5_scaledSpreads [.ref 30, .int (nI R), .int (nI k)] M (fun v N => (∃ x, v = some (.long x) ∧ spA l R k x) ∧ qOff oSg M N) := by
  have hl16 := hS.2.1
  refine qSem.of (by decide +kernel) (Nat.le_of_ble_eq_true rfl) (fun w => ?_)
  refine R_ls (L' := [(0, .ref 30), (1, .int (nI R)), (2, .int (nI k))]) (qs1 rfl (qs1 rfl (qs1 rfl qs0))) ?_
  refine R_aload_n dX5_scaledSpreads_0 rfl ?_
  refine R_getR dX5_scaledSpreads_1 lg_RX5_12 (by decide) rfl rfl ?_
  refine R_callV (mc := mX6_length) (As := []) (r := 25) dX5_scaledSpreads_4 lm_RX5_39 mv_X6_length rfl (by decide) rfl rfl rfl rfl (Nat.le_of_ble_eq_true rfl) (c_slen hS) ?_
  rintro _ _ ⟨rfl, rfl⟩
  refine R_istore_n (L' := [(0, .ref 30), (1, .int (nI R)), (2, .int (nI k)), (3, .int (nI (l.length)))]) dX5_scaledSpreads_7 (by decide) (qs1 rfl (qs1 rfl (qs1 rfl (qs1 rfl qs0)))) ?_
  refine R_iload_n dX5_scaledSpreads_8 rfl ?_
  refine R_if_leN (tgt := 30) dX5_scaledSpreads_9 (by decide) (by omega) (fun h_9 => ?_) (fun h_9 => ?_)
  · refine R_iconst (v := nI 0) dX5_scaledSpreads_30 rfl ?_
    refine R_istore (L' := [(0, .ref 30), (1, .int (nI R)), (2, .int (nI k)), (3, .int (nI (l.length))), (4, .int (nI 0))]) dX5_scaledSpreads_31 (by decide) (qs1 rfl (qs1 rfl (qs1 rfl (qs1 rfl (qs1 rfl qs0))))) ?_
    refine R_ls (L' := [(0, .ref 30), (1, .int (nI R)), (2, .int (nI k)), (3, .int (nI (l.length))), (4, .int (nI 0))]) (qs1 rfl (qs1 rfl (qs1 rfl (qs1 rfl (qs1 rfl qs0))))) ?_
    exact (l_sp1 hS hb hR hR4 hk (by omega) (l.length + 3) 0 M (by omega) (by omega) (fun a ha => absurd ha (Nat.not_lt_zero a)) hS qOff.rf)
  · refine R_iload_n dX5_scaledSpreads_12 rfl ?_
    refine R_iload_n dX5_scaledSpreads_13 rfl ?_
    refine R_icmp_geN (tgt := 26) dX5_scaledSpreads_14 (by decide) (by omega) (by omega) (fun h_14 => ?_) (fun h_14 => ?_)
    · refine R_ldc2 dX5_scaledSpreads_26 lc_RX5_63 ?_
      refine R_lreturn dX5_scaledSpreads_29 rfl ?_
      exact ⟨⟨_, rfl, spA_none hR h_9 (by have := Nat.le_mul_of_pos_right (k + 1) hR; omega)⟩, qOff.rf⟩
    · refine R_iload_n dX5_scaledSpreads_17 rfl ?_
      refine R_iconst (v := nI 1) dX5_scaledSpreads_18 rfl ?_
      refine R_iaddN dX5_scaledSpreads_19 ?_
      refine R_iload_n dX5_scaledSpreads_20 rfl ?_
      refine R_imulN dX5_scaledSpreads_21 ?_
      have hm : (k + 1) * R ≤ 17 * 4 := Nat.mul_le_mul (by omega) hR4
      refine R_iload_n dX5_scaledSpreads_22 rfl ?_
      refine R_icmp_leN (tgt := 30) dX5_scaledSpreads_23 (by decide) (by omega) (by omega) (fun h_23 => ?_) (fun h_23 => ?_)
      · refine R_iconst (v := nI 0) dX5_scaledSpreads_30 rfl ?_
        refine R_istore (L' := [(0, .ref 30), (1, .int (nI R)), (2, .int (nI k)), (3, .int (nI (l.length))), (4, .int (nI 0))]) dX5_scaledSpreads_31 (by decide) (qs1 rfl (qs1 rfl (qs1 rfl (qs1 rfl (qs1 rfl qs0))))) ?_
        refine R_ls (L' := [(0, .ref 30), (1, .int (nI R)), (2, .int (nI k)), (3, .int (nI (l.length))), (4, .int (nI 0))]) (qs1 rfl (qs1 rfl (qs1 rfl (qs1 rfl (qs1 rfl qs0))))) ?_
        exact (l_sp1 hS hb hR hR4 hk (by omega) (l.length + 3) 0 M (by omega) (by omega) (fun a ha => absurd ha (Nat.not_lt_zero a)) hS qOff.rf)
      · refine R_ldc2 dX5_scaledSpreads_26 lc_RX5_63 ?_
        refine R_lreturn dX5_scaledSpreads_29 rfl ?_
        exact ⟨⟨_, rfl, spA_none hR h_9 (by omega)⟩, qOff.rf⟩

theorem XT.off {M N : qMem} {tx : List Nat} (h : XT M tx) (e1 : N.1 1 = M.1 1) (e2 : N.1 2 = M.1 2) : XT N tx := ⟨by rw [e1]; exact h.1, fun i hi => by rw [e2]; exact h.2 i hi⟩
theorem XT.dr {M N : qMem} {tx : List Nat} (h : XT M tx) (hO : qOff oDr M N) : XT N tx := h.off (hO 1 (by unfold oDr; omega)).1 (hO 2 (by unfold oDr; omega)).1
abbrev qsg (tx : List Nat) (i : Nat) (M : qMem) : qQ := fun v N => M = N ∧ ((∃ n, sgn tx i = some n ∧ v = some (.int (nI n))) ∨ (sgn tx i = none ∧ v = some (.int (-1))))
set_option maxRecDepth 100000 in
set_option maxHeartbeats 4000000 in
theorem c_xlen {M : qMem} {tx : List Nat} (hT : XT M tx) : qSem 0 mX4_length [.ref 1] M (qr (nI tx.length) M) := by
  refine qSem.of (by decide +kernel) (Nat.le_of_ble_eq_true rfl) (fun w => ?_)
  refine R_ls (L' := [(0, .ref 1)]) (qs1 rfl qs0) ?_
  refine R_aload_n dX4_length_0 rfl ?_
  refine R_getI dX4_length_1 (lf_RX4_22).get (by decide) rfl rfl ?_
  refine R_top (y := nI tx.length) hT.1 ?_
  refine R_ireturn dX4_length_4 rfl rfl ?_
  exact ⟨rfl, rfl⟩
set_option maxRecDepth 100000 in
set_option maxHeartbeats 4000000 in
theorem c_xclear {M : qMem} : qSem 0 mX4_clear [.ref 1] M (qv (qIs M 1 1 (nI 0))) := by
  refine qSem.of (by decide +kernel) (Nat.le_of_ble_eq_true rfl) (fun w => ?_)
  refine R_ls (L' := [(0, .ref 1)]) (qs1 rfl qs0) ?_
  refine R_aload_n dX4_clear_0 rfl ?_
  refine R_iconst (v := nI 0) dX4_clear_1 rfl ?_
  refine R_putI dX4_clear_2 lf_RX4_22 (by decide) rfl rfl rfl rfl ?_
  refine R_return dX4_clear_5 rfl ?_
  exact ⟨rfl, rfl⟩
set_option maxRecDepth 100000 in
set_option maxHeartbeats 4000000 in
theorem c_draft {M : qMem} : qSem 0 mX4_draft [.ref 1] M (fun v N => v = some (.ref 3) ∧ N = M) := by
  refine qSem.of (by decide +kernel) (Nat.le_of_ble_eq_true rfl) (fun w => ?_)
  refine R_ls (L' := [(0, .ref 1)]) (qs1 rfl qs0) ?_
  refine R_aload_n dX4_draft_0 rfl ?_
  refine R_getR dX4_draft_1 lg_RX4_18 (by decide) rfl rfl ?_
  refine R_areturn dX4_draft_4 rfl ?_
  exact ⟨rfl, rfl⟩

theorem XT_app {M : qMem} {tx : List Nat} {c : Nat} (hT : XT M tx) : XT (qIs (qIs M 2 tx.length (nI c)) 1 1 (nI (tx.length + 1))) (tx ++ [c]) := by
  refine ⟨by rw [qIs_eq, List.length_append]; rfl, fun i hi => ?_⟩
  rw [List.length_append] at hi
  simp at hi
  rw [qIs_no (by decide)]
  by_cases h : i < tx.length
  · rw [qIs_nk (by omega), hT.2 i h]
    simp [lt, List.getD_eq_getElem?_getD, List.getElem?_append_left h]
  · have e : i = tx.length := by omega
    subst e
    rw [qIs_eq]
    simp [lt, List.getD_eq_getElem?_getD]
theorem nar_c {c : Nat} (h : c ≤ 126) : vp_nar .char ((nI c).toUInt32 % 65536).toInt32 = nI c := by
  rw [pk_vc, pk_char, pk_tn (by omega), Nat.mod_eq_of_lt (by omega)]
set_option maxRecDepth 100000 in
set_option maxHeartbeats 4000000 in
theorem c_append {M : qMem} {tx : List Nat} (hT : XT M tx) (hB : txB tx) {x : Int32} {c : Nat} (hc : vp_nar .char x = nI c) : qSem 0 mX4_append [.ref 1, .int (x)] M (fun v N => (tx.length < 200 ∧ v = some (.int (nI 1)) ∧ N = qIs (qIs M 2 tx.length (nI c)) 1 1 (nI (tx.length + 1))) ∨ (tx.length = 200 ∧ v = some (.int (nI 0)) ∧ N = M)) := by
  refine qSem.of (by decide +kernel) (Nat.le_of_ble_eq_true rfl) (fun w => ?_)
  refine R_ls (L' := [(0, .ref 1), (1, .int (x))]) (qs1 rfl (qs1 rfl qs0)) ?_
  refine R_aload_n dX4_append_0 rfl ?_
  refine R_getI dX4_append_1 (lf_RX4_22).get (by decide) rfl rfl ?_
  refine R_top (y := nI tx.length) hT.1 ?_
  refine R_sipush (v := nI 200) dX4_append_4 rfl ?_
  refine R_icmp_ltN (tgt := 12) dX4_append_7 (by decide) (by have := hB.1; omega) (by omega) (fun h_7 => ?_) (fun h_7 => ?_)
  · refine R_aload_n dX4_append_12 rfl ?_
    refine R_getR dX4_append_13 lg_RX4_9 (by decide) rfl rfl ?_
    refine R_aload_n dX4_append_16 rfl ?_
    refine R_getI dX4_append_17 (lf_RX4_22).get (by decide) rfl rfl ?_
    refine R_top (y := nI tx.length) hT.1 ?_
    refine R_iload_n dX4_append_20 rfl ?_
    refine R_castN dX4_append_21 (by decide) rfl (by omega) (by decide) ?_
    refine R_aload_n dX4_append_22 rfl ?_
    refine R_dup dX4_append_23 rfl ?_
    refine R_getI dX4_append_24 (lf_RX4_22).get (by decide) rfl rfl ?_
    refine R_top (y := nI tx.length) (by rw [qIs_no (by decide)]; exact hT.1) ?_
    refine R_iconst (v := nI 1) dX4_append_27 rfl ?_
    refine R_iaddN dX4_append_28 ?_
    refine R_putI dX4_append_29 lf_RX4_22 (by decide) rfl rfl rfl rfl ?_
    refine R_iconst (v := nI 1) dX4_append_32 rfl ?_
    refine R_ireturn dX4_append_33 rfl rfl ?_
    exact Or.inl ⟨h_7, rfl, by rw [hc]⟩
  · refine R_iconst (v := nI 0) dX4_append_10 rfl ?_
    refine R_ireturn dX4_append_11 rfl rfl ?_
    exact Or.inr ⟨by have := hB.1; omega, rfl, rfl⟩
set_option maxRecDepth 100000 in
set_option maxHeartbeats 4000000 in
theorem c_ends {M : qMem} {tx : List Nat} (hT : XT M tx) (hB : txB tx) {i : Nat} (hi : i < 1000) : qSem 0 mX4_endsAt [.ref 1, .int (nI i)] M (qb (lt tx i = 59) M) := by
  have hl := hB.1
  refine qSem.of (by decide +kernel) (Nat.le_of_ble_eq_true rfl) (fun w => ?_)
  refine R_ls (L' := [(0, .ref 1), (1, .int (nI i))]) (qs1 rfl (qs1 rfl qs0)) ?_
  refine R_iload_n dX4_endsAt_0 rfl ?_
  refine R_aload_n dX4_endsAt_1 rfl ?_
  refine R_getI dX4_endsAt_2 (lf_RX4_22).get (by decide) rfl rfl ?_
  refine R_top (y := nI tx.length) hT.1 ?_
  refine R_icmp_geN (tgt := 23) dX4_endsAt_5 (by decide) (by omega) (by omega) (fun h_5 => ?_) (fun h_5 => ?_)
  · refine R_iconst (v := nI 0) dX4_endsAt_23 rfl ?_
    refine R_ireturn dX4_endsAt_24 rfl rfl ?_
    exact ⟨rfl, by first | exact Or.inl ⟨rfl, by assumption⟩ | exact Or.inr ⟨rfl, by assumption⟩ | exact Or.inr ⟨rfl, by rw [lt_out (by assumption)]; decide⟩⟩
  · refine R_aload_n dX4_endsAt_8 rfl ?_
    refine R_getR dX4_endsAt_9 lg_RX4_9 (by decide) rfl rfl ?_
    refine R_iload_n dX4_endsAt_12 rfl ?_
    refine R_caldN dX4_endsAt_13 (by decide) rfl (by omega) (by decide) ?_
    refine R_top (y := nI (lt tx i)) (hT.2 i (by omega)) ?_
    refine R_bipush (v := nI 59) dX4_endsAt_14 rfl ?_
    refine R_icmp_neN (tgt := 23) dX4_endsAt_16 (by decide) (by have := hB.2 i (by omega); omega) (by omega) (fun h_16 => ?_) (fun h_16 => ?_)
    · refine R_iconst (v := nI 0) dX4_endsAt_23 rfl ?_
      refine R_ireturn dX4_endsAt_24 rfl rfl ?_
      exact ⟨rfl, by first | exact Or.inl ⟨rfl, by assumption⟩ | exact Or.inr ⟨rfl, by assumption⟩ | exact Or.inr ⟨rfl, by rw [lt_out (by assumption)]; decide⟩⟩
    · refine R_iconst (v := nI 1) dX4_endsAt_19 rfl ?_
      refine R_goto (tgt := 24) dX4_endsAt_20 (by decide) ?_
      refine R_ireturn dX4_endsAt_24 rfl rfl ?_
      exact ⟨rfl, by first | exact Or.inl ⟨rfl, by assumption⟩ | exact Or.inr ⟨rfl, by assumption⟩ | exact Or.inr ⟨rfl, by rw [lt_out (by assumption)]; decide⟩⟩
set_option maxRecDepth 100000 in
set_option maxHeartbeats 4000000 in
theorem c_sign {M : qMem} {tx : List Nat} (hT : XT M tx) (hB : txB tx) {i : Nat} (hi : i < 1000) : qSem 0 mX4_signAt [.ref 1, .int (nI i)] M (qsg tx i M) := by
  have hl := hB.1
  refine qSem.of (by decide +kernel) (Nat.le_of_ble_eq_true rfl) (fun w => ?_)
  refine R_ls (L' := [(0, .ref 1), (1, .int (nI i))]) (qs1 rfl (qs1 rfl qs0)) ?_
  refine R_iload_n dX4_signAt_0 rfl ?_
  refine R_aload_n dX4_signAt_1 rfl ?_
  refine R_getI dX4_signAt_2 (lf_RX4_22).get (by decide) rfl rfl ?_
  refine R_top (y := nI tx.length) hT.1 ?_
  refine R_icmp_ltN (tgt := 10) dX4_signAt_5 (by decide) (by omega) (by omega) (fun h_5 => ?_) (fun h_5 => ?_)
  · refine R_aload_n dX4_signAt_10 rfl ?_
    refine R_getR dX4_signAt_11 lg_RX4_9 (by decide) rfl rfl ?_
    refine R_iload_n dX4_signAt_14 rfl ?_
    refine R_caldN dX4_signAt_15 (by decide) rfl (by omega) (by decide) ?_
    refine R_top (y := nI (lt tx i)) (hT.2 i (by omega)) ?_
    refine R_istore_n (L' := [(0, .ref 1), (1, .int (nI i)), (2, .int (nI (lt tx i)))]) dX4_signAt_16 (by decide) (qs1 rfl (qs1 rfl (qs1 rfl qs0))) ?_
    refine R_iload_n dX4_signAt_17 rfl ?_
    refine R_bipush (v := nI 48) dX4_signAt_18 rfl ?_
    refine R_icmp_ltN (tgt := 34) dX4_signAt_20 (by decide) (by have := hB.2 i (by omega); omega) (by omega) (fun h_20 => ?_) (fun h_20 => ?_)
    · refine R_iload_n dX4_signAt_34 rfl ?_
      refine R_bipush (v := nI 97) dX4_signAt_35 rfl ?_
      refine R_icmp_ltN (tgt := 56) dX4_signAt_37 (by decide) (by have := hB.2 i (by omega); omega) (by omega) (fun h_37 => ?_) (fun h_37 => ?_)
      · refine R_iconst (v := -1) dX4_signAt_56 rfl ?_
        refine R_ireturn dX4_signAt_57 rfl rfl ?_
        exact ⟨rfl, by first | exact Or.inr ⟨by unfold sgn; rw [if_neg (by omega), if_neg (by omega)], rfl⟩ | exact Or.inl ⟨_, by unfold sgn; rw [if_neg (by omega), if_pos (by omega), show lt tx i - 87 = lt tx i - 97 + 10 by omega], rfl⟩⟩
      · refine R_iload_n dX4_signAt_40 rfl ?_
        refine R_bipush (v := nI 115) dX4_signAt_41 rfl ?_
        refine R_icmp_gtN (tgt := 56) dX4_signAt_43 (by decide) (by have := hB.2 i (by omega); omega) (by omega) (fun h_43 => ?_) (fun h_43 => ?_)
        · refine R_iconst (v := -1) dX4_signAt_56 rfl ?_
          refine R_ireturn dX4_signAt_57 rfl rfl ?_
          exact ⟨rfl, by first | exact Or.inr ⟨by unfold sgn; rw [if_neg (by omega), if_neg (by omega)], rfl⟩ | exact Or.inl ⟨_, by unfold sgn; rw [if_neg (by omega), if_pos (by omega), show lt tx i - 87 = lt tx i - 97 + 10 by omega], rfl⟩⟩
        · refine R_iload_n dX4_signAt_46 rfl ?_
          refine R_bipush (v := nI 97) dX4_signAt_47 rfl ?_
          refine R_isubN dX4_signAt_49 (by omega) ?_
          refine R_bipush (v := nI 10) dX4_signAt_50 rfl ?_
          refine R_iaddN dX4_signAt_52 ?_
          refine R_goto (tgt := 57) dX4_signAt_53 (by decide) ?_
          refine R_ireturn dX4_signAt_57 rfl rfl ?_
          exact ⟨rfl, by first | exact Or.inr ⟨by unfold sgn; rw [if_neg (by omega), if_neg (by omega)], rfl⟩ | exact Or.inl ⟨_, by unfold sgn; rw [if_neg (by omega), if_pos (by omega), show lt tx i - 87 = lt tx i - 97 + 10 by omega], rfl⟩⟩
    · refine R_iload_n dX4_signAt_23 rfl ?_
      refine R_bipush (v := nI 57) dX4_signAt_24 rfl ?_
      refine R_icmp_gtN (tgt := 34) dX4_signAt_26 (by decide) (by have := hB.2 i (by omega); omega) (by omega) (fun h_26 => ?_) (fun h_26 => ?_)
      · refine R_iload_n dX4_signAt_34 rfl ?_
        refine R_bipush (v := nI 97) dX4_signAt_35 rfl ?_
        refine R_icmp_ltN (tgt := 56) dX4_signAt_37 (by decide) (by have := hB.2 i (by omega); omega) (by omega) (fun h_37 => ?_) (fun h_37 => ?_)
        · refine R_iconst (v := -1) dX4_signAt_56 rfl ?_
          refine R_ireturn dX4_signAt_57 rfl rfl ?_
          exact ⟨rfl, by first | exact Or.inr ⟨by unfold sgn; rw [if_neg (by omega), if_neg (by omega)], rfl⟩ | exact Or.inl ⟨_, by unfold sgn; rw [if_neg (by omega), if_pos (by omega), show lt tx i - 87 = lt tx i - 97 + 10 by omega], rfl⟩⟩
        · refine R_iload_n dX4_signAt_40 rfl ?_
          refine R_bipush (v := nI 115) dX4_signAt_41 rfl ?_
          refine R_icmp_gtN (tgt := 56) dX4_signAt_43 (by decide) (by have := hB.2 i (by omega); omega) (by omega) (fun h_43 => ?_) (fun h_43 => ?_)
          · refine R_iconst (v := -1) dX4_signAt_56 rfl ?_
            refine R_ireturn dX4_signAt_57 rfl rfl ?_
            exact ⟨rfl, by first | exact Or.inr ⟨by unfold sgn; rw [if_neg (by omega), if_neg (by omega)], rfl⟩ | exact Or.inl ⟨_, by unfold sgn; rw [if_neg (by omega), if_pos (by omega), show lt tx i - 87 = lt tx i - 97 + 10 by omega], rfl⟩⟩
          · refine R_iload_n dX4_signAt_46 rfl ?_
            refine R_bipush (v := nI 97) dX4_signAt_47 rfl ?_
            refine R_isubN dX4_signAt_49 (by omega) ?_
            refine R_bipush (v := nI 10) dX4_signAt_50 rfl ?_
            refine R_iaddN dX4_signAt_52 ?_
            refine R_goto (tgt := 57) dX4_signAt_53 (by decide) ?_
            refine R_ireturn dX4_signAt_57 rfl rfl ?_
            exact ⟨rfl, by first | exact Or.inr ⟨by unfold sgn; rw [if_neg (by omega), if_neg (by omega)], rfl⟩ | exact Or.inl ⟨_, by unfold sgn; rw [if_neg (by omega), if_pos (by omega), show lt tx i - 87 = lt tx i - 97 + 10 by omega], rfl⟩⟩
      · refine R_iload_n dX4_signAt_29 rfl ?_
        refine R_bipush (v := nI 48) dX4_signAt_30 rfl ?_
        refine R_isubN dX4_signAt_32 (by omega) ?_
        refine R_ireturn dX4_signAt_33 rfl rfl ?_
        exact ⟨rfl, Or.inl ⟨_, by unfold sgn; rw [if_pos (by omega)], rfl⟩⟩
  · refine R_iconst (v := -1) dX4_signAt_8 rfl ?_
    refine R_ireturn dX4_signAt_9 rfl rfl ?_
    exact ⟨rfl, Or.inr ⟨by unfold sgn; rw [lt_out (by omega)]; rfl, rfl⟩⟩

def ruleOk (a b : Int32) : Prop := ∃ w, w < 4 ∧ a = nI w ∧ qtab 0 w ≤ b ∧ b ≤ qtab 1 w
theorem ruleOk_n {w : Nat} (hw : w < 4) {b : Int32} : ruleOk (nI w) b ↔ qtab 0 w ≤ b ∧ b ≤ qtab 1 w := by
  constructor
  · rintro ⟨a, h1, h2, h3⟩
    have e := (nI_eq (by omega) (by omega)).mp h2
    subst e; exact h3
  · intro h; exact ⟨w, hw, rfl, h⟩
theorem okR_iff {w v : Nat} (hw : w < 4) (hv : v < 1000) : okR w v = true ↔ ruleOk (nI w) (nI v) := by
  rw [ruleOk_n hw]
  unfold okR
  rw [Bool.and_eq_true, decide_eq_true_eq, decide_eq_true_eq]
  have t : ∀ k, k < 2 → qtab k w = nI (qtab k w).toNatClampNeg ∧ (qtab k w).toNatClampNeg < 10 := by
    intro k hk
    rcases (show k = 0 ∨ k = 1 by omega) with rfl | rfl <;> rcases (show w = 0 ∨ w = 1 ∨ w = 2 ∨ w = 3 by omega) with rfl | rfl | rfl | rfl <;> decide
  rw [(t 0 (by omega)).1, (t 1 (by omega)).1, nI_leI (by have := (t 0 (by omega)).2; omega) (by omega), nI_leI (by omega) (by have := (t 1 (by omega)).2; omega)]
  rw [← (t 0 (by omega)).1, ← (t 1 (by omega)).1]
theorem okR_m1 {w : Nat} (hw : w < 4) : ¬ ruleOk (nI w) (-1) := by
  rw [ruleOk_n hw]
  rcases (show w = 0 ∨ w = 1 ∨ w = 2 ∨ w = 3 by omega) with rfl | rfl | rfl | rfl <;> decide
set_option maxRecDepth 100000 in
set_option maxHeartbeats 4000000 in
theorem c_isRule {M : qMem} {a b : Int32} : qSem 0 mX7_isRule [.int (a), .int (b)] M (qb (ruleOk a b) M) := by
  refine qSem.of (by decide +kernel) (Nat.le_of_ble_eq_true rfl) (fun w => ?_)
  refine R_ls (L' := [(0, .int (a)), (1, .int (b))]) (qs1 rfl (qs1 rfl qs0)) ?_
  refine R_iload_n dX7_isRule_0 rfl ?_
  refine R_if_lt (tgt := 31) dX7_isRule_1 (by decide) (fun h_1 => ?_) (fun h_1 => ?_)
  · refine R_iconst (v := nI 0) dX7_isRule_31 rfl ?_
    refine R_ireturn dX7_isRule_32 rfl rfl ?_
    exact ⟨rfl, by first | exact Or.inr ⟨rfl, fun ⟨q, hq, e, _⟩ => by subst e; exact absurd (by assumption) (nI_pos (by omega))⟩ | exact Or.inr ⟨rfl, fun ⟨q, hq, e, _⟩ => by subst e; exact absurd (by assumption) (nI_ge hq (by omega))⟩ | (rw [ruleOk_n hq]; first | exact Or.inl ⟨rfl, Int32.not_lt.mp (by assumption), Int32.not_lt.mp (by assumption)⟩ | exact Or.inr ⟨rfl, fun h => absurd h.1 (Int32.not_le.mpr (by assumption))⟩ | exact Or.inr ⟨rfl, fun h => absurd h.2 (Int32.not_le.mpr (by assumption))⟩)⟩
  · refine R_iload_n dX7_isRule_4 rfl ?_
    refine R_iconst (v := nI 4) dX7_isRule_5 rfl ?_
    refine R_icmp_ge (tgt := 31) dX7_isRule_6 (by decide) (fun h_6 => ?_) (fun h_6 => ?_)
    · refine R_iconst (v := nI 0) dX7_isRule_31 rfl ?_
      refine R_ireturn dX7_isRule_32 rfl rfl ?_
      exact ⟨rfl, by first | exact Or.inr ⟨rfl, fun ⟨q, hq, e, _⟩ => by subst e; exact absurd (by assumption) (nI_pos (by omega))⟩ | exact Or.inr ⟨rfl, fun ⟨q, hq, e, _⟩ => by subst e; exact absurd (by assumption) (nI_ge hq (by omega))⟩ | (rw [ruleOk_n hq]; first | exact Or.inl ⟨rfl, Int32.not_lt.mp (by assumption), Int32.not_lt.mp (by assumption)⟩ | exact Or.inr ⟨rfl, fun h => absurd h.1 (Int32.not_le.mpr (by assumption))⟩ | exact Or.inr ⟨rfl, fun h => absurd h.2 (Int32.not_le.mpr (by assumption))⟩)⟩
    · obtain ⟨q, hq, rfl⟩ : ∃ q, q < 4 ∧ a = nI q := by rcases pk_ix a (n := 4) (by omega) with h | h | h <;> first | exact absurd h h_1 | exact absurd h h_6 | exact h
      refine R_iload_n dX7_isRule_9 rfl ?_
      refine R_gets dX7_isRule_10 (by decide) ls_RX7_148 ?_
      refine R_iload_n dX7_isRule_13 rfl ?_
      refine R_taldN dX7_isRule_14 (by decide) (by omega) ?_
      refine R_icmp_lt (tgt := 31) dX7_isRule_15 (by decide) (fun h_15 => ?_) (fun h_15 => ?_)
      · refine R_iconst (v := nI 0) dX7_isRule_31 rfl ?_
        refine R_ireturn dX7_isRule_32 rfl rfl ?_
        exact ⟨rfl, by first | exact Or.inr ⟨rfl, fun ⟨q, hq, e, _⟩ => by subst e; exact absurd (by assumption) (nI_pos (by omega))⟩ | exact Or.inr ⟨rfl, fun ⟨q, hq, e, _⟩ => by subst e; exact absurd (by assumption) (nI_ge hq (by omega))⟩ | (rw [ruleOk_n hq]; first | exact Or.inl ⟨rfl, Int32.not_lt.mp (by assumption), Int32.not_lt.mp (by assumption)⟩ | exact Or.inr ⟨rfl, fun h => absurd h.1 (Int32.not_le.mpr (by assumption))⟩ | exact Or.inr ⟨rfl, fun h => absurd h.2 (Int32.not_le.mpr (by assumption))⟩)⟩
      · refine R_iload_n dX7_isRule_18 rfl ?_
        refine R_gets dX7_isRule_19 (by decide) ls_RX7_152 ?_
        refine R_iload_n dX7_isRule_22 rfl ?_
        refine R_taldN dX7_isRule_23 (by decide) (by omega) ?_
        refine R_icmp_gt (tgt := 31) dX7_isRule_24 (by decide) (fun h_24 => ?_) (fun h_24 => ?_)
        · refine R_iconst (v := nI 0) dX7_isRule_31 rfl ?_
          refine R_ireturn dX7_isRule_32 rfl rfl ?_
          exact ⟨rfl, by first | exact Or.inr ⟨rfl, fun ⟨q, hq, e, _⟩ => by subst e; exact absurd (by assumption) (nI_pos (by omega))⟩ | exact Or.inr ⟨rfl, fun ⟨q, hq, e, _⟩ => by subst e; exact absurd (by assumption) (nI_ge hq (by omega))⟩ | (rw [ruleOk_n hq]; first | exact Or.inl ⟨rfl, Int32.not_lt.mp (by assumption), Int32.not_lt.mp (by assumption)⟩ | exact Or.inr ⟨rfl, fun h => absurd h.1 (Int32.not_le.mpr (by assumption))⟩ | exact Or.inr ⟨rfl, fun h => absurd h.2 (Int32.not_le.mpr (by assumption))⟩)⟩
        · refine R_iconst (v := nI 1) dX7_isRule_27 rfl ?_
          refine R_goto (tgt := 32) dX7_isRule_28 (by decide) ?_
          refine R_ireturn dX7_isRule_32 rfl rfl ?_
          exact ⟨rfl, by first | exact Or.inr ⟨rfl, fun ⟨q, hq, e, _⟩ => by subst e; exact absurd (by assumption) (nI_pos (by omega))⟩ | exact Or.inr ⟨rfl, fun ⟨q, hq, e, _⟩ => by subst e; exact absurd (by assumption) (nI_ge hq (by omega))⟩ | (rw [ruleOk_n hq]; first | exact Or.inl ⟨rfl, Int32.not_lt.mp (by assumption), Int32.not_lt.mp (by assumption)⟩ | exact Or.inr ⟨rfl, fun h => absurd h.1 (Int32.not_le.mpr (by assumption))⟩ | exact Or.inr ⟨rfl, fun h => absurd h.2 (Int32.not_le.mpr (by assumption))⟩)⟩

theorem XR_mvD {M N : qMem} {d : dT} (h : XR 3 M d) (e0 : N.1 3 0 = M.1 3 0) (e1 : N.1 3 1 = M.1 3 1) (e5 : N.1 3 5 = M.1 3 5) (e : ∀ o, 4 ≤ o → o < 14 → N.1 o = M.1 o) (hK : dK d ≤ 6) : XR 3 N d :=
  ⟨by rw [e0]; exact h.1, by rw [e1]; exact h.2.1, fun c hc => by rw [e (3 + 1) (by omega) (by omega)]; exact h.2.2.1 c hc, fun c hc => by rw [e (3 + 2) (by omega) (by omega)]; exact h.2.2.2.1 c hc, fun c t hc ht => by rw [e (3 + 5 + c) (by omega) (by omega)]; exact h.2.2.2.2.1 c t hc ht, by rw [e5]; exact h.2.2.2.2.2.1, fun k hk => by rw [e (3 + 4) (by omega) (by omega)]; exact h.2.2.2.2.2.2 k hk⟩
set_option maxRecDepth 100000 in
set_option maxHeartbeats 4000000 in
theorem c_rdY {M : qMem} {tx : List Nat} (hT : XT M tx) (hB : txB tx) {d : dT} (hX : XR 3 M d) (hD : dB d) {a : Nat} (ha : a < 200) (hK0 : a = 0 → dK d = 0) : qSem 0 mX4_readYears [.ref 1, .int (nI a)] M (fun v N => ((∃ z d2, itemY tx a d = some (z, d2) ∧ v = some (.int (nI z)) ∧ XR 3 N d2) ∨ (itemY tx a d = none ∧ v = some (.int (nI 0)))) ∧ qOff oDr M N) := by
  refine qSem.of (by decide +kernel) (Nat.le_of_ble_eq_true rfl) (fun w => ?_)
  refine R_ls (L' := [(0, .ref 1), (1, .int (nI a))]) (qs1 rfl (qs1 rfl qs0)) ?_
  refine R_aload_n dX4_readYears_0 rfl ?_
  refine R_iload_n dX4_readYears_1 rfl ?_
  refine R_iconst (v := nI 1) dX4_readYears_2 rfl ?_
  refine R_iaddN dX4_readYears_3 ?_
  refine R_callV (mc := mX4_signAt) (As := [_]) (r := 1) dX4_readYears_4 lm_RX4_49 mv_X4_signAt rfl (by decide) rfl rfl rfl rfl (Nat.le_of_ble_eq_true rfl) (c_sign hT hB (i := a + 1) (by omega)) ?_
  rintro _ _ ⟨rfl, ⟨x, hx, rfl⟩ | ⟨hx, rfl⟩⟩
  · have lx := sgn_le hx
    refine R_istore_n (L' := [(0, .ref 1), (1, .int (nI a)), (2, .int (nI x))]) dX4_readYears_7 (by decide) (qs1 rfl (qs1 rfl (qs1 rfl qs0))) ?_
    refine R_iload_n dX4_readYears_8 rfl ?_
    refine R_if_neN (tgt := 33) dX4_readYears_9 (by decide) (by omega) (fun h_9 => ?_) (fun h_9 => ?_)
    · refine R_iconst (v := nI 0) dX4_readYears_33 rfl ?_
      refine R_ireturn dX4_readYears_34 rfl rfl ?_
      exact ⟨Or.inr ⟨by unfold itemY; rw [hx]; first | done | rfl | exact if_neg (by omega), rfl⟩, qOff.rf⟩
    · refine R_iload_n dX4_readYears_12 rfl ?_
      refine R_iconst (v := nI 4) dX4_readYears_13 rfl ?_
      refine R_icmp_ltN (tgt := 33) dX4_readYears_14 (by decide) (by omega) (by omega) (fun h_14 => ?_) (fun h_14 => ?_)
      · refine R_iconst (v := nI 0) dX4_readYears_33 rfl ?_
        refine R_ireturn dX4_readYears_34 rfl rfl ?_
        exact ⟨Or.inr ⟨by unfold itemY; rw [hx]; first | done | rfl | exact if_neg (by omega), rfl⟩, qOff.rf⟩
      · refine R_iload_n dX4_readYears_17 rfl ?_
        refine R_bipush (v := nI 16) dX4_readYears_18 rfl ?_
        refine R_icmp_gtN (tgt := 33) dX4_readYears_20 (by decide) (by omega) (by omega) (fun h_20 => ?_) (fun h_20 => ?_)
        · refine R_iconst (v := nI 0) dX4_readYears_33 rfl ?_
          refine R_ireturn dX4_readYears_34 rfl rfl ?_
          exact ⟨Or.inr ⟨by unfold itemY; rw [hx]; first | done | rfl | exact if_neg (by omega), rfl⟩, qOff.rf⟩
        · refine R_aload_n dX4_readYears_23 rfl ?_
          refine R_iload_n dX4_readYears_24 rfl ?_
          refine R_iconst (v := nI 2) dX4_readYears_25 rfl ?_
          refine R_iaddN dX4_readYears_26 ?_
          refine R_callV (mc := mX4_endsAt) (As := [_]) (r := 1) dX4_readYears_27 lm_RX4_52 mv_X4_endsAt rfl (by decide) rfl rfl rfl rfl (Nat.le_of_ble_eq_true rfl) (c_ends hT hB (i := a + 2) (by omega)) ?_
          rintro _ _ ⟨rfl, ⟨rfl, he⟩ | ⟨rfl, he⟩⟩
          · refine R_if_neN (tgt := 35) dX4_readYears_30 (by decide) (by omega) (fun h_30 => ?_) (fun h_30 => by exact absurd h_30 (by decide))
            refine R_aload_n dX4_readYears_35 rfl ?_
            refine R_getR dX4_readYears_36 lg_RX4_18 (by decide) rfl rfl ?_
            refine R_iload_n dX4_readYears_39 rfl ?_
            refine R_callV (mc := mX3_setYears) (As := [_]) (r := 3) dX4_readYears_40 lm_RX4_56 mv_X3_setYears rfl (by decide) rfl rfl rfl rfl (Nat.le_of_ble_eq_true rfl) c_setYears_3 ?_
            rintro _ _ ⟨rfl, rfl⟩
            refine R_iconst (v := nI 3) dX4_readYears_43 rfl ?_
            refine R_ireturn dX4_readYears_44 rfl rfl ?_
            have ea : a = 0 := by omega
            have hK0 := hK0 ea
            refine ⟨Or.inl ⟨3, dYs d x, by unfold itemY; rw [hx]; exact if_pos ⟨ea, by omega, by omega, he⟩, rfl, ?_⟩, ?_⟩
            · refine ⟨by rw [qIs_nk (by decide), qIs_eq]; rfl, by rw [qIs_nk (by decide), qIs_nk (by decide)]; exact hX.2.1, fun c hc => absurd hc (by rw [show dK (dYs d x) = dK d from rfl]; omega), fun c hc => absurd hc (by rw [show dK (dYs d x) = dK d from rfl]; omega), fun c t hc => absurd hc (by rw [show dK (dYs d x) = dK d from rfl]; omega), by rw [qIs_nk (by decide), qIs_nk (by decide)]; exact hX.2.2.2.2.2.1, fun k hk => by rw [qIs_no (by decide), qIs_no (by decide)]; exact hX.2.2.2.2.2.2 k hk⟩
            · exact qOff.is (qOff.is qOff.rf (by unfold oDr; omega)) (by unfold oDr; omega)
          · refine R_if_neN (tgt := 35) dX4_readYears_30 (by decide) (by omega) (fun h_30 => by exact absurd h_30 (by decide)) (fun h_30 => ?_)
            refine R_iconst (v := nI 0) dX4_readYears_33 rfl ?_
            refine R_ireturn dX4_readYears_34 rfl rfl ?_
            exact ⟨Or.inr ⟨by unfold itemY; rw [hx]; first | done | rfl | exact if_neg (by omega), rfl⟩, qOff.rf⟩
  · refine R_istore_n (L' := [(0, .ref 1), (1, .int (nI a)), (2, .int (-1))]) dX4_readYears_7 (by decide) (qs1 rfl (qs1 rfl (qs1 rfl qs0))) ?_
    refine R_iload_n dX4_readYears_8 rfl ?_
    refine R_if_neN (tgt := 33) dX4_readYears_9 (by decide) (by omega) (fun h_9 => ?_) (fun h_9 => ?_)
    · refine R_iconst (v := nI 0) dX4_readYears_33 rfl ?_
      refine R_ireturn dX4_readYears_34 rfl rfl ?_
      exact ⟨Or.inr ⟨by unfold itemY; rw [hx]; first | done | rfl | exact if_neg (by omega), rfl⟩, qOff.rf⟩
    · refine R_iload_n dX4_readYears_12 rfl ?_
      refine R_iconst (v := nI 4) dX4_readYears_13 rfl ?_
      refine R_icmp_lt (tgt := 33) dX4_readYears_14 (by decide) (fun h_14 => ?_) (fun h_14 => by exact absurd h_14 (by decide))
      refine R_iconst (v := nI 0) dX4_readYears_33 rfl ?_
      refine R_ireturn dX4_readYears_34 rfl rfl ?_
      exact ⟨Or.inr ⟨by unfold itemY; rw [hx]; first | done | rfl | exact if_neg (by omega), rfl⟩, qOff.rf⟩
set_option maxRecDepth 100000 in
set_option maxHeartbeats 4000000 in
theorem c_rdP {M : qMem} {tx : List Nat} (hT : XT M tx) (hB : txB tx) {d : dT} (hX : XR 3 M d) (hD : dB d) {a : Nat} (ha : a < 200) : qSem 0 mX4_readPenalty [.ref 1, .int (nI a)] M (fun v N => ((∃ z d2, itemP tx a d = some (z, d2) ∧ v = some (.int (nI z)) ∧ XR 3 N d2) ∨ (itemP tx a d = none ∧ v = some (.int (nI 0)))) ∧ qOff oDr M N) := by
  refine qSem.of (by decide +kernel) (Nat.le_of_ble_eq_true rfl) (fun w => ?_)
  refine R_ls (L' := [(0, .ref 1), (1, .int (nI a))]) (qs1 rfl (qs1 rfl qs0)) ?_
  refine R_aload_n dX4_readPenalty_0 rfl ?_
  refine R_iload_n dX4_readPenalty_1 rfl ?_
  refine R_iconst (v := nI 1) dX4_readPenalty_2 rfl ?_
  refine R_iaddN dX4_readPenalty_3 ?_
  refine R_callV (mc := mX4_signAt) (As := [_]) (r := 1) dX4_readPenalty_4 lm_RX4_49 mv_X4_signAt rfl (by decide) rfl rfl rfl rfl (Nat.le_of_ble_eq_true rfl) (c_sign hT hB (i := a + 1) (by omega)) ?_
  rintro _ _ ⟨rfl, ⟨x, hx, rfl⟩ | ⟨hx, rfl⟩⟩
  · have lx := sgn_le hx
    refine R_istore_n (L' := [(0, .ref 1), (1, .int (nI a)), (2, .int (nI x))]) dX4_readPenalty_7 (by decide) (qs1 rfl (qs1 rfl (qs1 rfl qs0))) ?_
    refine R_aload_n dX4_readPenalty_8 rfl ?_
    refine R_iload_n dX4_readPenalty_9 rfl ?_
    refine R_iconst (v := nI 2) dX4_readPenalty_10 rfl ?_
    refine R_iaddN dX4_readPenalty_11 ?_
    refine R_callV (mc := mX4_signAt) (As := [_]) (r := 1) dX4_readPenalty_12 lm_RX4_49 mv_X4_signAt rfl (by decide) rfl rfl rfl rfl (Nat.le_of_ble_eq_true rfl) (c_sign hT hB (i := a + 2) (by omega)) ?_
    rintro _ _ ⟨rfl, ⟨y, hy, rfl⟩ | ⟨hy, rfl⟩⟩
    · have ly := sgn_le hy
      refine R_istore_n (L' := [(0, .ref 1), (1, .int (nI a)), (2, .int (nI x)), (3, .int (nI y))]) dX4_readPenalty_15 (by decide) (qs1 rfl (qs1 rfl (qs1 rfl (qs1 rfl qs0)))) ?_
      refine R_iload_n dX4_readPenalty_16 rfl ?_
      refine R_if_ltN (tgt := 46) dX4_readPenalty_17 (by decide) (by omega) ?_
      refine R_iload_n dX4_readPenalty_20 rfl ?_
      refine R_bipush (v := nI 9) dX4_readPenalty_21 rfl ?_
      refine R_icmp_gtN (tgt := 46) dX4_readPenalty_23 (by decide) (by omega) (by omega) (fun h_23 => ?_) (fun h_23 => ?_)
      · refine R_iconst (v := nI 0) dX4_readPenalty_46 rfl ?_
        refine R_ireturn dX4_readPenalty_47 rfl rfl ?_
        exact ⟨Or.inr ⟨by unfold itemP; rw [hx, hy]; first | done | rfl | exact if_neg (by omega), rfl⟩, qOff.rf⟩
      · refine R_iload_n dX4_readPenalty_26 rfl ?_
        refine R_if_ltN (tgt := 46) dX4_readPenalty_27 (by decide) (by omega) ?_
        refine R_iload_n dX4_readPenalty_30 rfl ?_
        refine R_bipush (v := nI 9) dX4_readPenalty_31 rfl ?_
        refine R_icmp_gtN (tgt := 46) dX4_readPenalty_33 (by decide) (by omega) (by omega) (fun h_33 => ?_) (fun h_33 => ?_)
        · refine R_iconst (v := nI 0) dX4_readPenalty_46 rfl ?_
          refine R_ireturn dX4_readPenalty_47 rfl rfl ?_
          exact ⟨Or.inr ⟨by unfold itemP; rw [hx, hy]; first | done | rfl | exact if_neg (by omega), rfl⟩, qOff.rf⟩
        · refine R_aload_n dX4_readPenalty_36 rfl ?_
          refine R_iload_n dX4_readPenalty_37 rfl ?_
          refine R_iconst (v := nI 3) dX4_readPenalty_38 rfl ?_
          refine R_iaddN dX4_readPenalty_39 ?_
          refine R_callV (mc := mX4_endsAt) (As := [_]) (r := 1) dX4_readPenalty_40 lm_RX4_52 mv_X4_endsAt rfl (by decide) rfl rfl rfl rfl (Nat.le_of_ble_eq_true rfl) (c_ends hT hB (i := a + 3) (by omega)) ?_
          rintro _ _ ⟨rfl, ⟨rfl, he⟩ | ⟨rfl, he⟩⟩
          · refine R_if_neN (tgt := 48) dX4_readPenalty_43 (by decide) (by omega) (fun h_43 => ?_) (fun h_43 => by exact absurd h_43 (by decide))
            refine R_aload_n dX4_readPenalty_48 rfl ?_
            refine R_getR dX4_readPenalty_49 lg_RX4_18 (by decide) rfl rfl ?_
            refine R_bipush (v := nI 10) dX4_readPenalty_52 rfl ?_
            refine R_iload_n dX4_readPenalty_54 rfl ?_
            refine R_imulN dX4_readPenalty_55 ?_
            refine R_iload_n dX4_readPenalty_56 rfl ?_
            refine R_iaddN dX4_readPenalty_57 ?_
            refine R_callV (mc := mX3_setBreakPenalty) (As := [_]) (r := 3) dX4_readPenalty_58 lm_RX4_72 mv_X3_setBreakPenalty rfl (by decide) rfl rfl rfl rfl (Nat.le_of_ble_eq_true rfl) c_setPen_3 ?_
            rintro _ _ ⟨rfl, rfl⟩
            refine R_iconst (v := nI 4) dX4_readPenalty_61 rfl ?_
            refine R_ireturn dX4_readPenalty_62 rfl rfl ?_
            refine ⟨Or.inl ⟨4, dPn d (10 * x + y), by unfold itemP; rw [hx, hy]; exact if_pos ⟨by omega, by omega, he⟩, rfl, ?_⟩, ?_⟩
            · refine ⟨by rw [qIs_nk (by decide), qIs_nk (by decide)]; exact hX.1, by rw [qIs_nk (by decide), qIs_nk (by decide)]; exact hX.2.1, fun c hc => by rw [qIs_no (by decide), qIs_no (by decide)]; exact hX.2.2.1 c hc, fun c hc => by rw [qIs_no (by decide), qIs_no (by decide)]; exact hX.2.2.2.1 c hc, fun c t hc ht => by rw [qIs_no (by omega), qIs_no (by omega)]; exact hX.2.2.2.2.1 c t hc ht, by rw [qIs_nk (by decide), qIs_eq]; rfl, fun k hk => by rw [qIs_no (by decide), qIs_no (by decide), hX.2.2.2.2.2.2 k hk]; show _ = nI (if k = 4 then _ else _); rw [if_neg (by omega)]⟩
            · exact qOff.is (qOff.is qOff.rf (by unfold oDr; omega)) (by unfold oDr; omega)
          · refine R_if_neN (tgt := 48) dX4_readPenalty_43 (by decide) (by omega) (fun h_43 => by exact absurd h_43 (by decide)) (fun h_43 => ?_)
            refine R_iconst (v := nI 0) dX4_readPenalty_46 rfl ?_
            refine R_ireturn dX4_readPenalty_47 rfl rfl ?_
            exact ⟨Or.inr ⟨by unfold itemP; rw [hx, hy]; first | done | rfl | exact if_neg (by omega), rfl⟩, qOff.rf⟩
    · refine R_istore_n (L' := [(0, .ref 1), (1, .int (nI a)), (2, .int (nI x)), (3, .int (-1))]) dX4_readPenalty_15 (by decide) (qs1 rfl (qs1 rfl (qs1 rfl (qs1 rfl qs0)))) ?_
      refine R_iload_n dX4_readPenalty_16 rfl ?_
      refine R_if_ltN (tgt := 46) dX4_readPenalty_17 (by decide) (by omega) ?_
      refine R_iload_n dX4_readPenalty_20 rfl ?_
      refine R_bipush (v := nI 9) dX4_readPenalty_21 rfl ?_
      refine R_icmp_gtN (tgt := 46) dX4_readPenalty_23 (by decide) (by omega) (by omega) (fun h_23 => ?_) (fun h_23 => ?_)
      · refine R_iconst (v := nI 0) dX4_readPenalty_46 rfl ?_
        refine R_ireturn dX4_readPenalty_47 rfl rfl ?_
        exact ⟨Or.inr ⟨by unfold itemP; rw [hx, hy]; first | done | rfl | exact if_neg (by omega), rfl⟩, qOff.rf⟩
      · refine R_iload_n dX4_readPenalty_26 rfl ?_
        refine R_if_lt (tgt := 46) dX4_readPenalty_27 (by decide) (fun h_27 => ?_) (fun h_27 => by exact absurd h_27 (by decide))
        refine R_iconst (v := nI 0) dX4_readPenalty_46 rfl ?_
        refine R_ireturn dX4_readPenalty_47 rfl rfl ?_
        exact ⟨Or.inr ⟨by unfold itemP; rw [hx, hy]; first | done | rfl | exact if_neg (by omega), rfl⟩, qOff.rf⟩
  · refine R_istore_n (L' := [(0, .ref 1), (1, .int (nI a)), (2, .int (-1))]) dX4_readPenalty_7 (by decide) (qs1 rfl (qs1 rfl (qs1 rfl qs0))) ?_
    refine R_aload_n dX4_readPenalty_8 rfl ?_
    refine R_iload_n dX4_readPenalty_9 rfl ?_
    refine R_iconst (v := nI 2) dX4_readPenalty_10 rfl ?_
    refine R_iaddN dX4_readPenalty_11 ?_
    refine R_callV (mc := mX4_signAt) (As := [_]) (r := 1) dX4_readPenalty_12 lm_RX4_49 mv_X4_signAt rfl (by decide) rfl rfl rfl rfl (Nat.le_of_ble_eq_true rfl) (c_sign hT hB (i := a + 2) (by omega)) ?_
    rintro _ _ ⟨rfl, ⟨y, hy, rfl⟩ | ⟨hy, rfl⟩⟩
    · have ly := sgn_le hy
      refine R_istore_n (L' := [(0, .ref 1), (1, .int (nI a)), (2, .int (-1)), (3, .int (nI y))]) dX4_readPenalty_15 (by decide) (qs1 rfl (qs1 rfl (qs1 rfl (qs1 rfl qs0)))) ?_
      refine R_iload_n dX4_readPenalty_16 rfl ?_
      refine R_if_lt (tgt := 46) dX4_readPenalty_17 (by decide) (fun h_17 => ?_) (fun h_17 => by exact absurd h_17 (by decide))
      refine R_iconst (v := nI 0) dX4_readPenalty_46 rfl ?_
      refine R_ireturn dX4_readPenalty_47 rfl rfl ?_
      exact ⟨Or.inr ⟨by unfold itemP; rw [hx, hy]; first | done | rfl | exact if_neg (by omega), rfl⟩, qOff.rf⟩
    · refine R_istore_n (L' := [(0, .ref 1), (1, .int (nI a)), (2, .int (-1)), (3, .int (-1))]) dX4_readPenalty_15 (by decide) (qs1 rfl (qs1 rfl (qs1 rfl (qs1 rfl qs0)))) ?_
      refine R_iload_n dX4_readPenalty_16 rfl ?_
      refine R_if_lt (tgt := 46) dX4_readPenalty_17 (by decide) (fun h_17 => ?_) (fun h_17 => by exact absurd h_17 (by decide))
      refine R_iconst (v := nI 0) dX4_readPenalty_46 rfl ?_
      refine R_ireturn dX4_readPenalty_47 rfl rfl ?_
      exact ⟨Or.inr ⟨by unfold itemP; rw [hx, hy]; first | done | rfl | exact if_neg (by omega), rfl⟩, qOff.rf⟩

/-- the rules so far -/
def RlI (M K : qMem) (tx : List Nat) (a k : Nat) : Prop := qOff oDr M K ∧ K.1 3 0 = M.1 3 0 ∧ K.1 3 1 = M.1 3 1 ∧ K.1 3 5 = M.1 3 5 ∧ (∀ o, o ≠ 3 → o ≠ 7 → K.1 o = M.1 o) ∧ ∀ j, j < k → K.1 7 j = nI ((sgn tx (a + 1 + j)).getD 0)
theorem RlI_end {M K : qMem} {tx : List Nat} {a : Nat} {d : dT} (h : RlI M K tx a 4) (hX : XR 3 M d) : XR 3 K (dRl d tx a) :=
  ⟨by rw [h.2.1]; exact hX.1, by rw [h.2.2.1]; exact hX.2.1, fun c hc => by rw [h.2.2.2.2.1 4 (by omega) (by omega)]; exact hX.2.2.1 c hc, fun c hc => by rw [h.2.2.2.2.1 5 (by omega) (by omega)]; exact hX.2.2.2.1 c hc, fun c t hc ht => by rw [h.2.2.2.2.1 (3 + 5 + c) (by omega) (by omega)]; exact hX.2.2.2.2.1 c t hc ht, by rw [h.2.2.2.1]; exact hX.2.2.2.2.2.1, fun k hk => by rw [h.2.2.2.2.2 k hk]; show _ = nI (if k < 4 then _ else _); rw [if_pos hk]⟩
theorem RlI_put {M K : qMem} {tx : List Nat} {a k x : Nat} {y : Int32} (h : RlI M K tx a k) (hx : sgn tx (a + 1 + k) = some x) : RlI M (qIs (qIs K 7 k (nI x)) 3 7 y) tx a (k + 1) :=
  ⟨qOff.is (qOff.is h.1 (by unfold oDr; omega)) (by unfold oDr; omega), by rw [qIs_nk (by decide), qIs_no (by decide)]; exact h.2.1, by rw [qIs_nk (by decide), qIs_no (by decide)]; exact h.2.2.1, by rw [qIs_nk (by decide), qIs_no (by decide)]; exact h.2.2.2.1, fun o h1 h2 => by rw [qIs_no h1, qIs_no h2]; exact h.2.2.2.2.1 o h1 h2, fun j hj => by
    rw [qIs_no (by decide)]
    rcases Nat.lt_or_ge j k with q | q
    · rw [qIs_nk (by omega)]; exact h.2.2.2.2.2 j q
    · have e : j = k := by omega
      subst e; rw [qIs_eq, hx]; rfl⟩
theorem RlI_0 {M : qMem} {tx : List Nat} {a : Nat} : RlI M M tx a 0 := ⟨qOff.rf, rfl, rfl, rfl, fun _ _ _ => rfl, fun j hj => absurd hj (Nat.not_lt_zero j)⟩
set_option maxRecDepth 100000 in
set_option maxHeartbeats 4000000 in
theorem l_rl2 {w : qWT} {M : qMem} {tx : List Nat} (hT : XT M tx) (hB : txB tx) {d : dT} (hX : XR 3 M d) (hD : dB d) {a : Nat} (ha : a < 200) (he : lt tx (a + 5) = 59) (hr : rulOk tx a 4 = true) : ∀ (fu : Nat) (k : Nat) (K : qMem), (5 - k) < fu → (k ≤ 4) → (RlI M K tx a k) → qRW 0 w mX4_readRules 49 [(0, .ref 1), (1, .int (nI a)), (2, .int (nI (a + 1 + 4))), (3, .int (nI k))] [] K (fun v N => ((∃ z d2, itemL tx a d = some (z, d2) ∧ v = some (.int (nI z)) ∧ XR 3 N d2) ∨ (itemL tx a d = none ∧ v = some (.int (nI 0)))) ∧ qOff oDr M N) := by
  intro fu
  induction fu with
  | zero => intro k K hn; exact absurd hn (Nat.not_lt_zero _)
  | succ fu ih =>
    intro k K hn hk hI
    have hTK : XT K tx := hT.dr hI.1
    refine R_iload_n dX4_readRules_49 rfl ?_
    refine R_iconst (v := nI 4) dX4_readRules_50 rfl ?_
    refine R_icmp_geN (tgt := 77) dX4_readRules_51 (by decide) (by omega) (by omega) (fun h_51 => ?_) (fun h_51 => ?_)
    · refine R_iload_n dX4_readRules_77 rfl ?_
      refine R_iconst (v := nI 1) dX4_readRules_78 rfl ?_
      refine R_iaddN dX4_readRules_79 ?_
      refine R_iload_n dX4_readRules_80 rfl ?_
      refine R_isubN dX4_readRules_81 (by omega) ?_
      rw [show a + 1 + 4 + 1 - a = 6 by omega]
      refine R_ireturn dX4_readRules_82 rfl rfl ?_
      have e : k = 4 := by omega
      subst e
      exact ⟨Or.inl ⟨6, dRl d tx a, by unfold itemL; exact if_pos ⟨he, hr⟩, rfl, RlI_end hI hX⟩, hI.1⟩
    · refine R_aload_n dX4_readRules_54 rfl ?_
      refine R_getR dX4_readRules_55 lg_RX4_18 (by decide) rfl rfl ?_
      refine R_iload_n dX4_readRules_58 rfl ?_
      refine R_aload_n dX4_readRules_59 rfl ?_
      refine R_iload_n dX4_readRules_60 rfl ?_
      refine R_iconst (v := nI 1) dX4_readRules_61 rfl ?_
      refine R_iaddN dX4_readRules_62 ?_
      refine R_iload_n dX4_readRules_63 rfl ?_
      refine R_iaddN dX4_readRules_64 ?_
      refine R_callV (mc := mX4_signAt) (As := [_]) (r := 1) dX4_readRules_65 lm_RX4_49 mv_X4_signAt rfl (by decide) rfl rfl rfl rfl (Nat.le_of_ble_eq_true rfl) ((c_sign hTK hB (i := a + 1 + k) (by omega)).mono (fun v N hv => (show ∃ x, sgn tx (a + 1 + k) = some x ∧ v = some (.int (nI x)) ∧ K = N from by obtain ⟨x, hx, -⟩ := rulOk_at hr k (by omega); obtain ⟨rfl, ⟨y, hy, rfl⟩ | ⟨hy, -⟩⟩ := hv <;> rw [hx] at hy <;> cases hy; exact ⟨x, hx, rfl, rfl⟩))) ?_
      rintro _ _ ⟨x, hx, rfl, rfl⟩
      refine R_callV (mc := mX3_setRule) (As := [_, _]) (r := 3) dX4_readRules_68 lm_RX4_78 mv_X3_setRule rfl (by decide) rfl rfl rfl rfl (Nat.le_of_ble_eq_true rfl) (c_setRule_3 (by omega)) ?_
      rintro _ _ ⟨rfl, rfl⟩
      refine R_iincN (n := 1) (L' := [(0, .ref 1), (1, .int (nI a)), (2, .int (nI (a + 1 + 4))), (3, .int (nI (k + 1)))]) dX4_readRules_71 rfl (by decide) (qs1 rfl (qs1 rfl (qs1 rfl (qs1 rfl qs0)))) ?_
      refine R_goto (tgt := 49) dX4_readRules_74 (by decide) ?_
      refine R_ls (L' := [(0, .ref 1), (1, .int (nI a)), (2, .int (nI (a + 1 + 4))), (3, .int (nI (k + 1)))]) (qs1 rfl (qs1 rfl (qs1 rfl (qs1 rfl qs0)))) ?_
      exact (ih (k + 1) _ (by omega) (by omega) (RlI_put hI hx))
set_option maxRecDepth 100000 in
set_option maxHeartbeats 4000000 in
theorem l_rl1 {w : qWT} {M : qMem} {tx : List Nat} (hT : XT M tx) (hB : txB tx) {d : dT} (hX : XR 3 M d) (hD : dB d) {a : Nat} (ha : a < 200) (he : lt tx (a + 5) = 59) : ∀ (fu : Nat) (k : Nat), (5 - k) < fu → (k ≤ 4) → (rulOk tx a k = true) → qRW 0 w mX4_readRules 18 [(0, .ref 1), (1, .int (nI a)), (2, .int (nI (a + 1 + 4))), (3, .int (nI k))] [] M (fun v N => ((∃ z d2, itemL tx a d = some (z, d2) ∧ v = some (.int (nI z)) ∧ XR 3 N d2) ∨ (itemL tx a d = none ∧ v = some (.int (nI 0)))) ∧ qOff oDr M N) := by
  intro fu
  induction fu with
  | zero => intro k hn; exact absurd hn (Nat.not_lt_zero _)
  | succ fu ih =>
    intro k hn hk hr
    refine R_iload_n dX4_readRules_18 rfl ?_
    refine R_iconst (v := nI 4) dX4_readRules_19 rfl ?_
    refine R_icmp_geN (tgt := 47) dX4_readRules_20 (by decide) (by omega) (by omega) (fun h_20 => ?_) (fun h_20 => ?_)
    · refine R_iconst (v := nI 0) dX4_readRules_47 rfl ?_
      refine R_istore_n (L' := [(0, .ref 1), (1, .int (nI a)), (2, .int (nI (a + 1 + 4))), (3, .int (nI 0))]) dX4_readRules_48 (by decide) (qs1 rfl (qs1 rfl (qs1 rfl (qs1 rfl qs0)))) ?_
      refine R_ls (L' := [(0, .ref 1), (1, .int (nI a)), (2, .int (nI (a + 1 + 4))), (3, .int (nI 0))]) (qs1 rfl (qs1 rfl (qs1 rfl (qs1 rfl qs0)))) ?_
      exact (by have e : k = 4 := (by omega); subst e; exact l_rl2 hT hB hX hD ha he hr 6 0 M (by omega) (by omega) RlI_0)
    · refine R_iload_n dX4_readRules_23 rfl ?_
      refine R_aload_n dX4_readRules_24 rfl ?_
      refine R_iload_n dX4_readRules_25 rfl ?_
      refine R_iconst (v := nI 1) dX4_readRules_26 rfl ?_
      refine R_iaddN dX4_readRules_27 ?_
      refine R_iload_n dX4_readRules_28 rfl ?_
      refine R_iaddN dX4_readRules_29 ?_
      refine R_callV (mc := mX4_signAt) (As := [_]) (r := 1) dX4_readRules_30 lm_RX4_49 mv_X4_signAt rfl (by decide) rfl rfl rfl rfl (Nat.le_of_ble_eq_true rfl) (c_sign hT hB (i := a + 1 + k) (by omega)) ?_
      rintro _ _ ⟨rfl, ⟨x, hx, rfl⟩ | ⟨hx, rfl⟩⟩
      · have lx := sgn_le hx
        refine R_callSN (mc := mX7_isRule) (As := [_, _]) dX4_readRules_33 lm_RX4_75 mv_X7_isRule rfl rfl rfl (Nat.le_of_ble_eq_true rfl) c_isRule ?_
        rintro _ _ ⟨rfl, ⟨rfl, hp⟩ | ⟨rfl, hp⟩⟩
        · refine R_if_neN (tgt := 41) dX4_readRules_36 (by decide) (by omega) (fun h_36 => ?_) (fun h_36 => by exact absurd h_36 (by decide))
          refine R_iincN (n := 1) (L' := [(0, .ref 1), (1, .int (nI a)), (2, .int (nI (a + 1 + 4))), (3, .int (nI (k + 1)))]) dX4_readRules_41 rfl (by decide) (qs1 rfl (qs1 rfl (qs1 rfl (qs1 rfl qs0)))) ?_
          refine R_goto (tgt := 18) dX4_readRules_44 (by decide) ?_
          refine R_ls (L' := [(0, .ref 1), (1, .int (nI a)), (2, .int (nI (a + 1 + 4))), (3, .int (nI (k + 1)))]) (qs1 rfl (qs1 rfl (qs1 rfl (qs1 rfl qs0)))) ?_
          exact (by first | exact absurd hp (okR_m1 (by omega)) | exact ih (k + 1) (by omega) (by omega) (by unfold rulOk; rw [hr, hx]; exact (okR_iff (by omega) (by omega)).mpr hp))
        · refine R_if_neN (tgt := 41) dX4_readRules_36 (by decide) (by omega) (fun h_36 => by exact absurd h_36 (by decide)) (fun h_36 => ?_)
          refine R_iconst (v := nI 0) dX4_readRules_39 rfl ?_
          refine R_ireturn dX4_readRules_40 rfl rfl ?_
          refine ⟨Or.inr ⟨?_, rfl⟩, qOff.rf⟩
          unfold itemL
          refine if_neg (fun h => ?_)
          obtain ⟨v, h1, h2⟩ := rulOk_at h.2 k (by omega)
          rw [hx] at h1
          first | (cases h1; exact hp ((okR_iff (by omega) (by omega)).mp h2)) | cases h1
      · refine R_callSN (mc := mX7_isRule) (As := [_, _]) dX4_readRules_33 lm_RX4_75 mv_X7_isRule rfl rfl rfl (Nat.le_of_ble_eq_true rfl) c_isRule ?_
        rintro _ _ ⟨rfl, ⟨rfl, hp⟩ | ⟨rfl, hp⟩⟩
        · refine R_if_neN (tgt := 41) dX4_readRules_36 (by decide) (by omega) (fun h_36 => ?_) (fun h_36 => by exact absurd h_36 (by decide))
          refine R_iincN (n := 1) (L' := [(0, .ref 1), (1, .int (nI a)), (2, .int (nI (a + 1 + 4))), (3, .int (nI (k + 1)))]) dX4_readRules_41 rfl (by decide) (qs1 rfl (qs1 rfl (qs1 rfl (qs1 rfl qs0)))) ?_
          refine R_goto (tgt := 18) dX4_readRules_44 (by decide) ?_
          refine R_ls (L' := [(0, .ref 1), (1, .int (nI a)), (2, .int (nI (a + 1 + 4))), (3, .int (nI (k + 1)))]) (qs1 rfl (qs1 rfl (qs1 rfl (qs1 rfl qs0)))) ?_
          exact (by first | exact absurd hp (okR_m1 (by omega)) | exact ih (k + 1) (by omega) (by omega) (by unfold rulOk; rw [hr, hx]; exact (okR_iff (by omega) (by omega)).mpr hp))
        · refine R_if_neN (tgt := 41) dX4_readRules_36 (by decide) (by omega) (fun h_36 => by exact absurd h_36 (by decide)) (fun h_36 => ?_)
          refine R_iconst (v := nI 0) dX4_readRules_39 rfl ?_
          refine R_ireturn dX4_readRules_40 rfl rfl ?_
          refine ⟨Or.inr ⟨?_, rfl⟩, qOff.rf⟩
          unfold itemL
          refine if_neg (fun h => ?_)
          obtain ⟨v, h1, h2⟩ := rulOk_at h.2 k (by omega)
          rw [hx] at h1
          first | (cases h1; exact hp ((okR_iff (by omega) (by omega)).mp h2)) | cases h1
set_option maxRecDepth 100000 in
set_option maxHeartbeats 4000000 in
theorem c_rdL {M : qMem} {tx : List Nat} (hT : XT M tx) (hB : txB tx) {d : dT} (hX : XR 3 M d) (hD : dB d) {a : Nat} (ha : a < 200) : qSem 0 mX4_readRules [.ref 1, .int (nI a)] M (fun v N => ((∃ z d2, itemL tx a d = some (z, d2) ∧ v = some (.int (nI z)) ∧ XR 3 N d2) ∨ (itemL tx a d = none ∧ v = some (.int (nI 0)))) ∧ qOff oDr M N) := by
  refine qSem.of (by decide +kernel) (Nat.le_of_ble_eq_true rfl) (fun w => ?_)
  refine R_ls (L' := [(0, .ref 1), (1, .int (nI a))]) (qs1 rfl (qs1 rfl qs0)) ?_
  refine R_iload_n dX4_readRules_0 rfl ?_
  refine R_iconst (v := nI 1) dX4_readRules_1 rfl ?_
  refine R_iaddN dX4_readRules_2 ?_
  refine R_iconst (v := nI 4) dX4_readRules_3 rfl ?_
  refine R_iaddN dX4_readRules_4 ?_
  refine R_istore_n (L' := [(0, .ref 1), (1, .int (nI a)), (2, .int (nI ((a + 1) + 4)))]) dX4_readRules_5 (by decide) (qs1 rfl (qs1 rfl (qs1 rfl qs0))) ?_
  refine R_aload_n dX4_readRules_6 rfl ?_
  refine R_iload_n dX4_readRules_7 rfl ?_
  refine R_callV (mc := mX4_endsAt) (As := [_]) (r := 1) dX4_readRules_8 lm_RX4_52 mv_X4_endsAt rfl (by decide) rfl rfl rfl rfl (Nat.le_of_ble_eq_true rfl) (c_ends hT hB (i := a + 1 + 4) (by omega)) ?_
  rintro _ _ ⟨rfl, ⟨rfl, he⟩ | ⟨rfl, he⟩⟩
  · refine R_if_neN (tgt := 16) dX4_readRules_11 (by decide) (by omega) (fun h_11 => ?_) (fun h_11 => by exact absurd h_11 (by decide))
    refine R_iconst (v := nI 0) dX4_readRules_16 rfl ?_
    refine R_istore_n (L' := [(0, .ref 1), (1, .int (nI a)), (2, .int (nI ((a + 1) + 4))), (3, .int (nI 0))]) dX4_readRules_17 (by decide) (qs1 rfl (qs1 rfl (qs1 rfl (qs1 rfl qs0)))) ?_
    refine R_ls (L' := [(0, .ref 1), (1, .int (nI a)), (2, .int (nI ((a + 1) + 4))), (3, .int (nI 0))]) (qs1 rfl (qs1 rfl (qs1 rfl (qs1 rfl qs0)))) ?_
    exact (l_rl1 hT hB hX hD ha he 6 0 (by omega) (by omega) rfl)
  · refine R_if_neN (tgt := 16) dX4_readRules_11 (by decide) (by omega) (fun h_11 => by exact absurd h_11 (by decide)) (fun h_11 => ?_)
    refine R_iconst (v := nI 0) dX4_readRules_14 rfl ?_
    refine R_ireturn dX4_readRules_15 rfl rfl ?_
    exact ⟨Or.inr ⟨by unfold itemL; exact if_neg (fun h => he h.1), rfl⟩, qOff.rf⟩
