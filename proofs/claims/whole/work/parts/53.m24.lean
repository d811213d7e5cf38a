
theorem shV_0 (d : dT) (c : Nat) (z : Int32) : shV d c 0 z = d := by
  obtain ⟨y, kk, x, zz, w, r⟩ := d
  have e : (fun a b => if a = c ∧ b < 0 then (w a b).map (fun x => x + z) else w a b) = w := by
    funext a b; rw [if_neg (by omega)]
  show (y, kk, x, zz, (fun a b => if a = c ∧ b < 0 then (w a b).map (fun x => x + z) else w a b), r) = (y, kk, x, zz, w, r)
  rw [e]
set_option maxRecDepth 100000 in
set_option maxHeartbeats 4000000 in
theorem m_md129 {w : qWT} {M : qMem} {s : sT} (hI : MI M s) (hs : sOk s) {i : Nat} {x : cT} (hxg : (cuL (sD s))[i]? = some x) (hx3 : x.1 < dK (sD s)) (hx4 : x.2.1 < dY (sD s)) (hl : (sG s).length < 10) : qRW 1 w mX8_mend 129 [(0, .ref 0), (1, .int (nI i)), (2, .int (nI (x.1))), (3, .int (nI (x.2.1))), (4, .int (x.2.2.2)), (5, .int (nI (bn (flg (sD s) x.1 x.2.2.2 x.2.1))))] [] M (fun r N => r = some (.int (rMd s i).1) ∧ MI N (rMd s i).2) := by
  have hX := hI.1
  have hB := hs.1
  have hK6 := hB.2.1
  have hY16 := hB.1
  have hY4 := hs.2.1.1
  have hK2 := hs.2.1.2
  have hb1 : bn (flg (sD s) x.1 x.2.2.2 x.2.1) ≤ 1 := by unfold bn; split <;> omega
  have hcond : flg (sD s) x.1 x.2.2.2 x.2.1 = false ↔ (x.2.2.2 = 0 ∨ cnS (sD s) x.1 x.2.2.2 x.2.1 = false) := by unfold flg; rw [Bool.and_eq_false_iff, decide_eq_false_iff_not, Decidable.not_not]
  refine R_iload dX8_mend_129 rfl ?_
  refine R_if_neN (tgt := 137) dX8_mend_131 (by decide) (by omega) (fun h_131 => ?_) (fun h_131 => ?_)
  · refine R_aload_n dX8_mend_137 rfl ?_
    refine R_callV (mc := mX8_note) (As := []) (r := 0) dX8_mend_138 lm_RX8_168 mv_X8_note rfl (by decide) rfl rfl rfl rfl (Nat.le_of_ble_eq_true rfl) (m_note hI hs) ?_
    rintro _ _ ⟨rfl, hN⟩
    refine R_iconst (v := nI 0) dX8_mend_141 rfl ?_
    refine R_istore (L' := [(0, .ref 0), (1, .int (nI i)), (2, .int (nI (x.1))), (3, .int (nI (x.2.1))), (4, .int (x.2.2.2)), (5, .int (nI (bn (flg (sD s) x.1 x.2.2.2 x.2.1)))), (6, .int (nI 0))]) dX8_mend_142 (by decide) (qs1 rfl (qs1 rfl (qs1 rfl (qs1 rfl (qs1 rfl (qs1 rfl (qs1 rfl qs0))))))) ?_
    refine R_ls (L' := [(0, .ref 0), (1, .int (nI i)), (2, .int (nI (x.1))), (3, .int (nI (x.2.1))), (4, .int (x.2.2.2)), (6, .int (nI 0))]) (qs1 rfl (qs1 rfl (qs1 rfl (qs1 rfl (qs1 rfl (qs1 rfl qs0)))))) ?_
    have hf : ¬ flg (sD s) x.1 x.2.2.2 x.2.1 = false := fun e => by rw [bn_0.mpr e] at h_131; omega
    have hcs : cnS (sD s) x.1 x.2.2.2 x.2.1 = true := by have h := Bool.not_eq_false _ |>.mp hf; unfold flg at h; rw [Bool.and_eq_true] at h; exact h.2
    rw [rMd_x hxg, if_neg (by omega), if_neg (fun z => hf (hcond.mpr z))]
    exact m_mdS (M := M) (K0 := _) (d := sD s) hB hx3 hx4 hcs (fun K hR hE hF => m_md187 hI hs hl hx3 hx4 hN hR hE hF) (x.2.1 + 2) 0 _ (by omega) (Nat.zero_le _) (by have e0 : shV (sD s) x.1 0 x.2.2.2 = sD s := shV_0 _ _ _; rw [e0]; exact hX.off (hN.2.2.1 2 (by decide) (by decide)) (hN.2.2.1 3 (by decide) (by decide)) (hN.1 2 (by decide) (by decide)) (hN.1 3 (by decide) (by decide)) (hN.1 4 (by decide) (by decide))) (fun o ho => rfl) (fun k hk => rfl)
  · refine R_bipush (v := -2) dX8_mend_134 rfl ?_
    refine R_ireturn dX8_mend_136 rfl rfl ?_
    rw [rMd_x hxg, if_neg (by omega), if_pos (hcond.mp (bn_0.mp (by omega)))]
    exact ⟨rfl, hI⟩
set_option maxRecDepth 100000 in
set_option maxHeartbeats 4000000 in
theorem p_md {M : qMem} {s : sT} (hI : MI M s) (hs : sOk s) {i : Nat} (hi : i < 2147483648) : qSem 1 mX8_mend [.ref 0, .int (nI i)] M (fun r N => r = some (.int (rMd s i).1) ∧ MI N (rMd s i).2) := by
  have hX := hI.1
  have hB := hs.1
  have hK6 := hB.2.1
  have hY16 := hB.1
  have hY4 := hs.2.1.1
  have hK2 := hs.2.1.2
  have hcl := cuL_len (sD s)
  have hgl := hs.2.2.2.2.2
  refine qSem.of (by decide +kernel) (Nat.le_of_ble_eq_true rfl) (fun w => ?_)
  refine R_ls (L' := [(0, .ref 0), (1, .int (nI i))]) (qs1 rfl (qs1 rfl qs0)) ?_
  refine R_iload_n dX8_mend_0 rfl ?_
  refine R_if_geN (tgt := 6) dX8_mend_1 (by decide) (by omega) ?_
  refine R_aload_n dX8_mend_6 rfl ?_
  refine R_callV (mc := mX8_know) (As := []) (r := 0) dX8_mend_7 lm_RX8_269 mv_X8_know rfl (by decide) rfl rfl rfl rfl (Nat.le_of_ble_eq_true rfl) (m_know hI hs) ?_
  rintro _ _ ⟨rfl, hI2, hC⟩
  have hX2 := hI2.1
  refine R_iload_n dX8_mend_10 rfl ?_
  refine R_aload_n dX8_mend_11 rfl ?_
  refine R_getI dX8_mend_12 (lf_RX8_253).get (by decide) rfl rfl ?_
  refine R_top (y := nI ((cuL (sD s)).length)) hC.1 ?_
  refine R_icmp_ltN (tgt := 21) dX8_mend_15 (by decide) (by omega) (by omega) (fun h_15 => ?_) (fun h_15 => ?_)
  · obtain ⟨x, hx2, hxF, hx3, hx4, hxg⟩ := hC.at h_15
    refine R_aload_n dX8_mend_21 rfl ?_
    refine R_getR dX8_mend_22 lg_RX8_19 (by decide) rfl rfl ?_
    refine R_bipush (v := nI 101) dX8_mend_25 rfl ?_
    refine R_ialdN dX8_mend_27 (by decide) rfl (by omega) (by decide) ?_
    refine R_top (y := nI ((sG s).length)) hI2.2.1.1 ?_
    refine R_bipush (v := nI 10) dX8_mend_28 rfl ?_
    refine R_icmp_neN (tgt := 36) dX8_mend_30 (by decide) (by omega) (by omega) (fun h_30 => ?_) (fun h_30 => ?_)
    · refine R_aload_n dX8_mend_36 rfl ?_
      refine R_getR dX8_mend_37 lg_RX8_56 (by decide) rfl rfl ?_
      refine R_iload_n dX8_mend_40 rfl ?_
      refine R_ialdN dX8_mend_41 (by decide) rfl (by omega) (by decide) ?_
      refine R_top (y := nI x.1) hxF.1 ?_
      refine R_istore_n (L' := [(0, .ref 0), (1, .int (nI i)), (2, .int (nI (x.1)))]) dX8_mend_42 (by decide) (qs1 rfl (qs1 rfl (qs1 rfl qs0))) ?_
      refine R_aload_n dX8_mend_43 rfl ?_
      refine R_getR dX8_mend_44 lg_RX8_59 (by decide) rfl rfl ?_
      refine R_iload_n dX8_mend_47 rfl ?_
      refine R_ialdN dX8_mend_48 (by decide) rfl (by omega) (by decide) ?_
      refine R_top (y := nI x.2.1) hxF.2.1 ?_
      refine R_istore_n (L' := [(0, .ref 0), (1, .int (nI i)), (2, .int (nI (x.1))), (3, .int (nI (x.2.1)))]) dX8_mend_49 (by decide) (qs1 rfl (qs1 rfl (qs1 rfl (qs1 rfl qs0)))) ?_
      refine R_aload_n dX8_mend_50 rfl ?_
      refine R_iload_n dX8_mend_51 rfl ?_
      refine R_callV (mc := mX8_sizeOf) (As := [_]) (r := 0) dX8_mend_52 lm_RX8_282 mv_X8_sizeOf rfl (by decide) rfl rfl rfl rfl (Nat.le_of_ble_eq_true rfl) (m_size hX2 hB hK2 hY4 (by omega) hxF hx3 hx4) ?_
      rintro _ _ ⟨rfl, hO3⟩
      have hI3 := hI2.sc hO3
      have hX3 := hI3.1
      refine R_istore (L' := [(0, .ref 0), (1, .int (nI i)), (2, .int (nI (x.1))), (3, .int (nI (x.2.1))), (4, .int (x.2.2.2))]) dX8_mend_55 (by decide) (qs1 rfl (qs1 rfl (qs1 rfl (qs1 rfl (qs1 rfl qs0))))) ?_
      refine R_iload dX8_mend_57 rfl ?_
      refine R_if_eq (tgt := 66) dX8_mend_59 (by decide) (fun h_59 => ?_) (fun h_59 => ?_)
      · refine R_iconst (v := nI 0) dX8_mend_66 rfl ?_
        refine R_istore (L' := [(0, .ref 0), (1, .int (nI i)), (2, .int (nI (x.1))), (3, .int (nI (x.2.1))), (4, .int (x.2.2.2)), (5, .int (nI 0))]) dX8_mend_67 (by decide) (qs1 rfl (qs1 rfl (qs1 rfl (qs1 rfl (qs1 rfl (qs1 rfl qs0)))))) ?_
        refine R_iconst (v := nI 0) dX8_mend_69 rfl ?_
        refine R_istore (L' := [(0, .ref 0), (1, .int (nI i)), (2, .int (nI (x.1))), (3, .int (nI (x.2.1))), (4, .int (x.2.2.2)), (5, .int (nI 0)), (6, .int (nI 0))]) dX8_mend_70 (by decide) (qs1 rfl (qs1 rfl (qs1 rfl (qs1 rfl (qs1 rfl (qs1 rfl (qs1 rfl qs0))))))) ?_
        refine R_ls (L' := [(0, .ref 0), (1, .int (nI i)), (2, .int (nI (x.1))), (3, .int (nI (x.2.1))), (4, .int (x.2.2.2)), (5, .int (nI (bn (flg (sD s) x.1 x.2.2.2 0)))), (6, .int (nI 0))]) (qs1 rfl (qs1 rfl (qs1 rfl (qs1 rfl (qs1 rfl (qs1 (by rw [show flg (sD s) x.1 x.2.2.2 0 = false by unfold flg; rw [decide_eq_false (fun z => z h_59)]; rfl]; rfl) (qs1 rfl qs0))))))) ?_
        exact m_mdF (d := sD s) hX3 hB hx3 hx4 (m_md129 hI3 hs hxg hx3 hx4 (by omega)) (x.2.1 + 2) 0 (by omega) (Nat.zero_le _)
      · refine R_iconst (v := nI 1) dX8_mend_62 rfl ?_
        refine R_goto (tgt := 67) dX8_mend_63 (by decide) ?_
        refine R_istore (L' := [(0, .ref 0), (1, .int (nI i)), (2, .int (nI (x.1))), (3, .int (nI (x.2.1))), (4, .int (x.2.2.2)), (5, .int (nI 1))]) dX8_mend_67 (by decide) (qs1 rfl (qs1 rfl (qs1 rfl (qs1 rfl (qs1 rfl (qs1 rfl qs0)))))) ?_
        refine R_iconst (v := nI 0) dX8_mend_69 rfl ?_
        refine R_istore (L' := [(0, .ref 0), (1, .int (nI i)), (2, .int (nI (x.1))), (3, .int (nI (x.2.1))), (4, .int (x.2.2.2)), (5, .int (nI 1)), (6, .int (nI 0))]) dX8_mend_70 (by decide) (qs1 rfl (qs1 rfl (qs1 rfl (qs1 rfl (qs1 rfl (qs1 rfl (qs1 rfl qs0))))))) ?_
        refine R_ls (L' := [(0, .ref 0), (1, .int (nI i)), (2, .int (nI (x.1))), (3, .int (nI (x.2.1))), (4, .int (x.2.2.2)), (5, .int (nI (bn (flg (sD s) x.1 x.2.2.2 0)))), (6, .int (nI 0))]) (qs1 rfl (qs1 rfl (qs1 rfl (qs1 rfl (qs1 rfl (qs1 (by rw [show flg (sD s) x.1 x.2.2.2 0 = true by unfold flg; rw [decide_eq_true h_59]; rfl]; rfl) (qs1 rfl qs0))))))) ?_
        exact m_mdF (d := sD s) hX3 hB hx3 hx4 (m_md129 hI3 hs hxg hx3 hx4 (by omega)) (x.2.1 + 2) 0 (by omega) (Nat.zero_le _)
    · refine R_bipush (v := -3) dX8_mend_33 rfl ?_
      refine R_ireturn dX8_mend_35 rfl rfl ?_
      rw [rMd_x hxg, if_pos (by omega)]
      exact ⟨rfl, hI2⟩
  · refine R_bipush (v := -4) dX8_mend_18 rfl ?_
    refine R_ireturn dX8_mend_20 rfl rfl ?_
    have hr : rMd s i = (-4, s) := by unfold rMd; rw [List.getElem?_eq_none (by omega)]
    rw [hr]
    exact ⟨rfl, hI2⟩
