set_option maxRecDepth 100000 in
set_option maxHeartbeats 4000000 in
theorem p_ledger {M : qMem} {s : sT} (hI : MI M s) (hs : sOk s) {i k : Int32} : qSem 1 mX8_ledger [.ref 0, .int (i), .int (k)] M (fun r N => r = some (.int (aLedger (sG s) i k)) ∧ MI N s) := by
  have hX := hI.1
  have hB := hs.1
  have hK6 := hB.2.1
  have hY16 := hB.1
  have hY4 := hs.2.1.1
  have hK2 := hs.2.1.2
  have hG := hI.2.1
  have hgl := hs.2.2.2.2.2
  refine qSem.of (by decide +kernel) (Nat.le_of_ble_eq_true rfl) (fun w => ?_)
  refine R_ls (L' := [(0, .ref 0), (1, .int (i)), (2, .int (k))]) (qs1 rfl (qs1 rfl (qs1 rfl qs0))) ?_
  refine R_iload_n dX8_ledger_0 rfl ?_
  refine R_iconst (v := -1) dX8_ledger_1 rfl ?_
  refine R_icmp_lt (tgt := 17) dX8_ledger_2 (by decide) (fun h_2 => ?_) (fun h_2 => ?_)
  · refine R_iconst (v := -1) dX8_ledger_17 rfl ?_
    refine R_ireturn dX8_ledger_18 rfl rfl ?_
    exact ⟨by unfold aLedger; rw [if_neg (fun h => by first | exact absurd h.1 (Int32.not_le.mpr h_2) | exact h_k h.2)], hI⟩
  · refine R_iload_n dX8_ledger_5 rfl ?_
    refine R_i2l dX8_ledger_6 ?_
    refine R_lconst (v := 0) dX8_ledger_7 rfl ?_
    refine R_ldc2 dX8_ledger_8 lc_RX8_192 ?_
    refine R_callS (mc := mX8_in) (As := [_, _, _]) dX8_ledger_11 lm_RX8_98 mv_X8_in rfl rfl rfl (Nat.le_of_ble_eq_true rfl) m_in ?_
    rintro _ _ ⟨rfl, ⟨rfl, hq⟩ | ⟨rfl, hq⟩⟩
    · have h_k := in_k2.mp hq
      have h_2k : -1 ≤ i := by first | exact h_2 | exact Int32.not_lt.mp h_2
      obtain ⟨cw, hcw, rfl⟩ := inN_o (by omega) h_k
      refine R_if_neN (tgt := 19) dX8_ledger_14 (by decide) (by omega) (fun h_14 => ?_) (fun h_14 => by exact absurd h_14 (by decide))
      refine R_iload_n dX8_ledger_19 rfl ?_
      refine R_if_lt (tgt := 34) dX8_ledger_20 (by decide) (fun h_24 => ?_) (fun h_24 => ?_)
      · have h_31 : i = -1 := q_neg1 h_2k (by first | exact h_24 | exact Int32.not_le.mp h_24)
        refine R_iload_n dX8_ledger_34 rfl ?_
        refine R_if_ge (tgt := 48) dX8_ledger_35 (by decide) (fun h_36 => ?_) (fun h_36 => ?_)
        · refine R_bipush (v := -4) dX8_ledger_48 rfl ?_
          refine R_ireturn dX8_ledger_50 rfl rfl ?_
          exact absurd h_24 (Int32.not_lt.mpr h_36)
        · refine R_aload_n dX8_ledger_38 rfl ?_
          refine R_getR dX8_ledger_39 lg_RX8_19 (by decide) rfl rfl ?_
          refine R_bipush (v := nI 101) dX8_ledger_42 rfl ?_
          refine R_ialdN dX8_ledger_44 (by decide) rfl (by omega) (by decide) ?_
          refine R_top (y := nI ((sG s).length)) hG.1 ?_
          refine R_goto (tgt := 50) dX8_ledger_45 (by decide) ?_
          refine R_ireturn dX8_ledger_50 rfl rfl ?_
          exact ⟨by unfold aLedger; rw [if_pos ⟨h_2k, h_k⟩, if_pos h_31], hI⟩
      · have h_25 : ¬ i = -1 := fun e => by rw [e] at h_24; revert h_24; decide
        obtain ⟨ci, hci, rfl⟩ := q_gem1 h_2k h_25
        refine R_iload_n dX8_ledger_23 rfl ?_
        refine R_aload_n dX8_ledger_24 rfl ?_
        refine R_getR dX8_ledger_25 lg_RX8_19 (by decide) rfl rfl ?_
        refine R_bipush (v := nI 101) dX8_ledger_28 rfl ?_
        refine R_ialdN dX8_ledger_30 (by decide) rfl (by omega) (by decide) ?_
        refine R_top (y := nI ((sG s).length)) hG.1 ?_
        refine R_icmp_ltN (tgt := 51) dX8_ledger_31 (by decide) (by omega) (by omega) (fun h_44 => ?_) (fun h_44 => ?_)
        · obtain ⟨x, hx1, hx2⟩ : ∃ x, (sG s)[ci]? = some x ∧ (sG s).getD ci (0, 0, 0) = x := ⟨(sG s)[ci], List.getElem?_eq_getElem h_44, by rw [List.getD_eq_getElem?_getD, List.getElem?_eq_getElem h_44]; rfl⟩
          refine R_aload_n dX8_ledger_51 rfl ?_
          refine R_getR dX8_ledger_52 lg_RX8_34 (by decide) rfl rfl ?_
          refine R_iconst (v := nI 3) dX8_ledger_55 rfl ?_
          refine R_iload_n dX8_ledger_56 rfl ?_
          refine R_imulN dX8_ledger_57 ?_
          refine R_iload_n dX8_ledger_58 rfl ?_
          refine R_iaddN dX8_ledger_59 ?_
          refine R_ialdN dX8_ledger_60 (by decide) rfl (by omega) (by decide) ?_
          refine R_top (y := gq x cw) (hG.2 ci x hx1 cw hcw) ?_
          refine R_iload_n dX8_ledger_61 rfl ?_
          refine R_iconst (v := nI 2) dX8_ledger_62 rfl ?_
          refine R_icmp_neN (tgt := 71) dX8_ledger_63 (by decide) (by omega) (by omega) (fun h_63 => ?_) (fun h_63 => ?_)
          · refine R_iconst (v := nI 0) dX8_ledger_71 rfl ?_
            refine R_iadd dX8_ledger_72 ?_
            refine R_ireturn dX8_ledger_73 rfl rfl ?_
            have hz : cw = 0 ∨ cw = 1 := by omega
            exact ⟨by unfold aLedger; rw [if_pos ⟨h_2k, h_k⟩, if_neg h_25, if_pos (nI_lt h_44 (by omega)), kn_n (by omega), kn_n (by omega), hx2, show nI 0 = 0 from rfl, Int32.add_zero]; rcases hz with rfl | rfl <;> rfl, hI⟩
          · refine R_ldc (v := nI 100000) dX8_ledger_66 lc_RX8_167 ?_
            refine R_goto (tgt := 72) dX8_ledger_68 (by decide) ?_
            refine R_iadd dX8_ledger_72 ?_
            refine R_ireturn dX8_ledger_73 rfl rfl ?_
            have e : cw = 2 := by omega
            subst e
            exact ⟨by unfold aLedger; rw [if_pos ⟨h_2k, h_k⟩, if_neg h_25, if_pos (nI_lt h_44 (by omega)), kn_n (by omega), hx2]; rfl, hI⟩
        · refine R_iload_n dX8_ledger_34 rfl ?_
          refine R_if_geN (tgt := 48) dX8_ledger_35 (by decide) (by omega) ?_
          refine R_bipush (v := -4) dX8_ledger_48 rfl ?_
          refine R_ireturn dX8_ledger_50 rfl rfl ?_
          exact ⟨by unfold aLedger; rw [if_pos ⟨h_2k, h_k⟩, if_neg h_25, if_neg (nI_nlt h_44 (by omega))], hI⟩
    · have h_k := fun z => hq (in_k2.mpr z)
      refine R_if_neN (tgt := 19) dX8_ledger_14 (by decide) (by omega) (fun h_14 => by exact absurd h_14 (by decide)) (fun h_14 => ?_)
      refine R_iconst (v := -1) dX8_ledger_17 rfl ?_
      refine R_ireturn dX8_ledger_18 rfl rfl ?_
      exact ⟨by unfold aLedger; rw [if_neg (fun h => by first | exact absurd h.1 (Int32.not_le.mpr h_2) | exact h_k h.2)], hI⟩
set_option maxRecDepth 100000 in
set_option maxHeartbeats 4000000 in
theorem p_count {M : qMem} {s : sT} (hI : MI M s) (hs : sOk s) {k : Int32} : qSem 1 mX8_count [.ref 0, .int (k)] M (fun r N => r = some (.int (aCount s k)) ∧ MI N s) := by
  have hX := hI.1
  have hB := hs.1
  have hK6 := hB.2.1
  have hY16 := hB.1
  have hY4 := hs.2.1.1
  have hK2 := hs.2.1.2
  refine qSem.of (by decide +kernel) (Nat.le_of_ble_eq_true rfl) (fun w => ?_)
  refine R_ls (L' := [(0, .ref 0), (1, .int (k))]) (qs1 rfl (qs1 rfl qs0)) ?_
  refine R_iload_n dX8_count_0 rfl ?_
  by_cases hsw0 : k = nI 0
  · subst hsw0
    refine R_tableIn (off := 59) (tgt := 60) dX8_count_1 (by decide) (by decide) rfl (by decide) ?_
    refine R_aload_n dX8_count_60 rfl ?_
    refine R_getI dX8_count_61 (lf_RX8_148).get (by decide) rfl rfl ?_
    refine R_top (y := nI (dK (sD s))) hX.1.1 ?_
    refine R_ireturn dX8_count_64 rfl rfl ?_
    exact ⟨by unfold aCount; rw [if_pos (by decide)], hI⟩
  by_cases hsw1 : k = nI 1
  · subst hsw1
    refine R_tableIn (off := 64) (tgt := 65) dX8_count_1 (by decide) (by decide) rfl (by decide) ?_
    refine R_aload_n dX8_count_65 rfl ?_
    refine R_getI dX8_count_66 (lf_RX8_151).get (by decide) rfl rfl ?_
    refine R_top (y := nI (dY (sD s))) hX.1.2.1 ?_
    refine R_ireturn dX8_count_69 rfl rfl ?_
    exact ⟨by unfold aCount; rw [if_neg (by decide), if_pos (by decide)], hI⟩
  by_cases hsw2 : k = nI 2
  · subst hsw2
    refine R_tableIn (off := 69) (tgt := 70) dX8_count_1 (by decide) (by decide) rfl (by decide) ?_
    refine R_aload_n dX8_count_70 rfl ?_
    refine R_getR dX8_count_71 lg_RX8_19 (by decide) rfl rfl ?_
    refine R_bipush (v := nI 96) dX8_count_74 rfl ?_
    refine R_iload_n dX8_count_76 rfl ?_
    refine R_iaddN dX8_count_77 ?_
    refine R_iconst (v := nI 2) dX8_count_78 rfl ?_
    refine R_isubN dX8_count_79 (by omega) ?_
    refine R_ialdN dX8_count_80 (by decide) rfl (by omega) (by decide) ?_
    refine R_top (y := nI (dR (sD s) 4)) hX.p ?_
    refine R_ireturn dX8_count_81 rfl rfl ?_
    exact ⟨by unfold aCount; rw [if_neg (by decide), if_neg (by decide), if_pos (by decide)], hI⟩
  by_cases hsw3 : k = nI 3
  · subst hsw3
    refine R_tableIn (off := 69) (tgt := 70) dX8_count_1 (by decide) (by decide) rfl (by decide) ?_
    refine R_aload_n dX8_count_70 rfl ?_
    refine R_getR dX8_count_71 lg_RX8_19 (by decide) rfl rfl ?_
    refine R_bipush (v := nI 96) dX8_count_74 rfl ?_
    refine R_iload_n dX8_count_76 rfl ?_
    refine R_iaddN dX8_count_77 ?_
    refine R_iconst (v := nI 2) dX8_count_78 rfl ?_
    refine R_isubN dX8_count_79 (by omega) ?_
    refine R_ialdN dX8_count_80 (by decide) rfl (by omega) (by decide) ?_
    refine R_top (y := nI (dR (sD s) 0)) (hX.r (k := 0) (by decide)) ?_
    refine R_ireturn dX8_count_81 rfl rfl ?_
    exact ⟨by unfold aCount; rw [if_neg (by decide), if_neg (by decide), if_neg (by decide), if_pos (by decide)], hI⟩
  by_cases hsw4 : k = nI 4
  · subst hsw4
    refine R_tableIn (off := 69) (tgt := 70) dX8_count_1 (by decide) (by decide) rfl (by decide) ?_
    refine R_aload_n dX8_count_70 rfl ?_
    refine R_getR dX8_count_71 lg_RX8_19 (by decide) rfl rfl ?_
    refine R_bipush (v := nI 96) dX8_count_74 rfl ?_
    refine R_iload_n dX8_count_76 rfl ?_
    refine R_iaddN dX8_count_77 ?_
    refine R_iconst (v := nI 2) dX8_count_78 rfl ?_
    refine R_isubN dX8_count_79 (by omega) ?_
    refine R_ialdN dX8_count_80 (by decide) rfl (by omega) (by decide) ?_
    refine R_top (y := nI (dR (sD s) 1)) (hX.r (k := 1) (by decide)) ?_
    refine R_ireturn dX8_count_81 rfl rfl ?_
    exact ⟨by unfold aCount; rw [if_neg (by decide), if_neg (by decide), if_neg (by decide), if_neg (by decide), if_pos (by decide)], hI⟩
  by_cases hsw5 : k = nI 5
  · subst hsw5
    refine R_tableIn (off := 69) (tgt := 70) dX8_count_1 (by decide) (by decide) rfl (by decide) ?_
    refine R_aload_n dX8_count_70 rfl ?_
    refine R_getR dX8_count_71 lg_RX8_19 (by decide) rfl rfl ?_
    refine R_bipush (v := nI 96) dX8_count_74 rfl ?_
    refine R_iload_n dX8_count_76 rfl ?_
    refine R_iaddN dX8_count_77 ?_
    refine R_iconst (v := nI 2) dX8_count_78 rfl ?_
    refine R_isubN dX8_count_79 (by omega) ?_
    refine R_ialdN dX8_count_80 (by decide) rfl (by omega) (by decide) ?_
    refine R_top (y := nI (dR (sD s) 2)) (hX.r (k := 2) (by decide)) ?_
    refine R_ireturn dX8_count_81 rfl rfl ?_
    exact ⟨by unfold aCount; rw [if_neg (by decide), if_neg (by decide), if_neg (by decide), if_neg (by decide), if_neg (by decide), if_pos (by decide)], hI⟩
  by_cases hsw6 : k = nI 6
  · subst hsw6
    refine R_tableIn (off := 69) (tgt := 70) dX8_count_1 (by decide) (by decide) rfl (by decide) ?_
    refine R_aload_n dX8_count_70 rfl ?_
    refine R_getR dX8_count_71 lg_RX8_19 (by decide) rfl rfl ?_
    refine R_bipush (v := nI 96) dX8_count_74 rfl ?_
    refine R_iload_n dX8_count_76 rfl ?_
    refine R_iaddN dX8_count_77 ?_
    refine R_iconst (v := nI 2) dX8_count_78 rfl ?_
    refine R_isubN dX8_count_79 (by omega) ?_
    refine R_ialdN dX8_count_80 (by decide) rfl (by omega) (by decide) ?_
    refine R_top (y := nI (dR (sD s) 3)) (hX.r (k := 3) (by decide)) ?_
    refine R_ireturn dX8_count_81 rfl rfl ?_
    exact ⟨by unfold aCount; rw [if_neg (by decide), if_neg (by decide), if_neg (by decide), if_neg (by decide), if_neg (by decide), if_neg (by decide), if_pos (by decide)], hI⟩
  by_cases hsw7 : k = nI 7
  · subst hsw7
    refine R_tableIn (off := 81) (tgt := 82) dX8_count_1 (by decide) (by decide) rfl (by decide) ?_
    refine R_aload_n dX8_count_82 rfl ?_
    refine R_callV (mc := mX8_pairs) (As := []) (r := 0) dX8_count_83 lm_RX8_294 mv_X8_pairs rfl (by decide) rfl rfl rfl rfl (Nat.le_of_ble_eq_true rfl) (m_pairs hX hB hK2 hY4) ?_
    rintro _ _ ⟨rfl, rfl⟩
    refine R_ireturn dX8_count_86 rfl rfl ?_
    exact ⟨by unfold aCount; rw [if_neg (by decide), if_neg (by decide), if_neg (by decide), if_neg (by decide), if_neg (by decide), if_neg (by decide), if_neg (by decide), if_pos (by decide)], hI⟩
  by_cases hsw8 : k = nI 8
  · subst hsw8
    refine R_tableIn (off := 86) (tgt := 87) dX8_count_1 (by decide) (by decide) rfl (by decide) ?_
    refine R_aload_n dX8_count_87 rfl ?_
    refine R_callV (mc := mX8_missing) (As := []) (r := 0) dX8_count_88 lm_RX8_297 mv_X8_missing rfl (by decide) rfl rfl rfl rfl (Nat.le_of_ble_eq_true rfl) (m_missing hX hB hK2 hY4) ?_
    rintro _ _ ⟨rfl, rfl⟩
    refine R_ireturn dX8_count_91 rfl rfl ?_
    exact ⟨by unfold aCount; rw [if_neg (by decide), if_neg (by decide), if_neg (by decide), if_neg (by decide), if_neg (by decide), if_neg (by decide), if_neg (by decide), if_neg (by decide), if_pos (by decide)], hI⟩
  by_cases hsw9 : k = nI 9
  · subst hsw9
    refine R_tableIn (off := 91) (tgt := 92) dX8_count_1 (by decide) (by decide) rfl (by decide) ?_
    refine R_aload_n dX8_count_92 rfl ?_
    refine R_getI dX8_count_93 (lf_RX8_154).get (by decide) rfl rfl ?_
    refine R_top (y := nI ((sA s).length)) hI.2.2.2.1 ?_
    refine R_ireturn dX8_count_96 rfl rfl ?_
    exact ⟨by unfold aCount; rw [if_neg (by decide), if_neg (by decide), if_neg (by decide), if_neg (by decide), if_neg (by decide), if_neg (by decide), if_neg (by decide), if_neg (by decide), if_neg (by decide), if_pos (by decide)], hI⟩
  by_cases hsw10 : k = nI 10
  · subst hsw10
    refine R_tableIn (off := 96) (tgt := 97) dX8_count_1 (by decide) (by decide) rfl (by decide) ?_
    refine R_aload_n dX8_count_97 rfl ?_
    refine R_getI dX8_count_98 (lf_RX8_102).get (by decide) rfl rfl ?_
    refine R_top (y := nI ((sX s).length)) hI.2.2.1.1 ?_
    refine R_ireturn dX8_count_101 rfl rfl ?_
    exact ⟨by unfold aCount; rw [if_neg (by decide), if_neg (by decide), if_neg (by decide), if_neg (by decide), if_neg (by decide), if_neg (by decide), if_neg (by decide), if_neg (by decide), if_neg (by decide), if_neg (by decide), if_pos (by decide)], hI⟩
  refine R_tableOut (tgt := 102) dX8_count_1 (q_tout (n := 10) (by decide) (fun k hk => by have h9 : k = 0 ∨ k = 1 ∨ k = 2 ∨ k = 3 ∨ k = 4 ∨ k = 5 ∨ k = 6 ∨ k = 7 ∨ k = 8 ∨ k = 9 ∨ k = 10 := (by omega); rcases h9 with rfl | rfl | rfl | rfl | rfl | rfl | rfl | rfl | rfl | rfl | rfl <;> assumption)) (by decide) ?_
  refine R_iconst (v := -1) dX8_count_102 rfl ?_
  refine R_ireturn dX8_count_103 rfl rfl ?_
  exact ⟨by unfold aCount; rw [if_neg (show ¬ k = 0 from hsw0), if_neg (show ¬ k = 1 from hsw1), if_neg (show ¬ k = 2 from hsw2), if_neg (show ¬ k = 3 from hsw3), if_neg (show ¬ k = 4 from hsw4), if_neg (show ¬ k = 5 from hsw5), if_neg (show ¬ k = 6 from hsw6), if_neg (show ¬ k = 7 from hsw7), if_neg (show ¬ k = 8 from hsw8), if_neg (show ¬ k = 9 from hsw9), if_neg (show ¬ k = 10 from hsw10)], hI⟩

theorem in_p {p : Int32} : (0 ≤ p.toInt64 ∧ p.toInt64 ≤ 9999) ↔ 0 ≤ p ∧ p ≤ nI 9999 := in_ab (a := 0) (c := nI 9999) rfl rfl
theorem in_n {p : Int32} : (1 ≤ p.toInt64 ∧ p.toInt64 ≤ 20) ↔ 1 ≤ p ∧ p ≤ nI 20 := in_ab (a := 1) (c := nI 20) rfl rfl
theorem sOk_chV {s : sT} (hs : sOk s) {c t : Nat} {v : Option Int32} (hc : c < dK (sD s)) (ht : t < dY (sD s)) (hv : ∀ z, v = some z → okv z) : sOk (chV s c t v) := by
  obtain ⟨h1, h2, h3, h4, h5, h6⟩ := hs
  refine ⟨dB_setV h1 hv, h2, h3, HV_chV h4 h1 hc ht, ?_, h6⟩
  show (hA (sA s) _).length ≤ 8
  rw [(hA_trm _ _).2]; have := trm_8 h5; omega
theorem encXM2 {a b : Option Int32} (ha : ∀ v, a = some v → okv v) (hb : ∀ v, b = some v → okv v) : encM a = encM b ↔ encX a = encX b :=
  ⟨fun h => by rw [encM_inj ha hb h], fun h => by rw [encX_inj ha hb h]⟩
set_option maxRecDepth 100000 in
set_option maxHeartbeats 4000000 in
theorem m_dayL {w : qWT} {s0 : sT} {cp cn : Nat} (hcp : cp ≤ 9999) (hcn : cn ≤ 20) : ∀ (fu : Nat) (k : Nat) (K : qMem), (cn + 1 - k) < fu → (k ≤ cn) → (MI K (rDayTo s0 cp k).2) → (sOk (rDayTo s0 cp k).2) → qRW 1 w mX8_day 31 [(0, .ref 0), (1, .int (nI cp)), (2, .int (nI cn)), (3, .int (nI ((rDayTo s0 cp k).1))), (4, .int (nI k))] [] K (fun r N => r = some (.int (nI (rDayTo s0 cp cn).1)) ∧ MI N (rDayTo s0 cp cn).2) := by
  intro fu
  induction fu with
  | zero => intro k K hn; exact absurd hn (Nat.not_lt_zero _)
  | succ fu ih =>
    intro k K hn hk hIK hsK
    have hX := hIK.1
    have hB := hsK.1
    have hK6 := hB.2.1
    have hY16 := hB.1
    have hK2 := hsK.2.1.2
    have hY4 := hsK.2.1.1
    have hle := rDayTo_le s0 cp k
    have hxn := dyN_lt cp k
    have hc : dyN cp k % dK (sD (rDayTo s0 cp k).2) < dK (sD (rDayTo s0 cp k).2) := Nat.mod_lt _ (by omega)
    have ht : dyN cp k / 8 % dY (sD (rDayTo s0 cp k).2) < dY (sD (rDayTo s0 cp k).2) := Nat.mod_lt _ (by omega)
    have h30 : dyN cp k / 128 % 30 < 30 := Nat.mod_lt _ (by decide)
    refine R_iload dX8_day_31 rfl ?_
    refine R_iload_n dX8_day_33 rfl ?_
    refine R_icmp_geN (tgt := 147) dX8_day_34 (by decide) (by omega) (by omega) (fun h_34 => ?_) (fun h_34 => ?_)
    · refine R_iload_n dX8_day_147 rfl ?_
      refine R_ireturn dX8_day_148 rfl rfl ?_
      have e : k = cn := by omega
      subst e
      exact ⟨rfl, hIK⟩
    · refine R_ldc2 dX8_day_37 lc_RX8_198 ?_
      refine R_iload_n dX8_day_40 rfl ?_
      refine R_i2l dX8_day_41 ?_
      refine R_lmul dX8_day_42 ?_
      refine R_ldc2 dX8_day_43 lc_RX8_200 ?_
      refine R_iload dX8_day_46 rfl ?_
      refine R_i2l dX8_day_48 ?_
      refine R_lmul dX8_day_49 ?_
      refine R_ladd dX8_day_50 ?_
      refine R_lconst (v := 1) dX8_day_51 rfl ?_
      refine R_ladd dX8_day_52 ?_
      refine R_topL (y := Int64.ofInt ((7919 * cp + 6151 * k + 1 : Nat) : Int)) (q_dy1 hcp (by omega)) ?_
      refine R_lstore (L' := [(0, .ref 0), (1, .int (nI cp)), (2, .int (nI cn)), (3, .int (nI ((rDayTo s0 cp k).1))), (4, .int (nI k)), (5, .long (Int64.ofInt ((7919 * cp + 6151 * k + 1 : Nat) : Int)))]) dX8_day_53 (by decide) (qs1 rfl (qs1 rfl (qs1 rfl (qs1 rfl (qs1 rfl (qs1 rfl qs0)))))) ?_
      refine R_lload dX8_day_55 rfl ?_
      refine R_lload dX8_day_57 rfl ?_
      refine R_lmul dX8_day_59 ?_
      refine R_ldc2 dX8_day_60 lc_RX8_202 ?_
      refine R_lrem dX8_day_63 (by decide) ?_
      refine R_l2i dX8_day_64 ?_
      refine R_top (y := nI (dyN cp k)) (q_dy2 hcp (by omega)) ?_
      refine R_istore (L' := [(0, .ref 0), (1, .int (nI cp)), (2, .int (nI cn)), (3, .int (nI ((rDayTo s0 cp k).1))), (4, .int (nI k)), (5, .long (Int64.ofInt ((7919 * cp + 6151 * k + 1 : Nat) : Int))), (7, .int (nI (dyN cp k)))]) dX8_day_65 (by decide) (qs1 rfl (qs1 rfl (qs1 rfl (qs1 rfl (qs1 rfl (qs1 rfl (qs1 rfl qs0))))))) ?_
      refine R_bipush (v := nI 16) dX8_day_67 rfl ?_
      refine R_iload dX8_day_69 rfl ?_
      refine R_aload_n dX8_day_71 rfl ?_
      refine R_getI dX8_day_72 (lf_RX8_148).get (by decide) rfl rfl ?_
      refine R_top (y := nI (dK (sD (rDayTo s0 cp k).2))) hX.1.1 ?_
      refine R_iremN dX8_day_75 (by omega) (by omega) (by omega) ?_
      refine R_imulN dX8_day_76 ?_
      refine R_iload dX8_day_77 rfl ?_
      refine R_bipush (v := nI 8) dX8_day_79 rfl ?_
      refine R_idivN dX8_day_81 (by omega) (by omega) (by omega) ?_
      refine R_aload_n dX8_day_82 rfl ?_
      refine R_getI dX8_day_83 (lf_RX8_151).get (by decide) rfl rfl ?_
      refine R_top (y := nI (dY (sD (rDayTo s0 cp k).2))) hX.1.2.1 ?_
      refine R_iremN dX8_day_86 (by omega) (by omega) (by omega) ?_
      refine R_iaddN dX8_day_87 ?_
      refine R_istore (L' := [(0, .ref 0), (1, .int (nI cp)), (2, .int (nI cn)), (3, .int (nI ((rDayTo s0 cp k).1))), (4, .int (nI k)), (5, .long (Int64.ofInt ((7919 * cp + 6151 * k + 1 : Nat) : Int))), (7, .int (nI (dyN cp k))), (8, .int (nI ((16 * ((dyN cp k) % (dK (sD (rDayTo s0 cp k).2)))) + (((dyN cp k) / 8) % (dY (sD (rDayTo s0 cp k).2))))))]) dX8_day_88 (by decide) (qs1 rfl (qs1 rfl (qs1 rfl (qs1 rfl (qs1 rfl (qs1 rfl (qs1 rfl (qs1 rfl qs0)))))))) ?_
      refine R_iload dX8_day_90 rfl ?_
      refine R_sipush (v := nI 128) dX8_day_92 rfl ?_
      refine R_idivN dX8_day_95 (by omega) (by omega) (by omega) ?_
      refine R_bipush (v := nI 30) dX8_day_96 rfl ?_
      refine R_iremN dX8_day_98 (by omega) (by omega) (by omega) ?_
      refine R_istore (L' := [(0, .ref 0), (1, .int (nI cp)), (2, .int (nI cn)), (3, .int (nI ((rDayTo s0 cp k).1))), (4, .int (nI k)), (5, .long (Int64.ofInt ((7919 * cp + 6151 * k + 1 : Nat) : Int))), (7, .int (nI (dyN cp k))), (8, .int (nI ((16 * ((dyN cp k) % (dK (sD (rDayTo s0 cp k).2)))) + (((dyN cp k) / 8) % (dY (sD (rDayTo s0 cp k).2)))))), (9, .int (nI (((dyN cp k) / 128) % 30)))]) dX8_day_99 (by decide) (qs1 rfl (qs1 rfl (qs1 rfl (qs1 rfl (qs1 rfl (qs1 rfl (qs1 rfl (qs1 rfl (qs1 rfl qs0))))))))) ?_
      refine R_iload dX8_day_101 rfl ?_
      refine R_bipush (v := nI 29) dX8_day_103 rfl ?_
      refine R_icmp_neN (tgt := 113) dX8_day_105 (by decide) (by omega) (by omega) (fun h_105 => ?_) (fun h_105 => ?_)
      · refine R_iload dX8_day_113 rfl ?_
        refine R_top (y := encM (dyV (dyN cp k))) (by unfold dyV; rw [if_neg h_105]; rfl) ?_
        refine R_istore (L' := [(0, .ref 0), (1, .int (nI cp)), (2, .int (nI cn)), (3, .int (nI ((rDayTo s0 cp k).1))), (4, .int (nI k)), (5, .long (Int64.ofInt ((7919 * cp + 6151 * k + 1 : Nat) : Int))), (7, .int (nI (dyN cp k))), (8, .int (nI ((16 * ((dyN cp k) % (dK (sD (rDayTo s0 cp k).2)))) + (((dyN cp k) / 8) % (dY (sD (rDayTo s0 cp k).2)))))), (9, .int (encM (dyV (dyN cp k))))]) dX8_day_115 (by decide) (qs1 rfl (qs1 rfl (qs1 rfl (qs1 rfl (qs1 rfl (qs1 rfl (qs1 rfl (qs1 rfl (qs1 rfl qs0))))))))) ?_
        refine R_aload_n dX8_day_117 rfl ?_
        refine R_getR dX8_day_118 lg_RX8_19 (by decide) rfl rfl ?_
        refine R_iload dX8_day_121 rfl ?_
        refine R_ialdN dX8_day_123 (by decide) rfl (by omega) (by decide) ?_
        refine R_top (y := encM (dV (sD (rDayTo s0 cp k).2) (dyN cp k % dK (sD (rDayTo s0 cp k).2)) (dyN cp k / 8 % dY (sD (rDayTo s0 cp k).2)))) (hX.v hc ht) ?_
        refine R_iload dX8_day_124 rfl ?_
        refine R_icmp_eq (tgt := 141) dX8_day_126 (by decide) (fun h_126 => ?_) (fun h_126 => ?_)
        · have hz := (encXM2 (fun v e => hB.2.2.1 _ _ v e) dyV_okv).mp h_126
          refine R_iincN (n := 1) (L' := [(0, .ref 0), (1, .int (nI cp)), (2, .int (nI cn)), (3, .int (nI ((rDayTo s0 cp k).1))), (4, .int (nI (k + 1))), (5, .long (Int64.ofInt ((7919 * cp + 6151 * k + 1 : Nat) : Int))), (7, .int (nI (dyN cp k))), (8, .int (nI ((16 * ((dyN cp k) % (dK (sD (rDayTo s0 cp k).2)))) + (((dyN cp k) / 8) % (dY (sD (rDayTo s0 cp k).2)))))), (9, .int (encM (dyV (dyN cp k))))]) dX8_day_141 rfl (by decide) (qs1 rfl (qs1 rfl (qs1 rfl (qs1 rfl (qs1 rfl (qs1 rfl (qs1 rfl (qs1 rfl (qs1 rfl qs0))))))))) ?_
          refine R_goto (tgt := 31) dX8_day_144 (by decide) ?_
          refine R_ls (L' := [(0, .ref 0), (1, .int (nI cp)), (2, .int (nI cn)), (3, .int (nI ((rDayTo s0 cp k).1))), (4, .int (nI (k + 1)))]) (qs1 rfl (qs1 rfl (qs1 rfl (qs1 rfl (qs1 rfl qs0))))) ?_
          exact (by have h := ih (k + 1) _ (by omega) (by omega) (by rw [rDay_0 hz]; exact hIK) (by rw [rDay_0 hz]; exact hsK); rw [rDay_0 hz] at h; exact h)
        · have hz := fun z => h_126 ((encXM2 (fun v e => hB.2.2.1 _ _ v e) dyV_okv).mpr z)
          refine R_aload_n dX8_day_129 rfl ?_
          refine R_iload dX8_day_130 rfl ?_
          refine R_iload dX8_day_132 rfl ?_
          refine R_callV (mc := mX8_change) (As := [_, _]) (r := 0) dX8_day_134 lm_RX8_181 mv_X8_change rfl (by decide) rfl rfl rfl rfl (Nat.le_of_ble_eq_true rfl) (m_change hIK hsK (by omega)) ?_
          rintro _ _ ⟨rfl, K2, hN, rfl⟩
          refine R_pop dX8_day_137 rfl ?_
          refine R_iincN (n := 1) (L' := [(0, .ref 0), (1, .int (nI cp)), (2, .int (nI cn)), (3, .int (nI (((rDayTo s0 cp k).1) + 1))), (4, .int (nI k)), (5, .long (Int64.ofInt ((7919 * cp + 6151 * k + 1 : Nat) : Int))), (7, .int (nI (dyN cp k))), (8, .int (nI ((16 * ((dyN cp k) % (dK (sD (rDayTo s0 cp k).2)))) + (((dyN cp k) / 8) % (dY (sD (rDayTo s0 cp k).2)))))), (9, .int (encM (dyV (dyN cp k))))]) dX8_day_138 rfl (by decide) (qs1 rfl (qs1 rfl (qs1 rfl (qs1 rfl (qs1 rfl (qs1 rfl (qs1 rfl (qs1 rfl (qs1 rfl qs0))))))))) ?_
          refine R_iincN (n := 1) (L' := [(0, .ref 0), (1, .int (nI cp)), (2, .int (nI cn)), (3, .int (nI (((rDayTo s0 cp k).1) + 1))), (4, .int (nI (k + 1))), (5, .long (Int64.ofInt ((7919 * cp + 6151 * k + 1 : Nat) : Int))), (7, .int (nI (dyN cp k))), (8, .int (nI ((16 * ((dyN cp k) % (dK (sD (rDayTo s0 cp k).2)))) + (((dyN cp k) / 8) % (dY (sD (rDayTo s0 cp k).2)))))), (9, .int (encM (dyV (dyN cp k))))]) dX8_day_141 rfl (by decide) (qs1 rfl (qs1 rfl (qs1 rfl (qs1 rfl (qs1 rfl (qs1 rfl (qs1 rfl (qs1 rfl (qs1 rfl qs0))))))))) ?_
          refine R_goto (tgt := 31) dX8_day_144 (by decide) ?_
          refine R_ls (L' := [(0, .ref 0), (1, .int (nI cp)), (2, .int (nI cn)), (3, .int (nI (((rDayTo s0 cp k).1) + 1))), (4, .int (nI (k + 1)))]) (qs1 rfl (qs1 rfl (qs1 rfl (qs1 rfl (qs1 rfl qs0))))) ?_
          exact (by have h := ih (k + 1) _ (by omega) (by omega) (by rw [rDay_1 hz]; exact MI_chV hIK hsK hc ht rfl hN) (by rw [rDay_1 hz]; exact sOk_chV hsK hc ht dyV_okv); rw [rDay_1 hz] at h; exact h)
      · refine R_ldc (v := nI 99999) dX8_day_108 lc_RX8_83 ?_
        refine R_top (y := 99999) rfl ?_
        refine R_goto (tgt := 115) dX8_day_110 (by decide) ?_
        refine R_top (y := encM (dyV (dyN cp k))) (by unfold dyV; rw [if_pos h_105]; rfl) ?_
        refine R_istore (L' := [(0, .ref 0), (1, .int (nI cp)), (2, .int (nI cn)), (3, .int (nI ((rDayTo s0 cp k).1))), (4, .int (nI k)), (5, .long (Int64.ofInt ((7919 * cp + 6151 * k + 1 : Nat) : Int))), (7, .int (nI (dyN cp k))), (8, .int (nI ((16 * ((dyN cp k) % (dK (sD (rDayTo s0 cp k).2)))) + (((dyN cp k) / 8) % (dY (sD (rDayTo s0 cp k).2)))))), (9, .int (encM (dyV (dyN cp k))))]) dX8_day_115 (by decide) (qs1 rfl (qs1 rfl (qs1 rfl (qs1 rfl (qs1 rfl (qs1 rfl (qs1 rfl (qs1 rfl (qs1 rfl qs0))))))))) ?_
        refine R_aload_n dX8_day_117 rfl ?_
        refine R_getR dX8_day_118 lg_RX8_19 (by decide) rfl rfl ?_
        refine R_iload dX8_day_121 rfl ?_
        refine R_ialdN dX8_day_123 (by decide) rfl (by omega) (by decide) ?_
        refine R_top (y := encM (dV (sD (rDayTo s0 cp k).2) (dyN cp k % dK (sD (rDayTo s0 cp k).2)) (dyN cp k / 8 % dY (sD (rDayTo s0 cp k).2)))) (hX.v hc ht) ?_
        refine R_iload dX8_day_124 rfl ?_
        refine R_icmp_eq (tgt := 141) dX8_day_126 (by decide) (fun h_126 => ?_) (fun h_126 => ?_)
        · have hz := (encXM2 (fun v e => hB.2.2.1 _ _ v e) dyV_okv).mp h_126
          refine R_iincN (n := 1) (L' := [(0, .ref 0), (1, .int (nI cp)), (2, .int (nI cn)), (3, .int (nI ((rDayTo s0 cp k).1))), (4, .int (nI (k + 1))), (5, .long (Int64.ofInt ((7919 * cp + 6151 * k + 1 : Nat) : Int))), (7, .int (nI (dyN cp k))), (8, .int (nI ((16 * ((dyN cp k) % (dK (sD (rDayTo s0 cp k).2)))) + (((dyN cp k) / 8) % (dY (sD (rDayTo s0 cp k).2)))))), (9, .int (encM (dyV (dyN cp k))))]) dX8_day_141 rfl (by decide) (qs1 rfl (qs1 rfl (qs1 rfl (qs1 rfl (qs1 rfl (qs1 rfl (qs1 rfl (qs1 rfl (qs1 rfl qs0))))))))) ?_
          refine R_goto (tgt := 31) dX8_day_144 (by decide) ?_
          refine R_ls (L' := [(0, .ref 0), (1, .int (nI cp)), (2, .int (nI cn)), (3, .int (nI ((rDayTo s0 cp k).1))), (4, .int (nI (k + 1)))]) (qs1 rfl (qs1 rfl (qs1 rfl (qs1 rfl (qs1 rfl qs0))))) ?_
          exact (by have h := ih (k + 1) _ (by omega) (by omega) (by rw [rDay_0 hz]; exact hIK) (by rw [rDay_0 hz]; exact hsK); rw [rDay_0 hz] at h; exact h)
        · have hz := fun z => h_126 ((encXM2 (fun v e => hB.2.2.1 _ _ v e) dyV_okv).mpr z)
          refine R_aload_n dX8_day_129 rfl ?_
          refine R_iload dX8_day_130 rfl ?_
          refine R_iload dX8_day_132 rfl ?_
          refine R_callV (mc := mX8_change) (As := [_, _]) (r := 0) dX8_day_134 lm_RX8_181 mv_X8_change rfl (by decide) rfl rfl rfl rfl (Nat.le_of_ble_eq_true rfl) (m_change hIK hsK (by omega)) ?_
          rintro _ _ ⟨rfl, K2, hN, rfl⟩
          refine R_pop dX8_day_137 rfl ?_
          refine R_iincN (n := 1) (L' := [(0, .ref 0), (1, .int (nI cp)), (2, .int (nI cn)), (3, .int (nI (((rDayTo s0 cp k).1) + 1))), (4, .int (nI k)), (5, .long (Int64.ofInt ((7919 * cp + 6151 * k + 1 : Nat) : Int))), (7, .int (nI (dyN cp k))), (8, .int (nI ((16 * ((dyN cp k) % (dK (sD (rDayTo s0 cp k).2)))) + (((dyN cp k) / 8) % (dY (sD (rDayTo s0 cp k).2)))))), (9, .int (encM (dyV (dyN cp k))))]) dX8_day_138 rfl (by decide) (qs1 rfl (qs1 rfl (qs1 rfl (qs1 rfl (qs1 rfl (qs1 rfl (qs1 rfl (qs1 rfl (qs1 rfl qs0))))))))) ?_
          refine R_iincN (n := 1) (L' := [(0, .ref 0), (1, .int (nI cp)), (2, .int (nI cn)), (3, .int (nI (((rDayTo s0 cp k).1) + 1))), (4, .int (nI (k + 1))), (5, .long (Int64.ofInt ((7919 * cp + 6151 * k + 1 : Nat) : Int))), (7, .int (nI (dyN cp k))), (8, .int (nI ((16 * ((dyN cp k) % (dK (sD (rDayTo s0 cp k).2)))) + (((dyN cp k) / 8) % (dY (sD (rDayTo s0 cp k).2)))))), (9, .int (encM (dyV (dyN cp k))))]) dX8_day_141 rfl (by decide) (qs1 rfl (qs1 rfl (qs1 rfl (qs1 rfl (qs1 rfl (qs1 rfl (qs1 rfl (qs1 rfl (qs1 rfl qs0))))))))) ?_
          refine R_goto (tgt := 31) dX8_day_144 (by decide) ?_
          refine R_ls (L' := [(0, .ref 0), (1, .int (nI cp)), (2, .int (nI cn)), (3, .int (nI (((rDayTo s0 cp k).1) + 1))), (4, .int (nI (k + 1)))]) (qs1 rfl (qs1 rfl (qs1 rfl (qs1 rfl (qs1 rfl qs0))))) ?_
          exact (by have h := ih (k + 1) _ (by omega) (by omega) (by rw [rDay_1 hz]; exact MI_chV hIK hsK hc ht rfl hN) (by rw [rDay_1 hz]; exact sOk_chV hsK hc ht dyV_okv); rw [rDay_1 hz] at h; exact h)
set_option maxRecDepth 100000 in
set_option maxHeartbeats 4000000 in
theorem p_day {M : qMem} {s : sT} (hI : MI M s) (hs : sOk s) {p n : Int32} : qSem 1 mX8_day [.ref 0, .int (p), .int (n)] M (fun r N => r = some (.int (rDay s p n).1) ∧ MI N (rDay s p n).2) := by
  refine qSem.of (by decide +kernel) (Nat.le_of_ble_eq_true rfl) (fun w => ?_)
  refine R_ls (L' := [(0, .ref 0), (1, .int (p)), (2, .int (n))]) (qs1 rfl (qs1 rfl (qs1 rfl qs0))) ?_
  refine R_iload_n dX8_day_0 rfl ?_
  refine R_i2l dX8_day_1 ?_
  refine R_lconst (v := 0) dX8_day_2 rfl ?_
  refine R_ldc2 dX8_day_3 lc_RX8_179 ?_
  refine R_callS (mc := mX8_in) (As := [_, _, _]) dX8_day_6 lm_RX8_98 mv_X8_in rfl rfl rfl (Nat.le_of_ble_eq_true rfl) m_in ?_
  rintro _ _ ⟨rfl, ⟨rfl, hp⟩ | ⟨rfl, hp⟩⟩
  · rw [in_p] at hp
    refine R_if_eqN (tgt := 24) dX8_day_9 (by decide) (by omega) (fun h_9 => by exact absurd h_9 (by decide)) (fun h_9 => ?_)
    refine R_iload_n dX8_day_12 rfl ?_
    refine R_i2l dX8_day_13 ?_
    refine R_lconst (v := 1) dX8_day_14 rfl ?_
    refine R_ldc2 dX8_day_15 lc_RX8_196 ?_
    refine R_callS (mc := mX8_in) (As := [_, _, _]) dX8_day_18 lm_RX8_98 mv_X8_in rfl rfl rfl (Nat.le_of_ble_eq_true rfl) m_in ?_
    rintro _ _ ⟨rfl, ⟨rfl, hn⟩ | ⟨rfl, hn⟩⟩
    · rw [in_n] at hn
      refine R_if_neN (tgt := 26) dX8_day_21 (by decide) (by omega) (fun h_21 => ?_) (fun h_21 => by exact absurd h_21 (by decide))
      have hp1 : (0 ≤ p ∧ p ≤ nI 9999) ∧ (1 ≤ n ∧ n ≤ nI 20) := ⟨hp, hn⟩
      obtain ⟨cp, hcp0, rfl⟩ := nI_of (x := p) (Int32.not_lt.mpr hp1.1.1)
      obtain ⟨cn, hcn0, rfl⟩ := nI_of (x := n) (fun z => absurd (Int32.lt_of_lt_of_le z (show (0 : Int32) ≤ 1 by decide)) (Int32.not_lt.mpr hp1.2.1))
      have hcp := (nI_leI (by omega) (by omega)).mp hp1.1.2
      have hcn := (nI_leI (by omega) (by omega)).mp hp1.2.2
      rw [show rDay s (nI cp) (nI cn) = (nI (rDayTo s cp cn).1, (rDayTo s cp cn).2) from by unfold rDay; rw [if_pos hp1, kn_n (by omega), kn_n (by omega)]]
      refine R_iconst (v := nI 0) dX8_day_26 rfl ?_
      refine R_istore_n (L' := [(0, .ref 0), (1, .int (nI cp)), (2, .int (nI cn)), (3, .int (nI 0))]) dX8_day_27 (by decide) (qs1 rfl (qs1 rfl (qs1 rfl (qs1 rfl qs0)))) ?_
      refine R_iconst (v := nI 0) dX8_day_28 rfl ?_
      refine R_istore (L' := [(0, .ref 0), (1, .int (nI cp)), (2, .int (nI cn)), (3, .int (nI 0)), (4, .int (nI 0))]) dX8_day_29 (by decide) (qs1 rfl (qs1 rfl (qs1 rfl (qs1 rfl (qs1 rfl qs0))))) ?_
      refine R_ls (L' := [(0, .ref 0), (1, .int (nI cp)), (2, .int (nI cn)), (3, .int (nI 0)), (4, .int (nI 0))]) (qs1 rfl (qs1 rfl (qs1 rfl (qs1 rfl (qs1 rfl qs0))))) ?_
      exact (m_dayL hcp hcn (cn + 2) 0 M (by omega) (Nat.zero_le _) hI hs)
    · rw [in_n] at hn
      refine R_if_neN (tgt := 26) dX8_day_21 (by decide) (by omega) (fun h_21 => by exact absurd h_21 (by decide)) (fun h_21 => ?_)
      refine R_iconst (v := -1) dX8_day_24 rfl ?_
      refine R_ireturn dX8_day_25 rfl rfl ?_
      refine ⟨?_, ?_⟩ <;> unfold rDay <;> rw [if_neg (fun h => by first | exact hp h.1 | exact hn h.2)]
      exact hI
  · rw [in_p] at hp
    refine R_if_eqN (tgt := 24) dX8_day_9 (by decide) (by omega) (fun h_9 => ?_) (fun h_9 => by exact absurd h_9 (by decide))
    refine R_iconst (v := -1) dX8_day_24 rfl ?_
    refine R_ireturn dX8_day_25 rfl rfl ?_
    refine ⟨?_, ?_⟩ <;> unfold rDay <;> rw [if_neg (fun h => by first | exact hp h.1 | exact hn h.2)]
    exact hI
