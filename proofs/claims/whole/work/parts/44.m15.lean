
-- ===== the model, as a whole =====
def ML (M : qMem) (h : List gT) : Prop := M.1 4 101 = nI h.length ∧ ∀ i x, h[i]? = some x → ∀ k, k < 3 → M.1 9 (3 * i + k) = gq x k
def MT (M : qMem) (tx : List Nat) : Prop := M.1 0 0 = nI tx.length ∧ ∀ i, i < tx.length → M.1 1 i = nI (lt tx i)
def MB (M : qMem) : dT × List gT → List aT → Prop
  | _, [] => True
  | q, a :: r => MRow M 8 (102 * r.length) (und a q).1 ∧ M.1 8 (102 * r.length + 101) = nI (und a q).2.length ∧ MB M (und a q) r
def MI (M : qMem) (s : sT) : Prop := MR M (sD s) ∧ ML M (sG s) ∧ MT M (sX s) ∧ M.1 0 13 = nI (sA s).length ∧ MB M (sD s, sG s) (sA s).reverse ∧ (¬ M.1 0 22 = 0 → MCul M (sD s))
def sOk (s : sT) : Prop := dB (sD s) ∧ (4 ≤ dY (sD s) ∧ 2 ≤ dK (sD s)) ∧ txB (sX s) ∧ HV (sD s, sG s) (sA s).reverse ∧ (sA s).length ≤ 8 ∧ (sG s).length ≤ 10
theorem XI.ok {vb : Nat} {M : qMem} {s : sT} (h : XI vb M s) : sOk s := ⟨h.2.1, h.2.2.1, h.2.2.2.2.2.2.2.1, h.2.2.2.2.2.2.2.2.2, by have := (XH_len h.2.2.2.2.1).2; rw [List.length_map] at this; exact this, h.2.2.2.2.2.1.2.1⟩
theorem ML.off {M N : qMem} {h : List gT} (H : ML M h) (e4 : N.1 4 101 = M.1 4 101) (e9 : N.1 9 = M.1 9) : ML N h := ⟨by rw [e4]; exact H.1, fun i x hi k hk => by rw [e9]; exact H.2 i x hi k hk⟩
theorem MT.off {M N : qMem} {t : List Nat} (H : MT M t) (e0 : N.1 0 0 = M.1 0 0) (e1 : N.1 1 = M.1 1) : MT N t := ⟨by rw [e0]; exact H.1, fun i hi => by rw [e1]; exact H.2 i hi⟩
theorem MRow.off {M N : qMem} {o b : Nat} {d : dT} (H : MRow M o b d) (e : N.1 o = M.1 o) : MRow N o b d := ⟨fun c t hc ht => by rw [e]; exact H.1 c t hc ht, by rw [e]; exact H.2.1, fun k hk => by rw [e]; exact H.2.2 k hk⟩
theorem MB.off {M N : qMem} (e : N.1 8 = M.1 8) : ∀ {q : dT × List gT} {r : List aT}, MB M q r → MB N q r
  | _, [], _ => True.intro
  | q, a :: r, h => ⟨h.1.off e, by rw [e]; exact h.2.1, MB.off e h.2.2⟩
theorem MI.sc {M N : qMem} {s : sT} (h : MI M s) (hO : cOff sSc M N) : MI N s := by
  obtain ⟨h1, h2, h3, h4, h5, h6⟩ := h
  have e : ∀ o, o < 10 → o ≠ 0 → N.1 o = M.1 o := fun o a b => funext fun k => (hO o k (by unfold sSc; omega)).1
  have e2 : ∀ o, 14 ≤ o → N.1 o = M.1 o := fun o a => funext fun k => (hO o k (by unfold sSc; omega)).1
  have e0 : ∀ k, k ≠ 16 → k ≠ 20 → N.1 0 k = M.1 0 k := fun k a b => (hO 0 k (by unfold sSc; omega)).1
  exact ⟨h1.sc hO, h2.off (by rw [e 4 (by omega) (by omega)]) (e 9 (by omega) (by omega)), h3.off (e0 0 (by omega) (by omega)) (e 1 (by omega) (by omega)), by rw [e0 13 (by omega) (by omega)]; exact h4, h5.off (e 8 (by omega) (by omega)), fun z => (h6 (by rw [e0 22 (by omega) (by omega)] at z; exact z)).off (e0 25 (by omega) (by omega)) (fun o a b => e2 o a)⟩
theorem MI.kn {M N : qMem} {s : sT} (h : MI M s) (hO : cOff sCu M N) (hC : MCul N (sD s)) : MI N s := by
  obtain ⟨h1, h2, h3, h4, h5, h6⟩ := h
  have e : ∀ o, o < 10 → o ≠ 0 → N.1 o = M.1 o := fun o a b => funext fun k => (hO o k (by unfold sCu; omega)).1
  have e0 : ∀ k, k < 16 → N.1 0 k = M.1 0 k := fun k a => (hO 0 k (by unfold sCu; omega)).1
  exact ⟨h1.cu hO, h2.off (by rw [e 4 (by omega) (by omega)]) (e 9 (by omega) (by omega)), h3.off (e0 0 (by omega)) (e 1 (by omega) (by omega)), by rw [e0 13 (by omega)]; exact h4, h5.off (e 8 (by omega) (by omega)), fun _ => hC⟩
theorem m_know {M : qMem} {s : sT} (hI : MI M s) (hs : sOk s) : qSem 1 mX8_know [.ref 0] M (fun v N => v = none ∧ MI N s ∧ MCul N (sD s)) := by
  by_cases h : M.1 0 22 = 0
  · exact (m_know0 hI.1 hs.1 hs.2.1.2 hs.2.1.1 h).mono (fun v N q => ⟨q.1, hI.kn q.2.2.2 q.2.1, q.2.1⟩)
  · exact (m_know1 hI.1 hs.1 hs.2.1.2 hs.2.1.1 h).mono (fun v N q => ⟨q.1, by rw [q.2]; exact hI, by rw [q.2]; exact hI.2.2.2.2.2 h⟩)
set_option maxRecDepth 100000 in
set_option maxHeartbeats 4000000 in
theorem p_votes {M : qMem} {s : sT} (hI : MI M s) (hs : sOk s) {c t : Int32} : qSem 1 mX8_votes [.ref 0, .int (c), .int (t)] M (fun r N => r = some (.int (aVotes (sD s) c t)) ∧ MI N s) := by
  have hX := hI.1
  have hB := hs.1
  have hK6 := hB.2.1
  have hY16 := hB.1
  have hY4 := hs.2.1.1
  have hK2 := hs.2.1.2
  have hp6 : 2 ^ dK (sD s) ≤ 2 ^ 6 := Nat.pow_le_pow_right (by decide) hK6
  refine qSem.of (by decide +kernel) (Nat.le_of_ble_eq_true rfl) (fun w => ?_)
  refine R_ls (L' := [(0, .ref 0), (1, .int (c)), (2, .int (t))]) (qs1 rfl (qs1 rfl (qs1 rfl qs0))) ?_
  refine R_aload_n dX8_votes_0 rfl ?_
  refine R_iload_n dX8_votes_1 rfl ?_
  refine R_callV (mc := mX8_isStation) (As := [_]) (r := 0) dX8_votes_2 lm_RX8_161 mv_X8_isStation rfl (by decide) rfl rfl rfl rfl (Nat.le_of_ble_eq_true rfl) (m_isSta hX (by omega) (by omega)) ?_
  rintro _ _ ⟨rfl, ⟨rfl, hkc⟩ | ⟨rfl, hkc⟩⟩
  · have hkc2 : inN c (dK (sD s)) := hkc
    obtain ⟨cc, hcc, rfl⟩ := inN_o (by omega) hkc2
    refine R_if_eqN (tgt := 16) dX8_votes_5 (by decide) (by omega) (fun h_5 => by exact absurd h_5 (by decide)) (fun h_5 => ?_)
    refine R_aload_n dX8_votes_8 rfl ?_
    refine R_iload_n dX8_votes_9 rfl ?_
    refine R_callV (mc := mX8_isYear) (As := [_]) (r := 0) dX8_votes_10 lm_RX8_171 mv_X8_isYear rfl (by decide) rfl rfl rfl rfl (Nat.le_of_ble_eq_true rfl) (m_isYea hX (by omega) (by omega)) ?_
    rintro _ _ ⟨rfl, ⟨rfl, hkt⟩ | ⟨rfl, hkt⟩⟩
    · have hkt2 : inN t (dY (sD s)) := hkt
      obtain ⟨ct, hct, rfl⟩ := inN_o (by omega) hkt2
      refine R_if_neN (tgt := 18) dX8_votes_13 (by decide) (by omega) (fun h_13 => ?_) (fun h_13 => by exact absurd h_13 (by decide))
      refine R_aload_n dX8_votes_18 rfl ?_
      refine R_callV (mc := mX8_know) (As := []) (r := 0) dX8_votes_19 lm_RX8_269 mv_X8_know rfl (by decide) rfl rfl rfl rfl (Nat.le_of_ble_eq_true rfl) (m_know hI hs) ?_
      rintro _ _ ⟨rfl, hI2, hC⟩
      have hX2 := hI2.1
      refine R_aload_n dX8_votes_22 rfl ?_
      refine R_aload_n dX8_votes_23 rfl ?_
      refine R_getR dX8_votes_24 lg_RX8_50 (by decide) rfl rfl ?_
      refine R_iload_n dX8_votes_27 rfl ?_
      refine R_iload_n dX8_votes_28 rfl ?_
      refine R_callV (mc := mX8_withWhom) (As := [_, _, _]) (r := 0) dX8_votes_29 lm_RX8_256 mv_X8_withWhom rfl (by decide) rfl rfl rfl rfl (Nat.le_of_ble_eq_true rfl) (m_with14 hX2 hB hC.2.1 hcc hct) ?_
      rintro _ _ ⟨rfl, rfl⟩
      have hW6 := wm_lt (wF (Fb (sD s)) cc ct) (dK (sD s))
      refine R_callS (mc := mX8_ones) (As := [_]) dX8_votes_32 lm_RX8_260 mv_X8_ones rfl rfl rfl (Nat.le_of_ble_eq_true rfl) (m_ones (by omega)) ?_
      rintro _ _ ⟨rfl, rfl⟩
      refine R_top (y := nI (cnt (pL (sD s)) (bP (sD s) (pL (sD s))) cc ct)) (by rw [pc_wm hK6, cnt_pop (RB_0 (sD s)) hcc hct]) ?_
      refine R_ireturn dX8_votes_35 rfl rfl ?_
      exact ⟨by unfold aVotes; rw [if_pos ⟨hkc2, hkt2⟩, kn_n (by omega), kn_n (by omega)], hI2⟩
    · refine R_if_neN (tgt := 18) dX8_votes_13 (by decide) (by omega) (fun h_13 => by exact absurd h_13 (by decide)) (fun h_13 => ?_)
      refine R_iconst (v := -1) dX8_votes_16 rfl ?_
      refine R_ireturn dX8_votes_17 rfl rfl ?_
      exact ⟨by unfold aVotes; rw [if_neg (fun h => by first | exact hkt h.2 | exact hkc h.1)], hI⟩
  · refine R_if_eqN (tgt := 16) dX8_votes_5 (by decide) (by omega) (fun h_5 => ?_) (fun h_5 => by exact absurd h_5 (by decide))
    refine R_iconst (v := -1) dX8_votes_16 rfl ?_
    refine R_ireturn dX8_votes_17 rfl rfl ?_
    exact ⟨by unfold aVotes; rw [if_neg (fun h => by first | exact hkt h.2 | exact hkc h.1)], hI⟩

theorem in_k3 {k : Int32} : (0 ≤ k.toInt64 ∧ k.toInt64 ≤ 3) ↔ inN k 4 := in_sta (n := 4) (by decide) (by decide)
theorem in_k2 {k : Int32} : (0 ≤ k.toInt64 ∧ k.toInt64 ≤ 2) ↔ inN k 3 := in_sta (n := 3) (by decide) (by decide)
theorem q_neg1 {i : Int32} (h1 : -1 ≤ i) (h2 : i < 0) : i = -1 := by
  rw [Int32.lt_iff_toInt_lt] at h2
  rw [Int32.le_iff_toInt_le] at h1
  exact Int32.toInt_inj.mp (by have e1 : (-1 : Int32).toInt = -1 := rfl; have e0 : (0 : Int32).toInt = 0 := rfl; omega)
theorem MCul.at {N : qMem} {d : dT} (h : MCul N d) {i : Nat} (hi : i < (cuL d).length) : ∃ x, (cuL d).getD i (0, 0, 0, 0) = x ∧ MFx N d i x ∧ x.1 < dK d ∧ x.2.1 < dY d ∧ (cuL d)[i]? = some x := by
  obtain ⟨x, h1, h2, h3, h4⟩ := cuL_at hi
  exact ⟨x, h2, h.2.2 i x h1, h3, h4, h1⟩
set_option maxRecDepth 100000 in
set_option maxHeartbeats 4000000 in
theorem p_culprit {M : qMem} {s : sT} (hI : MI M s) (hs : sOk s) {i k : Int32} : qSem 1 mX8_culprit [.ref 0, .int (i), .int (k)] M (fun r N => r = some (.int (aCulprit (sD s) i k)) ∧ MI N s) := by
  have hX := hI.1
  have hB := hs.1
  have hK6 := hB.2.1
  have hY16 := hB.1
  have hY4 := hs.2.1.1
  have hK2 := hs.2.1.2
  have hcl := cuL_len (sD s)
  refine qSem.of (by decide +kernel) (Nat.le_of_ble_eq_true rfl) (fun w => ?_)
  refine R_ls (L' := [(0, .ref 0), (1, .int (i)), (2, .int (k))]) (qs1 rfl (qs1 rfl (qs1 rfl qs0))) ?_
  refine R_iload_n dX8_culprit_0 rfl ?_
  refine R_iconst (v := -1) dX8_culprit_1 rfl ?_
  refine R_icmp_lt (tgt := 17) dX8_culprit_2 (by decide) (fun h_2 => ?_) (fun h_2 => ?_)
  · refine R_iconst (v := -1) dX8_culprit_17 rfl ?_
    refine R_ireturn dX8_culprit_18 rfl rfl ?_
    exact ⟨by unfold aCulprit; rw [if_neg (fun h => by first | exact absurd h.1 (Int32.not_le.mpr h_2) | exact h_k h.2)], hI⟩
  · refine R_iload_n dX8_culprit_5 rfl ?_
    refine R_i2l dX8_culprit_6 ?_
    refine R_lconst (v := 0) dX8_culprit_7 rfl ?_
    refine R_ldc2 dX8_culprit_8 lc_RX8_280 ?_
    refine R_callS (mc := mX8_in) (As := [_, _, _]) dX8_culprit_11 lm_RX8_98 mv_X8_in rfl rfl rfl (Nat.le_of_ble_eq_true rfl) m_in ?_
    rintro _ _ ⟨rfl, ⟨rfl, hq⟩ | ⟨rfl, hq⟩⟩
    · have h_k := in_k3.mp hq
      have h_2k : -1 ≤ i := by first | exact h_2 | exact Int32.not_lt.mp h_2
      obtain ⟨cw, hcw, rfl⟩ := inN_o (by omega) h_k
      refine R_if_neN (tgt := 19) dX8_culprit_14 (by decide) (by omega) (fun h_14 => ?_) (fun h_14 => by exact absurd h_14 (by decide))
      refine R_aload_n dX8_culprit_19 rfl ?_
      refine R_callV (mc := mX8_know) (As := []) (r := 0) dX8_culprit_20 lm_RX8_269 mv_X8_know rfl (by decide) rfl rfl rfl rfl (Nat.le_of_ble_eq_true rfl) (m_know hI hs) ?_
      rintro _ _ ⟨rfl, hI2, hC⟩
      have hX2 := hI2.1
      refine R_iload_n dX8_culprit_23 rfl ?_
      refine R_if_lt (tgt := 35) dX8_culprit_24 (by decide) (fun h_24 => ?_) (fun h_24 => ?_)
      · have h_31 : i = -1 := q_neg1 h_2k (by first | exact h_24 | exact Int32.not_le.mp h_24)
        refine R_iload_n dX8_culprit_35 rfl ?_
        refine R_if_ge (tgt := 46) dX8_culprit_36 (by decide) (fun h_36 => ?_) (fun h_36 => ?_)
        · refine R_bipush (v := -4) dX8_culprit_46 rfl ?_
          refine R_ireturn dX8_culprit_48 rfl rfl ?_
          exact absurd h_24 (Int32.not_lt.mpr h_36)
        · refine R_aload_n dX8_culprit_39 rfl ?_
          refine R_getI dX8_culprit_40 (lf_RX8_253).get (by decide) rfl rfl ?_
          refine R_top (y := nI ((cuL (sD s)).length)) hC.1 ?_
          refine R_goto (tgt := 48) dX8_culprit_43 (by decide) ?_
          refine R_ireturn dX8_culprit_48 rfl rfl ?_
          exact ⟨by unfold aCulprit; rw [if_pos ⟨h_2k, h_k⟩, if_pos h_31], hI2⟩
      · have h_25 : ¬ i = -1 := fun e => by rw [e] at h_24; revert h_24; decide
        obtain ⟨ci, hci, rfl⟩ := q_gem1 h_2k h_25
        refine R_iload_n dX8_culprit_27 rfl ?_
        refine R_aload_n dX8_culprit_28 rfl ?_
        refine R_getI dX8_culprit_29 (lf_RX8_253).get (by decide) rfl rfl ?_
        refine R_top (y := nI ((cuL (sD s)).length)) hC.1 ?_
        refine R_icmp_ltN (tgt := 49) dX8_culprit_32 (by decide) (by omega) (by omega) (fun h_44 => ?_) (fun h_44 => ?_)
        · obtain ⟨x, hx2, hxF, hx3, hx4, hxg⟩ := hC.at h_44
          refine R_iload_n dX8_culprit_49 rfl ?_
          refine R_if_neN (tgt := 62) dX8_culprit_50 (by decide) (by omega) (fun h_50 => ?_) (fun h_50 => ?_)
          · refine R_iload_n dX8_culprit_62 rfl ?_
            refine R_iconst (v := nI 1) dX8_culprit_63 rfl ?_
            refine R_icmp_neN (tgt := 76) dX8_culprit_64 (by decide) (by omega) (by omega) (fun h_64 => ?_) (fun h_64 => ?_)
            · refine R_iload_n dX8_culprit_76 rfl ?_
              refine R_iconst (v := nI 2) dX8_culprit_77 rfl ?_
              refine R_icmp_neN (tgt := 90) dX8_culprit_78 (by decide) (by omega) (by omega) (fun h_78 => ?_) (fun h_78 => ?_)
              · refine R_aload_n dX8_culprit_90 rfl ?_
                refine R_iload_n dX8_culprit_91 rfl ?_
                refine R_callV (mc := mX8_sizeOf) (As := [_]) (r := 0) dX8_culprit_92 lm_RX8_282 mv_X8_sizeOf rfl (by decide) rfl rfl rfl rfl (Nat.le_of_ble_eq_true rfl) (m_size hX2 hB hK2 hY4 (by omega) hxF hx3 hx4) ?_
                rintro _ _ ⟨rfl, hO3⟩
                refine R_ldc (v := nI 100000) dX8_culprit_95 lc_RX8_167 ?_
                refine R_iadd dX8_culprit_97 ?_
                refine R_ireturn dX8_culprit_98 rfl rfl ?_
                have e : cw = 3 := by omega
                subst e
                exact ⟨by unfold aCulprit; rw [if_pos ⟨h_2k, h_k⟩, if_neg h_25, if_pos (nI_lt h_44 (by omega)), kn_n (by omega), hx2]; rfl, hI2.sc hO3⟩
              · refine R_aload_n dX8_culprit_81 rfl ?_
                refine R_getR dX8_culprit_82 lg_RX8_62 (by decide) rfl rfl ?_
                refine R_iload_n dX8_culprit_85 rfl ?_
                refine R_ialdN dX8_culprit_86 (by decide) rfl (by omega) (by decide) ?_
                refine R_top (y := nI x.2.2.1) hxF.2.2.1 ?_
                refine R_goto (tgt := 98) dX8_culprit_87 (by decide) ?_
                refine R_ireturn dX8_culprit_98 rfl rfl ?_
                have e : cw = 2 := by omega
                subst e
                exact ⟨by unfold aCulprit; rw [if_pos ⟨h_2k, h_k⟩, if_neg h_25, if_pos (nI_lt h_44 (by omega)), kn_n (by omega), hx2]; rfl, hI2⟩
            · refine R_aload_n dX8_culprit_67 rfl ?_
              refine R_getR dX8_culprit_68 lg_RX8_59 (by decide) rfl rfl ?_
              refine R_iload_n dX8_culprit_71 rfl ?_
              refine R_ialdN dX8_culprit_72 (by decide) rfl (by omega) (by decide) ?_
              refine R_top (y := nI x.2.1) hxF.2.1 ?_
              refine R_goto (tgt := 98) dX8_culprit_73 (by decide) ?_
              refine R_ireturn dX8_culprit_98 rfl rfl ?_
              have e : cw = 1 := by omega
              subst e
              exact ⟨by unfold aCulprit; rw [if_pos ⟨h_2k, h_k⟩, if_neg h_25, if_pos (nI_lt h_44 (by omega)), kn_n (by omega), hx2]; rfl, hI2⟩
          · refine R_aload_n dX8_culprit_53 rfl ?_
            refine R_getR dX8_culprit_54 lg_RX8_56 (by decide) rfl rfl ?_
            refine R_iload_n dX8_culprit_57 rfl ?_
            refine R_ialdN dX8_culprit_58 (by decide) rfl (by omega) (by decide) ?_
            refine R_top (y := nI x.1) hxF.1 ?_
            refine R_goto (tgt := 98) dX8_culprit_59 (by decide) ?_
            refine R_ireturn dX8_culprit_98 rfl rfl ?_
            have e : cw = 0 := by omega
            subst e
            exact ⟨by unfold aCulprit; rw [if_pos ⟨h_2k, h_k⟩, if_neg h_25, if_pos (nI_lt h_44 (by omega)), kn_n (by omega), hx2]; rfl, hI2⟩
        · refine R_iload_n dX8_culprit_35 rfl ?_
          refine R_if_geN (tgt := 46) dX8_culprit_36 (by decide) (by omega) ?_
          refine R_bipush (v := -4) dX8_culprit_46 rfl ?_
          refine R_ireturn dX8_culprit_48 rfl rfl ?_
          exact ⟨by unfold aCulprit; rw [if_pos ⟨h_2k, h_k⟩, if_neg h_25, if_neg (nI_nlt h_44 (by omega))], hI2⟩
    · have h_k := fun z => hq (in_k3.mpr z)
      refine R_if_neN (tgt := 19) dX8_culprit_14 (by decide) (by omega) (fun h_14 => by exact absurd h_14 (by decide)) (fun h_14 => ?_)
      refine R_iconst (v := -1) dX8_culprit_17 rfl ?_
      refine R_ireturn dX8_culprit_18 rfl rfl ?_
      exact ⟨by unfold aCulprit; rw [if_neg (fun h => by first | exact absurd h.1 (Int32.not_le.mpr h_2) | exact h_k h.2)], hI⟩
