
-- ===== the model: estimates =====
def sMk (o k : Nat) : Prop := (10 ≤ o ∧ o < 14) ∨ (o = 0 ∧ (k = 16 ∨ k = 20 ∨ k = 30))
theorem cOff.mk {M N : qMem} (h : cOff sSc M N) : cOff sMk M N := h.mono (fun o k z => by unfold sSc at z; unfold sMk; omega)
theorem MR.mk {M N : qMem} {d : dT} (h : MR M d) (hO : cOff sMk M N) : MR N d := h.co hO (fun o k z => by unfold sMk at z; omega)
theorem MI.mk {M N : qMem} {s : sT} (h : MI M s) (hO : cOff sMk M N) : MI N s := by
  obtain ⟨h1, h2, h3, h4, h5, h6⟩ := h
  have e : ∀ o, o < 10 → o ≠ 0 → N.1 o = M.1 o := fun o a b => funext fun k => (hO o k (by unfold sMk; omega)).1
  have e2 : ∀ o, 14 ≤ o → N.1 o = M.1 o := fun o a => funext fun k => (hO o k (by unfold sMk; omega)).1
  have e0 : ∀ k, k ≠ 16 → k ≠ 20 → k ≠ 30 → N.1 0 k = M.1 0 k := fun k a b c => (hO 0 k (by unfold sMk; omega)).1
  exact ⟨h1.mk hO, h2.off (by rw [e 4 (by omega) (by omega)]) (e 9 (by omega) (by omega)), h3.off (e0 0 (by omega) (by omega) (by omega)) (e 1 (by omega) (by omega)), by rw [e0 13 (by omega) (by omega) (by omega)]; exact h4, h5.off (e 8 (by omega) (by omega)), fun z => (h6 (by rw [e0 22 (by omega) (by omega) (by omega)] at z; exact z)).off (e0 25 (by omega) (by omega) (by omega)) (fun o a b => e2 o a)⟩
theorem mea_m {l : List (Nat × Int32)} {j : Nat} (hj : j + 1 = l.length) : (nI (720720 / l.length)).toInt64 * (S1 l (j + 1) - S1 l 0) = mea l 0 l.length := by
  unfold mea sc
  rw [if_neg (by omega), Int64.mul_comm, hj]; rfl
set_option maxRecDepth 100000 in
set_option maxHeartbeats 4000000 in
theorem m_cmL {w : qWT} {M : qMem} {d : dT} (hX0 : MR M d) (hB : dB d) (hK2 : 2 ≤ dK d) (hY4 : 4 ≤ dY d) {cc ct : Nat} (hcc : cc < dK d) (hct : ct < dY d) : ∀ (fu : Nat) (q : Nat) (K : qMem), (dK d + 1 - q) < fu → (q ≤ dK d) → (cOff sMk M K) → qRW 1 w mX8_canMake 8 [(0, .ref 0), (1, .int (nI cc)), (2, .int (nI ct)), (3, .long (eSum d cc ct q)), (5, .int (nI (eNum d cc ct q))), (6, .int (nI q))] [] K (fun v N => cOff sMk M N ∧ ((eNum d cc ct (dK d) = 0 ∧ v = some (.int (nI 0))) ∨ (¬ eNum d cc ct (dK d) = 0 ∧ v = some (.int (nI 1)) ∧ N.1 0 30 = eRes d cc ct))) := by
  intro fu
  induction fu with
  | zero => intro q K hn; exact absurd hn (Nat.not_lt_zero _)
  | succ fu ih =>
    intro q K hn hq hO
    have hX := hX0.mk hO
    have hK6 := hB.2.1
    have hY16 := hB.1
    have hn6 := eNum_le d cc ct q
    refine R_iload dX8_canMake_8 rfl ?_
    refine R_aload_n dX8_canMake_10 rfl ?_
    refine R_getI dX8_canMake_11 (lf_RX8_148).get (by decide) rfl rfl ?_
    refine R_top (y := nI (dK d)) hX.1.1 ?_
    refine R_icmp_geN (tgt := 102) dX8_canMake_14 (by decide) (by omega) (by omega) (fun h_14 => ?_) (fun h_14 => ?_)
    · have e : q = dK d := by omega
      subst e
      refine R_aload_n dX8_canMake_102 rfl ?_
      refine R_iload dX8_canMake_103 rfl ?_
      refine R_if_neN (tgt := 112) dX8_canMake_105 (by decide) (by omega) (fun h_105 => ?_) (fun h_105 => ?_)
      · refine R_lload_n dX8_canMake_112 rfl ?_
        refine R_ldc2 dX8_canMake_113 lc_RX8_223 ?_
        refine R_iload dX8_canMake_116 rfl ?_
        refine R_i2l dX8_canMake_118 ?_
        refine R_lmul dX8_canMake_119 ?_
        refine R_callS (mc := mX8_nearestOf) (As := [_, _]) dX8_canMake_120 lm_RX8_276 mv_X8_nearestOf rfl rfl rfl (Nat.le_of_ble_eq_true rfl) (m_near2 (h_pos (by omega) (by omega))) ?_
        rintro _ _ ⟨rfl, rfl⟩
        refine R_l2i dX8_canMake_123 ?_
        refine R_putI dX8_canMake_124 lf_RX8_288 (by decide) rfl rfl rfl rfl ?_
        refine R_iload dX8_canMake_127 rfl ?_
        refine R_if_leN (tgt := 136) dX8_canMake_129 (by decide) (by omega) (fun h_129 => ?_) (fun h_129 => ?_)
        · refine R_iconst (v := nI 0) dX8_canMake_136 rfl ?_
          refine R_ireturn dX8_canMake_137 rfl rfl ?_
          exact absurd h_105 (by omega)
        · refine R_iconst (v := nI 1) dX8_canMake_132 rfl ?_
          refine R_goto (tgt := 137) dX8_canMake_133 (by decide) ?_
          refine R_ireturn dX8_canMake_137 rfl rfl ?_
          exact ⟨hO.is (by unfold sMk; omega), Or.inr ⟨by omega, rfl, by rw [qIs_eq]; unfold eRes rmean; rw [if_neg (by omega)]⟩⟩
      · refine R_iconst (v := nI 0) dX8_canMake_108 rfl ?_
        refine R_goto (tgt := 124) dX8_canMake_109 (by decide) ?_
        refine R_putI dX8_canMake_124 lf_RX8_288 (by decide) rfl rfl rfl rfl ?_
        refine R_iload dX8_canMake_127 rfl ?_
        refine R_if_leN (tgt := 136) dX8_canMake_129 (by decide) (by omega) (fun h_129 => ?_) (fun h_129 => ?_)
        · refine R_iconst (v := nI 0) dX8_canMake_136 rfl ?_
          refine R_ireturn dX8_canMake_137 rfl rfl ?_
          exact ⟨hO.is (by unfold sMk; omega), Or.inl ⟨by omega, rfl⟩⟩
        · refine R_iconst (v := nI 1) dX8_canMake_132 rfl ?_
          refine R_goto (tgt := 137) dX8_canMake_133 (by decide) ?_
          refine R_ireturn dX8_canMake_137 rfl rfl ?_
          exact absurd h_105 (by omega)
    · refine R_iload dX8_canMake_17 rfl ?_
      refine R_iload_n dX8_canMake_19 rfl ?_
      refine R_icmp_eqN (tgt := 96) dX8_canMake_20 (by decide) (by omega) (by omega) (fun h_20 => ?_) (fun h_20 => ?_)
      · refine R_iincN (n := 1) (L' := [(0, .ref 0), (1, .int (nI cc)), (2, .int (nI ct)), (3, .long (eSum d cc ct q)), (5, .int (nI (eNum d cc ct q))), (6, .int (nI (q + 1)))]) dX8_canMake_96 rfl (by decide) (qs1 rfl (qs1 rfl (qs1 rfl (qs1 rfl (qs1 rfl (qs1 rfl qs0)))))) ?_
        refine R_goto (tgt := 8) dX8_canMake_99 (by decide) ?_
        refine R_ls (L' := [(0, .ref 0), (1, .int (nI cc)), (2, .int (nI ct)), (3, .long (eSum d cc ct q)), (5, .int (nI (eNum d cc ct q))), (6, .int (nI (q + 1)))]) (qs1 rfl (qs1 rfl (qs1 rfl (qs1 rfl (qs1 rfl (qs1 rfl qs0)))))) ?_
        exact (by have h := ih (q + 1) _ (by omega) (by omega) hO; have ee : eOk d cc ct q = false := (by simp [eOk, h_20]); rw [(eS_f ee).1, (eS_f ee).2] at h; exact h)
      · refine R_aload_n dX8_canMake_23 rfl ?_
        refine R_iload_n dX8_canMake_24 rfl ?_
        refine R_iload dX8_canMake_25 rfl ?_
        refine R_callV (mc := mX8_isPair) (As := [_, _]) (r := 0) dX8_canMake_27 lm_RX8_213 mv_X8_isPair rfl (by decide) rfl rfl rfl rfl (Nat.le_of_ble_eq_true rfl) (m_pair hX hB hcc (by omega)) ?_
        rintro _ _ ⟨rfl, ⟨rfl, hp⟩ | ⟨rfl, hp⟩⟩
        · refine R_if_eqN (tgt := 96) dX8_canMake_30 (by decide) (by omega) (fun h_30 => by exact absurd h_30 (by decide)) (fun h_30 => ?_)
          refine R_aload_n dX8_canMake_33 rfl ?_
          refine R_iload dX8_canMake_34 rfl ?_
          refine R_iload_n dX8_canMake_36 rfl ?_
          refine R_callV (mc := mX8_isThere) (As := [_, _]) (r := 0) dX8_canMake_37 lm_RX8_184 mv_X8_isThere rfl (by decide) rfl rfl rfl rfl (Nat.le_of_ble_eq_true rfl) (m_isT hX hB (by omega) hct) ?_
          rintro _ _ ⟨rfl, ⟨rfl, ht⟩ | ⟨rfl, ht⟩⟩
          · obtain ⟨v, ev⟩ := Option.isSome_iff_exists.mp ht
            refine R_if_eqN (tgt := 96) dX8_canMake_40 (by decide) (by omega) (fun h_40 => by exact absurd h_40 (by decide)) (fun h_40 => ?_)
            refine R_aload_n dX8_canMake_43 rfl ?_
            refine R_iload_n dX8_canMake_44 rfl ?_
            refine R_iload dX8_canMake_45 rfl ?_
            refine R_callV (mc := mX8_rowOf) (As := [_, _]) (r := 0) dX8_canMake_47 lm_RX8_226 mv_X8_rowOf rfl (by decide) rfl rfl rfl rfl (Nat.le_of_ble_eq_true rfl) (m_row hX hB hK2 hY4 hcc (by omega)) ?_
            rintro _ _ ⟨rfl, hS, hO1⟩
            have hl16 := hS.2.1
            have hO2 := hO.tr hO1.mk
            have hX2 := hX.sc hO1
            refine R_aload_n dX8_canMake_50 rfl ?_
            refine R_getI dX8_canMake_51 (lf_RX8_216).get (by decide) rfl rfl ?_
            refine R_top (y := nI ((ser d cc q).length)) hS.1 ?_
            refine R_if_leN (tgt := 96) dX8_canMake_54 (by decide) (by omega) (fun h_54 => ?_) (fun h_54 => ?_)
            · refine R_iincN (n := 1) (L' := [(0, .ref 0), (1, .int (nI cc)), (2, .int (nI ct)), (3, .long (eSum d cc ct q)), (5, .int (nI (eNum d cc ct q))), (6, .int (nI (q + 1)))]) dX8_canMake_96 rfl (by decide) (qs1 rfl (qs1 rfl (qs1 rfl (qs1 rfl (qs1 rfl (qs1 rfl qs0)))))) ?_
              refine R_goto (tgt := 8) dX8_canMake_99 (by decide) ?_
              refine R_ls (L' := [(0, .ref 0), (1, .int (nI cc)), (2, .int (nI ct)), (3, .long (eSum d cc ct q)), (5, .int (nI (eNum d cc ct q))), (6, .int (nI (q + 1)))]) (qs1 rfl (qs1 rfl (qs1 rfl (qs1 rfl (qs1 rfl (qs1 rfl qs0)))))) ?_
              exact (by have h := ih (q + 1) _ (by omega) (by omega) hO2; have ee : eOk d cc ct q = false := (by unfold eOk; rw [decide_eq_false (show ¬ 0 < (ser d cc q).length by omega)]; simp); rw [(eS_f ee).1, (eS_f ee).2] at h; exact h)
            · refine R_lload_n dX8_canMake_57 rfl ?_
              refine R_ldc2 dX8_canMake_58 lc_RX8_223 ?_
              refine R_aload_n dX8_canMake_61 rfl ?_
              refine R_iload dX8_canMake_62 rfl ?_
              refine R_iload_n dX8_canMake_64 rfl ?_
              refine R_callV (mc := mX8_valueOf) (As := [_, _]) (r := 0) dX8_canMake_65 lm_RX8_164 mv_X8_valueOf rfl (by decide) rfl rfl rfl rfl (Nat.le_of_ble_eq_true rfl) (m_val hX2 hB (by omega) hct) ?_
              rintro _ _ ⟨rfl, rfl⟩
              refine R_top (y := v) (by rw [ev]; rfl) ?_
              refine R_i2l dX8_canMake_68 ?_
              refine R_lmul dX8_canMake_69 ?_
              refine R_ldc (v := nI 720720) dX8_canMake_70 lc_RX8_225 ?_
              refine R_aload_n dX8_canMake_72 rfl ?_
              refine R_getI dX8_canMake_73 (lf_RX8_216).get (by decide) rfl rfl ?_
              refine R_top (y := nI ((ser d cc q).length)) hS.1 ?_
              refine R_idivN dX8_canMake_76 (by omega) (by omega) (by omega) ?_
              refine R_i2l dX8_canMake_77 ?_
              refine R_aload_n dX8_canMake_78 rfl ?_
              refine R_iconst (v := nI 0) dX8_canMake_79 rfl ?_
              refine R_aload_n dX8_canMake_80 rfl ?_
              refine R_getI dX8_canMake_81 (lf_RX8_216).get (by decide) rfl rfl ?_
              refine R_top (y := nI ((ser d cc q).length)) hS.1 ?_
              refine R_iconst (v := nI 1) dX8_canMake_84 rfl ?_
              refine R_isubN dX8_canMake_85 (by omega) ?_
              refine R_callV (mc := mX8_sumOf) (As := [_, _]) (r := 0) dX8_canMake_86 lm_RX8_219 mv_X8_sumOf rfl (by decide) rfl rfl rfl rfl (Nat.le_of_ble_eq_true rfl) (m_sum hS (by omega) (by omega)) ?_
              rintro _ _ ⟨rfl, rfl⟩
              refine R_lmul dX8_canMake_89 ?_
              refine R_topL (y := mea (ser d cc q) 0 (ser d cc q).length) (mea_m (by omega)) ?_
              refine R_ladd dX8_canMake_90 ?_
              refine R_ladd dX8_canMake_91 ?_
              refine R_lstore_n (L' := [(0, .ref 0), (1, .int (nI cc)), (2, .int (nI ct)), (3, .long _), (5, .int (nI (eNum d cc ct q))), (6, .int (nI q))]) dX8_canMake_92 (by decide) (qs1 rfl (qs1 rfl (qs1 rfl (qs1 rfl (qs1 rfl (qs1 rfl qs0)))))) ?_
              refine R_iincN (n := 1) (L' := [(0, .ref 0), (1, .int (nI cc)), (2, .int (nI ct)), (3, .long _), (5, .int (nI ((eNum d cc ct q) + 1))), (6, .int (nI q))]) dX8_canMake_93 rfl (by decide) (qs1 rfl (qs1 rfl (qs1 rfl (qs1 rfl (qs1 rfl (qs1 rfl qs0)))))) ?_
              refine R_iincN (n := 1) (L' := [(0, .ref 0), (1, .int (nI cc)), (2, .int (nI ct)), (3, .long _), (5, .int (nI ((eNum d cc ct q) + 1))), (6, .int (nI (q + 1)))]) dX8_canMake_96 rfl (by decide) (qs1 rfl (qs1 rfl (qs1 rfl (qs1 rfl (qs1 rfl (qs1 rfl qs0)))))) ?_
              refine R_goto (tgt := 8) dX8_canMake_99 (by decide) ?_
              refine R_ls (L' := [(0, .ref 0), (1, .int (nI cc)), (2, .int (nI ct)), (3, .long _), (5, .int (nI ((eNum d cc ct q) + 1))), (6, .int (nI (q + 1)))]) (qs1 rfl (qs1 rfl (qs1 rfl (qs1 rfl (qs1 rfl (qs1 rfl qs0)))))) ?_
              exact (by have h := ih (q + 1) _ (by omega) (by omega) hO2; have ee : eOk d cc ct q = true := (by simp [eOk, ev, hp]; omega); rw [(eS_t ee ev).1, (eS_t ee ev).2] at h; exact h)
          · have ev : dV d q ct = none := Option.not_isSome_iff_eq_none.mp ht
            refine R_if_eqN (tgt := 96) dX8_canMake_40 (by decide) (by omega) (fun h_40 => ?_) (fun h_40 => by exact absurd h_40 (by decide))
            refine R_iincN (n := 1) (L' := [(0, .ref 0), (1, .int (nI cc)), (2, .int (nI ct)), (3, .long (eSum d cc ct q)), (5, .int (nI (eNum d cc ct q))), (6, .int (nI (q + 1)))]) dX8_canMake_96 rfl (by decide) (qs1 rfl (qs1 rfl (qs1 rfl (qs1 rfl (qs1 rfl (qs1 rfl qs0)))))) ?_
            refine R_goto (tgt := 8) dX8_canMake_99 (by decide) ?_
            refine R_ls (L' := [(0, .ref 0), (1, .int (nI cc)), (2, .int (nI ct)), (3, .long (eSum d cc ct q)), (5, .int (nI (eNum d cc ct q))), (6, .int (nI (q + 1)))]) (qs1 rfl (qs1 rfl (qs1 rfl (qs1 rfl (qs1 rfl (qs1 rfl qs0)))))) ?_
            exact (by have h := ih (q + 1) _ (by omega) (by omega) hO; have ee : eOk d cc ct q = false := (by simp [eOk, ev]); rw [(eS_f ee).1, (eS_f ee).2] at h; exact h)
        · refine R_if_eqN (tgt := 96) dX8_canMake_30 (by decide) (by omega) (fun h_30 => ?_) (fun h_30 => by exact absurd h_30 (by decide))
          refine R_iincN (n := 1) (L' := [(0, .ref 0), (1, .int (nI cc)), (2, .int (nI ct)), (3, .long (eSum d cc ct q)), (5, .int (nI (eNum d cc ct q))), (6, .int (nI (q + 1)))]) dX8_canMake_96 rfl (by decide) (qs1 rfl (qs1 rfl (qs1 rfl (qs1 rfl (qs1 rfl (qs1 rfl qs0)))))) ?_
          refine R_goto (tgt := 8) dX8_canMake_99 (by decide) ?_
          refine R_ls (L' := [(0, .ref 0), (1, .int (nI cc)), (2, .int (nI ct)), (3, .long (eSum d cc ct q)), (5, .int (nI (eNum d cc ct q))), (6, .int (nI (q + 1)))]) (qs1 rfl (qs1 rfl (qs1 rfl (qs1 rfl (qs1 rfl (qs1 rfl qs0)))))) ?_
          exact (by have h := ih (q + 1) _ (by omega) (by omega) hO; have ee : eOk d cc ct q = false := (by simp [eOk, hp]); rw [(eS_f ee).1, (eS_f ee).2] at h; exact h)
set_option maxRecDepth 100000 in
set_option maxHeartbeats 4000000 in
theorem m_cm {M : qMem} {d : dT} (hX0 : MR M d) (hB : dB d) (hK2 : 2 ≤ dK d) (hY4 : 4 ≤ dY d) {cc ct : Nat} (hcc : cc < dK d) (hct : ct < dY d) : qSem 1 mX8_canMake [.ref 0, .int (nI cc), .int (nI ct)] M (fun v N => cOff sMk M N ∧ ((eNum d cc ct (dK d) = 0 ∧ v = some (.int (nI 0))) ∨ (¬ eNum d cc ct (dK d) = 0 ∧ v = some (.int (nI 1)) ∧ N.1 0 30 = eRes d cc ct))) := by
  have hK6 := hB.2.1
  have hY16 := hB.1
  refine qSem.of (by decide +kernel) (Nat.le_of_ble_eq_true rfl) (fun w => ?_)
  refine R_ls (L' := [(0, .ref 0), (1, .int (nI cc)), (2, .int (nI ct))]) (qs1 rfl (qs1 rfl (qs1 rfl qs0))) ?_
  refine R_lconst (v := 0) dX8_canMake_0 rfl ?_
  refine R_lstore_n (L' := [(0, .ref 0), (1, .int (nI cc)), (2, .int (nI ct)), (3, .long (0))]) dX8_canMake_1 (by decide) (qs1 rfl (qs1 rfl (qs1 rfl (qs1 rfl qs0)))) ?_
  refine R_iconst (v := nI 0) dX8_canMake_2 rfl ?_
  refine R_istore (L' := [(0, .ref 0), (1, .int (nI cc)), (2, .int (nI ct)), (3, .long (0)), (5, .int (nI 0))]) dX8_canMake_3 (by decide) (qs1 rfl (qs1 rfl (qs1 rfl (qs1 rfl (qs1 rfl qs0))))) ?_
  refine R_iconst (v := nI 0) dX8_canMake_5 rfl ?_
  refine R_istore (L' := [(0, .ref 0), (1, .int (nI cc)), (2, .int (nI ct)), (3, .long (0)), (5, .int (nI 0)), (6, .int (nI 0))]) dX8_canMake_6 (by decide) (qs1 rfl (qs1 rfl (qs1 rfl (qs1 rfl (qs1 rfl (qs1 rfl qs0)))))) ?_
  refine R_ls (L' := [(0, .ref 0), (1, .int (nI cc)), (2, .int (nI ct)), (3, .long (0)), (5, .int (nI 0)), (6, .int (nI 0))]) (qs1 rfl (qs1 rfl (qs1 rfl (qs1 rfl (qs1 rfl (qs1 rfl qs0)))))) ?_
  exact (m_cmL hX0 hB hK2 hY4 hcc hct (dK d + 2) 0 M (by omega) (Nat.zero_le _) cOff.rf)
set_option maxRecDepth 100000 in
set_option maxHeartbeats 4000000 in
theorem p_made {M : qMem} {s : sT} (hI : MI M s) (hs : sOk s) {c t : Int32} : qSem 1 mX8_made [.ref 0, .int (c), .int (t)] M (fun r N => r = some (.int (aEst (sD s) c t)) ∧ MI N s) := by
  have hX := hI.1
  have hB := hs.1
  have hK6 := hB.2.1
  have hY16 := hB.1
  have hY4 := hs.2.1.1
  have hK2 := hs.2.1.2
  refine qSem.of (by decide +kernel) (Nat.le_of_ble_eq_true rfl) (fun w => ?_)
  refine R_ls (L' := [(0, .ref 0), (1, .int (c)), (2, .int (t))]) (qs1 rfl (qs1 rfl (qs1 rfl qs0))) ?_
  refine R_aload_n dX8_made_0 rfl ?_
  refine R_iload_n dX8_made_1 rfl ?_
  refine R_callV (mc := mX8_isStation) (As := [_]) (r := 0) dX8_made_2 lm_RX8_161 mv_X8_isStation rfl (by decide) rfl rfl rfl rfl (Nat.le_of_ble_eq_true rfl) (m_isSta hX (by omega) (by omega)) ?_
  rintro _ _ ⟨rfl, ⟨rfl, hkc⟩ | ⟨rfl, hkc⟩⟩
  · have hkc2 : inN c (dK (sD s)) := hkc
    obtain ⟨cc, hcc, rfl⟩ := inN_o (by omega) hkc2
    refine R_if_eqN (tgt := 16) dX8_made_5 (by decide) (by omega) (fun h_5 => by exact absurd h_5 (by decide)) (fun h_5 => ?_)
    refine R_aload_n dX8_made_8 rfl ?_
    refine R_iload_n dX8_made_9 rfl ?_
    refine R_callV (mc := mX8_isYear) (As := [_]) (r := 0) dX8_made_10 lm_RX8_171 mv_X8_isYear rfl (by decide) rfl rfl rfl rfl (Nat.le_of_ble_eq_true rfl) (m_isYea hX (by omega) (by omega)) ?_
    rintro _ _ ⟨rfl, ⟨rfl, hkt⟩ | ⟨rfl, hkt⟩⟩
    · have hkt2 : inN t (dY (sD s)) := hkt
      obtain ⟨ct, hct, rfl⟩ := inN_o (by omega) hkt2
      refine R_if_neN (tgt := 18) dX8_made_13 (by decide) (by omega) (fun h_13 => ?_) (fun h_13 => by exact absurd h_13 (by decide))
      refine R_aload_n dX8_made_18 rfl ?_
      refine R_iload_n dX8_made_19 rfl ?_
      refine R_iload_n dX8_made_20 rfl ?_
      refine R_callV (mc := mX8_isThere) (As := [_, _]) (r := 0) dX8_made_21 lm_RX8_184 mv_X8_isThere rfl (by decide) rfl rfl rfl rfl (Nat.le_of_ble_eq_true rfl) (m_isT hX hB hcc hct) ?_
      rintro _ _ ⟨rfl, ⟨rfl, hp⟩ | ⟨rfl, hp⟩⟩
      · have hnn : ¬ dV (sD s) cc ct = none := fun z => by rw [z] at hp; cases hp
        refine R_if_eqN (tgt := 32) dX8_made_24 (by decide) (by omega) (fun h_24 => by exact absurd h_24 (by decide)) (fun h_24 => ?_)
        refine R_bipush (v := -2) dX8_made_27 rfl ?_
        refine R_goto (tgt := 53) dX8_made_29 (by decide) ?_
        refine R_ireturn dX8_made_53 rfl rfl ?_
        exact ⟨by unfold aEst; rw [if_pos ⟨hkc2, hkt2⟩, kn_n (by omega), kn_n (by omega), if_pos (Option.isSome_iff_ne_none.mpr hnn)], hI⟩
      · have hnn : dV (sD s) cc ct = none := Option.not_isSome_iff_eq_none.mp hp
        refine R_if_eqN (tgt := 32) dX8_made_24 (by decide) (by omega) (fun h_24 => ?_) (fun h_24 => by exact absurd h_24 (by decide))
        refine R_aload_n dX8_made_32 rfl ?_
        refine R_iload_n dX8_made_33 rfl ?_
        refine R_iload_n dX8_made_34 rfl ?_
        refine R_callV (mc := mX8_canMake) (As := [_, _]) (r := 0) dX8_made_35 lm_RX8_291 mv_X8_canMake rfl (by decide) rfl rfl rfl rfl (Nat.le_of_ble_eq_true rfl) (m_cm hX hB hK2 hY4 hcc hct) ?_
        rintro _ _ ⟨hO, (⟨hn0, rfl⟩ | ⟨hn0, rfl, h30⟩)⟩
        · refine R_if_eqN (tgt := 51) dX8_made_38 (by decide) (by omega) (fun h_38 => ?_) (fun h_38 => by exact absurd h_38 (by decide))
          refine R_bipush (v := -4) dX8_made_51 rfl ?_
          refine R_ireturn dX8_made_53 rfl rfl ?_
          exact ⟨by unfold aEst; rw [if_pos ⟨hkc2, hkt2⟩, kn_n (by omega), kn_n (by omega), if_neg (by rw [hnn]; decide), if_pos hn0], hI.mk hO⟩
        · refine R_if_eqN (tgt := 51) dX8_made_38 (by decide) (by omega) (fun h_38 => by exact absurd h_38 (by decide)) (fun h_38 => ?_)
          refine R_aload_n dX8_made_41 rfl ?_
          refine R_getI dX8_made_42 (lf_RX8_288).get (by decide) rfl rfl ?_
          refine R_top (y := eRes (sD s) cc ct) h30 ?_
          refine R_ldc (v := nI 100000) dX8_made_45 lc_RX8_167 ?_
          refine R_iadd dX8_made_47 ?_
          refine R_goto (tgt := 53) dX8_made_48 (by decide) ?_
          refine R_ireturn dX8_made_53 rfl rfl ?_
          exact ⟨by unfold aEst; rw [if_pos ⟨hkc2, hkt2⟩, kn_n (by omega), kn_n (by omega), if_neg (by rw [hnn]; decide), if_neg hn0], hI.mk hO⟩
    · refine R_if_neN (tgt := 18) dX8_made_13 (by decide) (by omega) (fun h_13 => by exact absurd h_13 (by decide)) (fun h_13 => ?_)
      refine R_iconst (v := -1) dX8_made_16 rfl ?_
      refine R_ireturn dX8_made_17 rfl rfl ?_
      exact ⟨by unfold aEst; rw [if_neg (fun h => by first | exact hkt h.2 | exact hkc h.1)], hI⟩
  · refine R_if_eqN (tgt := 16) dX8_made_5 (by decide) (by omega) (fun h_5 => ?_) (fun h_5 => by exact absurd h_5 (by decide))
    refine R_iconst (v := -1) dX8_made_16 rfl ?_
    refine R_ireturn dX8_made_17 rfl rfl ?_
    exact ⟨by unfold aEst; rw [if_neg (fun h => by first | exact hkt h.2 | exact hkc h.1)], hI⟩
