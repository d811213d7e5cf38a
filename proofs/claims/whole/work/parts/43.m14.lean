
theorem bSh_m {d : dT} {a b k : Nat} (h1 : stN (ser d a b) (dR d 0) (dR d 4) k < stN (ser d a b) (dR d 0) (dR d 4) (k + 1)) (h2 : stN (ser d a b) (dR d 0) (dR d 4) (k + 1) < stN (ser d a b) (dR d 0) (dR d 4) (k + 2)) {x y : Nat} (hx : x + 1 = stN (ser d a b) (dR d 0) (dR d 4) (k + 2)) (hy : y + 1 = stN (ser d a b) (dR d 0) (dR d 4) (k + 1)) :
    (nI (720720 / (stN (ser d a b) (dR d 0) (dR d 4) (k + 2) - stN (ser d a b) (dR d 0) (dR d 4) (k + 1)))).toInt64 * (S1 (ser d a b) (x + 1) - S1 (ser d a b) (stN (ser d a b) (dR d 0) (dR d 4) (k + 1))) - (nI (720720 / (stN (ser d a b) (dR d 0) (dR d 4) (k + 1) - stN (ser d a b) (dR d 0) (dR d 4) k))).toInt64 * (S1 (ser d a b) (y + 1) - S1 (ser d a b) (stN (ser d a b) (dR d 0) (dR d 4) k)) = bSh d a b k := by
  unfold bSh shN mea
  rw [if_neg (by omega), if_neg (by omega), hx, hy, Int64.mul_comm, Int64.mul_comm (nI (720720 / (stN (ser d a b) (dR d 0) (dR d 4) (k + 1) - stN (ser d a b) (dR d 0) (dR d 4) k))).toInt64]
  rfl
set_option maxRecDepth 100000 in
set_option maxHeartbeats 4000000 in
theorem m_rsL {w : qWT} {M : qMem} {d : dT} (hB : dB d) {a b c q t : Nat} (hF : FB M (ser d a b) (dR d 0) (dR d 4)) (hcq : c < 6 ∧ q < 6) (ht : t < 16) : ∀ (fu : Nat) (k : Nat), (bN d a b + 1 - k) < fu → (k ≤ bN d a b) → qRW 1 w mX8_rises 30 [(0, .ref 0), (1, .int (nI c)), (2, .int (nI q)), (3, .int (nI t)), (4, .long (shT d a b t k)), (6, .int (nI k))] [] M (ql (if c < q then shf d a b t else - shf d a b t) M) := by
  intro fu
  induction fu with
  | zero => intro k hn; exact absurd hn (Nat.not_lt_zero _)
  | succ fu ih =>
    intro k hn hk
    obtain ⟨hS, hA, h20, h13⟩ := hF
    have hl16 := hS.2.1
    have hb15 := bN_le d a b
    refine R_iload dX8_rises_30 rfl ?_
    refine R_aload_n dX8_rises_32 rfl ?_
    refine R_getI dX8_rises_33 (lf_RX8_240).get (by decide) rfl rfl ?_
    refine R_top (y := nI (bN d a b)) h20 ?_
    refine R_icmp_geN (tgt := 157) dX8_rises_36 (by decide) (by omega) (by omega) (fun h_36 => ?_) (fun h_36 => ?_)
    · refine R_iload_n dX8_rises_157 rfl ?_
      refine R_iload_n dX8_rises_158 rfl ?_
      refine R_icmp_geN (tgt := 167) dX8_rises_159 (by decide) (by omega) (by omega) (fun h_159 => ?_) (fun h_159 => ?_)
      · refine R_lload dX8_rises_167 rfl ?_
        refine R_lneg dX8_rises_169 ?_
        refine R_lreturn dX8_rises_170 rfl ?_
        have e : k = bN d a b := by omega
        subst e
        exact ⟨by rw [if_neg (by omega)]; rfl, rfl⟩
      · refine R_lload dX8_rises_162 rfl ?_
        refine R_goto (tgt := 170) dX8_rises_164 (by decide) ?_
        refine R_lreturn dX8_rises_170 rfl ?_
        have e : k = bN d a b := by omega
        subst e
        exact ⟨by rw [if_pos (by omega)]; rfl, rfl⟩
    · have hby := bY_lt hB h_36
      have hY16 := hB.1
      have k1 := stN_lt (l := ser d a b) (R := dR d 0) (p := dR d 4) (m := k) hB.2.2.2.1.1 hl16 h_36
      have k2 := stN_pos (l := ser d a b) (R := dR d 0) (p := dR d 4) (m := k) hB.2.2.2.1.1 hl16 h_36
      have k3 : stN (ser d a b) (dR d 0) (dR d 4) (k + 1) < stN (ser d a b) (dR d 0) (dR d 4) (k + 2) := (by rcases Nat.lt_or_ge (k + 1) (bN d a b) with z | z; exact stN_lt (l := ser d a b) (R := dR d 0) (p := dR d 4) (m := k + 1) hB.2.2.2.1.1 hl16 z; rw [show stN (ser d a b) (dR d 0) (dR d 4) (k + 2) = (ser d a b).length from stp_end (by have h9 : bkN (ser d a b) (dR d 0) (dR d 4) ≤ k + 1 := z; omega)]; exact k2)
      have k4 := stN_le' (l := ser d a b) (R := dR d 0) (p := dR d 4) (m := k + 2) hB.2.2.2.1.1 hl16 (by have h9 : k < bkN (ser d a b) (dR d 0) (dR d 4) := h_36; omega)
      refine R_iload dX8_rises_39 rfl ?_
      refine R_if_neN (tgt := 48) dX8_rises_41 (by decide) (by omega) (fun h_41 => ?_) (fun h_41 => ?_)
      · refine R_aload_n dX8_rises_48 rfl ?_
        refine R_getR dX8_rises_49 lg_RX8_47 (by decide) rfl rfl ?_
        refine R_iload dX8_rises_52 rfl ?_
        refine R_iconst (v := nI 1) dX8_rises_54 rfl ?_
        refine R_isubN dX8_rises_55 (by omega) ?_
        refine R_ialdN dX8_rises_56 (by decide) rfl (by omega) (by decide) ?_
        refine R_top (y := nI (stN (ser d a b) (dR d 0) (dR d 4) k)) (by have h := h13 (k - 1) (by have h9 : k < bkN (ser d a b) (dR d 0) (dR d 4) := h_36; omega); rw [show k - 1 + 1 = k by omega] at h; exact h) ?_
        refine R_istore (L' := [(0, .ref 0), (1, .int (nI c)), (2, .int (nI q)), (3, .int (nI t)), (4, .long (shT d a b t k)), (6, .int (nI k)), (7, .int (nI (stN (ser d a b) (dR d 0) (dR d 4) k)))]) dX8_rises_57 (by decide) (qs1 rfl (qs1 rfl (qs1 rfl (qs1 rfl (qs1 rfl (qs1 rfl (qs1 rfl qs0))))))) ?_
        refine R_aload_n dX8_rises_59 rfl ?_
        refine R_getR dX8_rises_60 lg_RX8_47 (by decide) rfl rfl ?_
        refine R_iload dX8_rises_63 rfl ?_
        refine R_ialdN dX8_rises_65 (by decide) rfl (by omega) (by decide) ?_
        refine R_top (y := nI (stN (ser d a b) (dR d 0) (dR d 4) (k + 1))) (h13 k h_36) ?_
        refine R_istore (L' := [(0, .ref 0), (1, .int (nI c)), (2, .int (nI q)), (3, .int (nI t)), (4, .long (shT d a b t k)), (6, .int (nI k)), (7, .int (nI (stN (ser d a b) (dR d 0) (dR d 4) k))), (8, .int (nI (stN (ser d a b) (dR d 0) (dR d 4) (k + 1))))]) dX8_rises_66 (by decide) (qs1 rfl (qs1 rfl (qs1 rfl (qs1 rfl (qs1 rfl (qs1 rfl (qs1 rfl (qs1 rfl qs0)))))))) ?_
        refine R_iload dX8_rises_68 rfl ?_
        refine R_iconst (v := nI 1) dX8_rises_70 rfl ?_
        refine R_iaddN dX8_rises_71 ?_
        refine R_aload_n dX8_rises_72 rfl ?_
        refine R_getI dX8_rises_73 (lf_RX8_240).get (by decide) rfl rfl ?_
        refine R_top (y := nI (bN d a b)) h20 ?_
        refine R_icmp_geN (tgt := 91) dX8_rises_76 (by decide) (by omega) (by omega) (fun h_76 => ?_) (fun h_76 => ?_)
        · refine R_aload_n dX8_rises_91 rfl ?_
          refine R_getI dX8_rises_92 (lf_RX8_216).get (by decide) rfl rfl ?_
          refine R_top (y := nI ((ser d a b).length)) hS.1 ?_
          have ebn : bN d a b = k + 1 := by omega
          refine R_top (y := nI (stN (ser d a b) (dR d 0) (dR d 4) (k + 2))) (by rw [show stN (ser d a b) (dR d 0) (dR d 4) (k + 2) = (ser d a b).length from stp_end (by have h9 : bkN (ser d a b) (dR d 0) (dR d 4) = k + 1 := ebn; omega)]) ?_
          refine R_istore (L' := [(0, .ref 0), (1, .int (nI c)), (2, .int (nI q)), (3, .int (nI t)), (4, .long (shT d a b t k)), (6, .int (nI k)), (7, .int (nI (stN (ser d a b) (dR d 0) (dR d 4) k))), (8, .int (nI (stN (ser d a b) (dR d 0) (dR d 4) (k + 1)))), (9, .int (nI (stN (ser d a b) (dR d 0) (dR d 4) (k + 2))))]) dX8_rises_95 (by decide) (qs1 rfl (qs1 rfl (qs1 rfl (qs1 rfl (qs1 rfl (qs1 rfl (qs1 rfl (qs1 rfl (qs1 rfl qs0))))))))) ?_
          refine R_aload_n dX8_rises_97 rfl ?_
          refine R_getR dX8_rises_98 lg_RX8_41 (by decide) rfl rfl ?_
          refine R_iload dX8_rises_101 rfl ?_
          refine R_ialdN dX8_rises_103 (by decide) rfl (by omega) (by decide) ?_
          refine R_top (y := nI (bY d a b k)) (hS.2.2 _ k2).2 ?_
          refine R_iload_n dX8_rises_104 rfl ?_
          refine R_icmp_neN (tgt := 151) dX8_rises_105 (by decide) (by omega) (by omega) (fun h_105 => ?_) (fun h_105 => ?_)
          · refine R_iincN (n := 1) (L' := [(0, .ref 0), (1, .int (nI c)), (2, .int (nI q)), (3, .int (nI t)), (4, .long (shT d a b t k)), (6, .int (nI (k + 1))), (7, .int (nI (stN (ser d a b) (dR d 0) (dR d 4) k))), (8, .int (nI (stN (ser d a b) (dR d 0) (dR d 4) (k + 1)))), (9, .int (nI (stN (ser d a b) (dR d 0) (dR d 4) (k + 2))))]) dX8_rises_151 rfl (by decide) (qs1 rfl (qs1 rfl (qs1 rfl (qs1 rfl (qs1 rfl (qs1 rfl (qs1 rfl (qs1 rfl (qs1 rfl qs0))))))))) ?_
            refine R_goto (tgt := 30) dX8_rises_154 (by decide) ?_
            refine R_ls (L' := [(0, .ref 0), (1, .int (nI c)), (2, .int (nI q)), (3, .int (nI t)), (4, .long (shT d a b t k)), (6, .int (nI (k + 1)))]) (qs1 rfl (qs1 rfl (qs1 rfl (qs1 rfl (qs1 rfl (qs1 rfl qs0)))))) ?_
            exact (by have h := ih (k + 1) (by omega) (by omega); rw [show shT d a b t (k + 1) = (if bY d a b k = t then bSh d a b k else shT d a b t k) from rfl, if_neg (by omega)] at h; exact h)
          · refine R_ldc (v := nI 720720) dX8_rises_108 lc_RX8_225 ?_
            refine R_iload dX8_rises_110 rfl ?_
            refine R_iload dX8_rises_112 rfl ?_
            refine R_isubN dX8_rises_114 (by omega) ?_
            refine R_idivN dX8_rises_115 (by omega) (by omega) (by omega) ?_
            refine R_i2l dX8_rises_116 ?_
            refine R_aload_n dX8_rises_117 rfl ?_
            refine R_iload dX8_rises_118 rfl ?_
            refine R_iload dX8_rises_120 rfl ?_
            refine R_iconst (v := nI 1) dX8_rises_122 rfl ?_
            refine R_isubN dX8_rises_123 (by omega) ?_
            refine R_callV (mc := mX8_sumOf) (As := [_, _]) (r := 0) dX8_rises_124 lm_RX8_219 mv_X8_sumOf rfl (by decide) rfl rfl rfl rfl (Nat.le_of_ble_eq_true rfl) (m_sum hS (by omega) (by omega)) ?_
            rintro _ _ ⟨rfl, rfl⟩
            refine R_lmul dX8_rises_127 ?_
            refine R_ldc (v := nI 720720) dX8_rises_128 lc_RX8_225 ?_
            refine R_iload dX8_rises_130 rfl ?_
            refine R_iload dX8_rises_132 rfl ?_
            refine R_isubN dX8_rises_134 (by omega) ?_
            refine R_idivN dX8_rises_135 (by omega) (by omega) (by omega) ?_
            refine R_i2l dX8_rises_136 ?_
            refine R_aload_n dX8_rises_137 rfl ?_
            refine R_iload dX8_rises_138 rfl ?_
            refine R_iload dX8_rises_140 rfl ?_
            refine R_iconst (v := nI 1) dX8_rises_142 rfl ?_
            refine R_isubN dX8_rises_143 (by omega) ?_
            refine R_callV (mc := mX8_sumOf) (As := [_, _]) (r := 0) dX8_rises_144 lm_RX8_219 mv_X8_sumOf rfl (by decide) rfl rfl rfl rfl (Nat.le_of_ble_eq_true rfl) (m_sum hS (by omega) (by omega)) ?_
            rintro _ _ ⟨rfl, rfl⟩
            refine R_lmul dX8_rises_147 ?_
            refine R_lsub dX8_rises_148 ?_
            refine R_topL (y := bSh d a b k) (bSh_m k1 k3 (by omega) (by omega)) ?_
            refine R_lstore (L' := [(0, .ref 0), (1, .int (nI c)), (2, .int (nI q)), (3, .int (nI t)), (4, .long (bSh d a b k)), (6, .int (nI k)), (7, .int (nI (stN (ser d a b) (dR d 0) (dR d 4) k))), (8, .int (nI (stN (ser d a b) (dR d 0) (dR d 4) (k + 1)))), (9, .int (nI (stN (ser d a b) (dR d 0) (dR d 4) (k + 2))))]) dX8_rises_149 (by decide) (qs1 rfl (qs1 rfl (qs1 rfl (qs1 rfl (qs1 rfl (qs1 rfl (qs1 rfl (qs1 rfl (qs1 rfl qs0))))))))) ?_
            refine R_iincN (n := 1) (L' := [(0, .ref 0), (1, .int (nI c)), (2, .int (nI q)), (3, .int (nI t)), (4, .long (bSh d a b k)), (6, .int (nI (k + 1))), (7, .int (nI (stN (ser d a b) (dR d 0) (dR d 4) k))), (8, .int (nI (stN (ser d a b) (dR d 0) (dR d 4) (k + 1)))), (9, .int (nI (stN (ser d a b) (dR d 0) (dR d 4) (k + 2))))]) dX8_rises_151 rfl (by decide) (qs1 rfl (qs1 rfl (qs1 rfl (qs1 rfl (qs1 rfl (qs1 rfl (qs1 rfl (qs1 rfl (qs1 rfl qs0))))))))) ?_
            refine R_goto (tgt := 30) dX8_rises_154 (by decide) ?_
            refine R_ls (L' := [(0, .ref 0), (1, .int (nI c)), (2, .int (nI q)), (3, .int (nI t)), (4, .long (bSh d a b k)), (6, .int (nI (k + 1)))]) (qs1 rfl (qs1 rfl (qs1 rfl (qs1 rfl (qs1 rfl (qs1 rfl qs0)))))) ?_
            exact (by have h := ih (k + 1) (by omega) (by omega); rw [show shT d a b t (k + 1) = (if bY d a b k = t then bSh d a b k else shT d a b t k) from rfl, if_pos (by omega)] at h; exact h)
        · refine R_aload_n dX8_rises_79 rfl ?_
          refine R_getR dX8_rises_80 lg_RX8_47 (by decide) rfl rfl ?_
          refine R_iload dX8_rises_83 rfl ?_
          refine R_iconst (v := nI 1) dX8_rises_85 rfl ?_
          refine R_iaddN dX8_rises_86 ?_
          refine R_ialdN dX8_rises_87 (by decide) rfl (by omega) (by decide) ?_
          refine R_top (y := nI (stN (ser d a b) (dR d 0) (dR d 4) (k + 2))) (h13 (k + 1) (by have h9 : k + 1 < bN d a b := (by omega); exact h9)) ?_
          refine R_goto (tgt := 95) dX8_rises_88 (by decide) ?_
          refine R_istore (L' := [(0, .ref 0), (1, .int (nI c)), (2, .int (nI q)), (3, .int (nI t)), (4, .long (shT d a b t k)), (6, .int (nI k)), (7, .int (nI (stN (ser d a b) (dR d 0) (dR d 4) k))), (8, .int (nI (stN (ser d a b) (dR d 0) (dR d 4) (k + 1)))), (9, .int (nI (stN (ser d a b) (dR d 0) (dR d 4) (k + 2))))]) dX8_rises_95 (by decide) (qs1 rfl (qs1 rfl (qs1 rfl (qs1 rfl (qs1 rfl (qs1 rfl (qs1 rfl (qs1 rfl (qs1 rfl qs0))))))))) ?_
          refine R_aload_n dX8_rises_97 rfl ?_
          refine R_getR dX8_rises_98 lg_RX8_41 (by decide) rfl rfl ?_
          refine R_iload dX8_rises_101 rfl ?_
          refine R_ialdN dX8_rises_103 (by decide) rfl (by omega) (by decide) ?_
          refine R_top (y := nI (bY d a b k)) (hS.2.2 _ k2).2 ?_
          refine R_iload_n dX8_rises_104 rfl ?_
          refine R_icmp_neN (tgt := 151) dX8_rises_105 (by decide) (by omega) (by omega) (fun h_105 => ?_) (fun h_105 => ?_)
          · refine R_iincN (n := 1) (L' := [(0, .ref 0), (1, .int (nI c)), (2, .int (nI q)), (3, .int (nI t)), (4, .long (shT d a b t k)), (6, .int (nI (k + 1))), (7, .int (nI (stN (ser d a b) (dR d 0) (dR d 4) k))), (8, .int (nI (stN (ser d a b) (dR d 0) (dR d 4) (k + 1)))), (9, .int (nI (stN (ser d a b) (dR d 0) (dR d 4) (k + 2))))]) dX8_rises_151 rfl (by decide) (qs1 rfl (qs1 rfl (qs1 rfl (qs1 rfl (qs1 rfl (qs1 rfl (qs1 rfl (qs1 rfl (qs1 rfl qs0))))))))) ?_
            refine R_goto (tgt := 30) dX8_rises_154 (by decide) ?_
            refine R_ls (L' := [(0, .ref 0), (1, .int (nI c)), (2, .int (nI q)), (3, .int (nI t)), (4, .long (shT d a b t k)), (6, .int (nI (k + 1)))]) (qs1 rfl (qs1 rfl (qs1 rfl (qs1 rfl (qs1 rfl (qs1 rfl qs0)))))) ?_
            exact (by have h := ih (k + 1) (by omega) (by omega); rw [show shT d a b t (k + 1) = (if bY d a b k = t then bSh d a b k else shT d a b t k) from rfl, if_neg (by omega)] at h; exact h)
          · refine R_ldc (v := nI 720720) dX8_rises_108 lc_RX8_225 ?_
            refine R_iload dX8_rises_110 rfl ?_
            refine R_iload dX8_rises_112 rfl ?_
            refine R_isubN dX8_rises_114 (by omega) ?_
            refine R_idivN dX8_rises_115 (by omega) (by omega) (by omega) ?_
            refine R_i2l dX8_rises_116 ?_
            refine R_aload_n dX8_rises_117 rfl ?_
            refine R_iload dX8_rises_118 rfl ?_
            refine R_iload dX8_rises_120 rfl ?_
            refine R_iconst (v := nI 1) dX8_rises_122 rfl ?_
            refine R_isubN dX8_rises_123 (by omega) ?_
            refine R_callV (mc := mX8_sumOf) (As := [_, _]) (r := 0) dX8_rises_124 lm_RX8_219 mv_X8_sumOf rfl (by decide) rfl rfl rfl rfl (Nat.le_of_ble_eq_true rfl) (m_sum hS (by omega) (by omega)) ?_
            rintro _ _ ⟨rfl, rfl⟩
            refine R_lmul dX8_rises_127 ?_
            refine R_ldc (v := nI 720720) dX8_rises_128 lc_RX8_225 ?_
            refine R_iload dX8_rises_130 rfl ?_
            refine R_iload dX8_rises_132 rfl ?_
            refine R_isubN dX8_rises_134 (by omega) ?_
            refine R_idivN dX8_rises_135 (by omega) (by omega) (by omega) ?_
            refine R_i2l dX8_rises_136 ?_
            refine R_aload_n dX8_rises_137 rfl ?_
            refine R_iload dX8_rises_138 rfl ?_
            refine R_iload dX8_rises_140 rfl ?_
            refine R_iconst (v := nI 1) dX8_rises_142 rfl ?_
            refine R_isubN dX8_rises_143 (by omega) ?_
            refine R_callV (mc := mX8_sumOf) (As := [_, _]) (r := 0) dX8_rises_144 lm_RX8_219 mv_X8_sumOf rfl (by decide) rfl rfl rfl rfl (Nat.le_of_ble_eq_true rfl) (m_sum hS (by omega) (by omega)) ?_
            rintro _ _ ⟨rfl, rfl⟩
            refine R_lmul dX8_rises_147 ?_
            refine R_lsub dX8_rises_148 ?_
            refine R_topL (y := bSh d a b k) (bSh_m k1 k3 (by omega) (by omega)) ?_
            refine R_lstore (L' := [(0, .ref 0), (1, .int (nI c)), (2, .int (nI q)), (3, .int (nI t)), (4, .long (bSh d a b k)), (6, .int (nI k)), (7, .int (nI (stN (ser d a b) (dR d 0) (dR d 4) k))), (8, .int (nI (stN (ser d a b) (dR d 0) (dR d 4) (k + 1)))), (9, .int (nI (stN (ser d a b) (dR d 0) (dR d 4) (k + 2))))]) dX8_rises_149 (by decide) (qs1 rfl (qs1 rfl (qs1 rfl (qs1 rfl (qs1 rfl (qs1 rfl (qs1 rfl (qs1 rfl (qs1 rfl qs0))))))))) ?_
            refine R_iincN (n := 1) (L' := [(0, .ref 0), (1, .int (nI c)), (2, .int (nI q)), (3, .int (nI t)), (4, .long (bSh d a b k)), (6, .int (nI (k + 1))), (7, .int (nI (stN (ser d a b) (dR d 0) (dR d 4) k))), (8, .int (nI (stN (ser d a b) (dR d 0) (dR d 4) (k + 1)))), (9, .int (nI (stN (ser d a b) (dR d 0) (dR d 4) (k + 2))))]) dX8_rises_151 rfl (by decide) (qs1 rfl (qs1 rfl (qs1 rfl (qs1 rfl (qs1 rfl (qs1 rfl (qs1 rfl (qs1 rfl (qs1 rfl qs0))))))))) ?_
            refine R_goto (tgt := 30) dX8_rises_154 (by decide) ?_
            refine R_ls (L' := [(0, .ref 0), (1, .int (nI c)), (2, .int (nI q)), (3, .int (nI t)), (4, .long (bSh d a b k)), (6, .int (nI (k + 1)))]) (qs1 rfl (qs1 rfl (qs1 rfl (qs1 rfl (qs1 rfl (qs1 rfl qs0)))))) ?_
            exact (by have h := ih (k + 1) (by omega) (by omega); rw [show shT d a b t (k + 1) = (if bY d a b k = t then bSh d a b k else shT d a b t k) from rfl, if_pos (by omega)] at h; exact h)
      · refine R_iconst (v := nI 0) dX8_rises_44 rfl ?_
        refine R_goto (tgt := 57) dX8_rises_45 (by decide) ?_
        have ek0 : k = 0 := by omega
        refine R_top (y := nI (stN (ser d a b) (dR d 0) (dR d 4) k)) (by rw [ek0]; rfl) ?_
        refine R_istore (L' := [(0, .ref 0), (1, .int (nI c)), (2, .int (nI q)), (3, .int (nI t)), (4, .long (shT d a b t k)), (6, .int (nI k)), (7, .int (nI (stN (ser d a b) (dR d 0) (dR d 4) k)))]) dX8_rises_57 (by decide) (qs1 rfl (qs1 rfl (qs1 rfl (qs1 rfl (qs1 rfl (qs1 rfl (qs1 rfl qs0))))))) ?_
        refine R_aload_n dX8_rises_59 rfl ?_
        refine R_getR dX8_rises_60 lg_RX8_47 (by decide) rfl rfl ?_
        refine R_iload dX8_rises_63 rfl ?_
        refine R_ialdN dX8_rises_65 (by decide) rfl (by omega) (by decide) ?_
        refine R_top (y := nI (stN (ser d a b) (dR d 0) (dR d 4) (k + 1))) (h13 k h_36) ?_
        refine R_istore (L' := [(0, .ref 0), (1, .int (nI c)), (2, .int (nI q)), (3, .int (nI t)), (4, .long (shT d a b t k)), (6, .int (nI k)), (7, .int (nI (stN (ser d a b) (dR d 0) (dR d 4) k))), (8, .int (nI (stN (ser d a b) (dR d 0) (dR d 4) (k + 1))))]) dX8_rises_66 (by decide) (qs1 rfl (qs1 rfl (qs1 rfl (qs1 rfl (qs1 rfl (qs1 rfl (qs1 rfl (qs1 rfl qs0)))))))) ?_
        refine R_iload dX8_rises_68 rfl ?_
        refine R_iconst (v := nI 1) dX8_rises_70 rfl ?_
        refine R_iaddN dX8_rises_71 ?_
        refine R_aload_n dX8_rises_72 rfl ?_
        refine R_getI dX8_rises_73 (lf_RX8_240).get (by decide) rfl rfl ?_
        refine R_top (y := nI (bN d a b)) h20 ?_
        refine R_icmp_geN (tgt := 91) dX8_rises_76 (by decide) (by omega) (by omega) (fun h_76 => ?_) (fun h_76 => ?_)
        · refine R_aload_n dX8_rises_91 rfl ?_
          refine R_getI dX8_rises_92 (lf_RX8_216).get (by decide) rfl rfl ?_
          refine R_top (y := nI ((ser d a b).length)) hS.1 ?_
          have ebn : bN d a b = k + 1 := by omega
          refine R_top (y := nI (stN (ser d a b) (dR d 0) (dR d 4) (k + 2))) (by rw [show stN (ser d a b) (dR d 0) (dR d 4) (k + 2) = (ser d a b).length from stp_end (by have h9 : bkN (ser d a b) (dR d 0) (dR d 4) = k + 1 := ebn; omega)]) ?_
          refine R_istore (L' := [(0, .ref 0), (1, .int (nI c)), (2, .int (nI q)), (3, .int (nI t)), (4, .long (shT d a b t k)), (6, .int (nI k)), (7, .int (nI (stN (ser d a b) (dR d 0) (dR d 4) k))), (8, .int (nI (stN (ser d a b) (dR d 0) (dR d 4) (k + 1)))), (9, .int (nI (stN (ser d a b) (dR d 0) (dR d 4) (k + 2))))]) dX8_rises_95 (by decide) (qs1 rfl (qs1 rfl (qs1 rfl (qs1 rfl (qs1 rfl (qs1 rfl (qs1 rfl (qs1 rfl (qs1 rfl qs0))))))))) ?_
          refine R_aload_n dX8_rises_97 rfl ?_
          refine R_getR dX8_rises_98 lg_RX8_41 (by decide) rfl rfl ?_
          refine R_iload dX8_rises_101 rfl ?_
          refine R_ialdN dX8_rises_103 (by decide) rfl (by omega) (by decide) ?_
          refine R_top (y := nI (bY d a b k)) (hS.2.2 _ k2).2 ?_
          refine R_iload_n dX8_rises_104 rfl ?_
          refine R_icmp_neN (tgt := 151) dX8_rises_105 (by decide) (by omega) (by omega) (fun h_105 => ?_) (fun h_105 => ?_)
          · refine R_iincN (n := 1) (L' := [(0, .ref 0), (1, .int (nI c)), (2, .int (nI q)), (3, .int (nI t)), (4, .long (shT d a b t k)), (6, .int (nI (k + 1))), (7, .int (nI (stN (ser d a b) (dR d 0) (dR d 4) k))), (8, .int (nI (stN (ser d a b) (dR d 0) (dR d 4) (k + 1)))), (9, .int (nI (stN (ser d a b) (dR d 0) (dR d 4) (k + 2))))]) dX8_rises_151 rfl (by decide) (qs1 rfl (qs1 rfl (qs1 rfl (qs1 rfl (qs1 rfl (qs1 rfl (qs1 rfl (qs1 rfl (qs1 rfl qs0))))))))) ?_
            refine R_goto (tgt := 30) dX8_rises_154 (by decide) ?_
            refine R_ls (L' := [(0, .ref 0), (1, .int (nI c)), (2, .int (nI q)), (3, .int (nI t)), (4, .long (shT d a b t k)), (6, .int (nI (k + 1)))]) (qs1 rfl (qs1 rfl (qs1 rfl (qs1 rfl (qs1 rfl (qs1 rfl qs0)))))) ?_
            exact (by have h := ih (k + 1) (by omega) (by omega); rw [show shT d a b t (k + 1) = (if bY d a b k = t then bSh d a b k else shT d a b t k) from rfl, if_neg (by omega)] at h; exact h)
          · refine R_ldc (v := nI 720720) dX8_rises_108 lc_RX8_225 ?_
            refine R_iload dX8_rises_110 rfl ?_
            refine R_iload dX8_rises_112 rfl ?_
            refine R_isubN dX8_rises_114 (by omega) ?_
            refine R_idivN dX8_rises_115 (by omega) (by omega) (by omega) ?_
            refine R_i2l dX8_rises_116 ?_
            refine R_aload_n dX8_rises_117 rfl ?_
            refine R_iload dX8_rises_118 rfl ?_
            refine R_iload dX8_rises_120 rfl ?_
            refine R_iconst (v := nI 1) dX8_rises_122 rfl ?_
            refine R_isubN dX8_rises_123 (by omega) ?_
            refine R_callV (mc := mX8_sumOf) (As := [_, _]) (r := 0) dX8_rises_124 lm_RX8_219 mv_X8_sumOf rfl (by decide) rfl rfl rfl rfl (Nat.le_of_ble_eq_true rfl) (m_sum hS (by omega) (by omega)) ?_
            rintro _ _ ⟨rfl, rfl⟩
            refine R_lmul dX8_rises_127 ?_
            refine R_ldc (v := nI 720720) dX8_rises_128 lc_RX8_225 ?_
            refine R_iload dX8_rises_130 rfl ?_
            refine R_iload dX8_rises_132 rfl ?_
            refine R_isubN dX8_rises_134 (by omega) ?_
            refine R_idivN dX8_rises_135 (by omega) (by omega) (by omega) ?_
            refine R_i2l dX8_rises_136 ?_
            refine R_aload_n dX8_rises_137 rfl ?_
            refine R_iload dX8_rises_138 rfl ?_
            refine R_iload dX8_rises_140 rfl ?_
            refine R_iconst (v := nI 1) dX8_rises_142 rfl ?_
            refine R_isubN dX8_rises_143 (by omega) ?_
            refine R_callV (mc := mX8_sumOf) (As := [_, _]) (r := 0) dX8_rises_144 lm_RX8_219 mv_X8_sumOf rfl (by decide) rfl rfl rfl rfl (Nat.le_of_ble_eq_true rfl) (m_sum hS (by omega) (by omega)) ?_
            rintro _ _ ⟨rfl, rfl⟩
            refine R_lmul dX8_rises_147 ?_
            refine R_lsub dX8_rises_148 ?_
            refine R_topL (y := bSh d a b k) (bSh_m k1 k3 (by omega) (by omega)) ?_
            refine R_lstore (L' := [(0, .ref 0), (1, .int (nI c)), (2, .int (nI q)), (3, .int (nI t)), (4, .long (bSh d a b k)), (6, .int (nI k)), (7, .int (nI (stN (ser d a b) (dR d 0) (dR d 4) k))), (8, .int (nI (stN (ser d a b) (dR d 0) (dR d 4) (k + 1)))), (9, .int (nI (stN (ser d a b) (dR d 0) (dR d 4) (k + 2))))]) dX8_rises_149 (by decide) (qs1 rfl (qs1 rfl (qs1 rfl (qs1 rfl (qs1 rfl (qs1 rfl (qs1 rfl (qs1 rfl (qs1 rfl qs0))))))))) ?_
            refine R_iincN (n := 1) (L' := [(0, .ref 0), (1, .int (nI c)), (2, .int (nI q)), (3, .int (nI t)), (4, .long (bSh d a b k)), (6, .int (nI (k + 1))), (7, .int (nI (stN (ser d a b) (dR d 0) (dR d 4) k))), (8, .int (nI (stN (ser d a b) (dR d 0) (dR d 4) (k + 1)))), (9, .int (nI (stN (ser d a b) (dR d 0) (dR d 4) (k + 2))))]) dX8_rises_151 rfl (by decide) (qs1 rfl (qs1 rfl (qs1 rfl (qs1 rfl (qs1 rfl (qs1 rfl (qs1 rfl (qs1 rfl (qs1 rfl qs0))))))))) ?_
            refine R_goto (tgt := 30) dX8_rises_154 (by decide) ?_
            refine R_ls (L' := [(0, .ref 0), (1, .int (nI c)), (2, .int (nI q)), (3, .int (nI t)), (4, .long (bSh d a b k)), (6, .int (nI (k + 1)))]) (qs1 rfl (qs1 rfl (qs1 rfl (qs1 rfl (qs1 rfl (qs1 rfl qs0)))))) ?_
            exact (by have h := ih (k + 1) (by omega) (by omega); rw [show shT d a b t (k + 1) = (if bY d a b k = t then bSh d a b k else shT d a b t k) from rfl, if_pos (by omega)] at h; exact h)
        · refine R_aload_n dX8_rises_79 rfl ?_
          refine R_getR dX8_rises_80 lg_RX8_47 (by decide) rfl rfl ?_
          refine R_iload dX8_rises_83 rfl ?_
          refine R_iconst (v := nI 1) dX8_rises_85 rfl ?_
          refine R_iaddN dX8_rises_86 ?_
          refine R_ialdN dX8_rises_87 (by decide) rfl (by omega) (by decide) ?_
          refine R_top (y := nI (stN (ser d a b) (dR d 0) (dR d 4) (k + 2))) (h13 (k + 1) (by have h9 : k + 1 < bN d a b := (by omega); exact h9)) ?_
          refine R_goto (tgt := 95) dX8_rises_88 (by decide) ?_
          refine R_istore (L' := [(0, .ref 0), (1, .int (nI c)), (2, .int (nI q)), (3, .int (nI t)), (4, .long (shT d a b t k)), (6, .int (nI k)), (7, .int (nI (stN (ser d a b) (dR d 0) (dR d 4) k))), (8, .int (nI (stN (ser d a b) (dR d 0) (dR d 4) (k + 1)))), (9, .int (nI (stN (ser d a b) (dR d 0) (dR d 4) (k + 2))))]) dX8_rises_95 (by decide) (qs1 rfl (qs1 rfl (qs1 rfl (qs1 rfl (qs1 rfl (qs1 rfl (qs1 rfl (qs1 rfl (qs1 rfl qs0))))))))) ?_
          refine R_aload_n dX8_rises_97 rfl ?_
          refine R_getR dX8_rises_98 lg_RX8_41 (by decide) rfl rfl ?_
          refine R_iload dX8_rises_101 rfl ?_
          refine R_ialdN dX8_rises_103 (by decide) rfl (by omega) (by decide) ?_
          refine R_top (y := nI (bY d a b k)) (hS.2.2 _ k2).2 ?_
          refine R_iload_n dX8_rises_104 rfl ?_
          refine R_icmp_neN (tgt := 151) dX8_rises_105 (by decide) (by omega) (by omega) (fun h_105 => ?_) (fun h_105 => ?_)
          · refine R_iincN (n := 1) (L' := [(0, .ref 0), (1, .int (nI c)), (2, .int (nI q)), (3, .int (nI t)), (4, .long (shT d a b t k)), (6, .int (nI (k + 1))), (7, .int (nI (stN (ser d a b) (dR d 0) (dR d 4) k))), (8, .int (nI (stN (ser d a b) (dR d 0) (dR d 4) (k + 1)))), (9, .int (nI (stN (ser d a b) (dR d 0) (dR d 4) (k + 2))))]) dX8_rises_151 rfl (by decide) (qs1 rfl (qs1 rfl (qs1 rfl (qs1 rfl (qs1 rfl (qs1 rfl (qs1 rfl (qs1 rfl (qs1 rfl qs0))))))))) ?_
            refine R_goto (tgt := 30) dX8_rises_154 (by decide) ?_
            refine R_ls (L' := [(0, .ref 0), (1, .int (nI c)), (2, .int (nI q)), (3, .int (nI t)), (4, .long (shT d a b t k)), (6, .int (nI (k + 1)))]) (qs1 rfl (qs1 rfl (qs1 rfl (qs1 rfl (qs1 rfl (qs1 rfl qs0)))))) ?_
            exact (by have h := ih (k + 1) (by omega) (by omega); rw [show shT d a b t (k + 1) = (if bY d a b k = t then bSh d a b k else shT d a b t k) from rfl, if_neg (by omega)] at h; exact h)
          · refine R_ldc (v := nI 720720) dX8_rises_108 lc_RX8_225 ?_
            refine R_iload dX8_rises_110 rfl ?_
            refine R_iload dX8_rises_112 rfl ?_
            refine R_isubN dX8_rises_114 (by omega) ?_
            refine R_idivN dX8_rises_115 (by omega) (by omega) (by omega) ?_
            refine R_i2l dX8_rises_116 ?_
            refine R_aload_n dX8_rises_117 rfl ?_
            refine R_iload dX8_rises_118 rfl ?_
            refine R_iload dX8_rises_120 rfl ?_
            refine R_iconst (v := nI 1) dX8_rises_122 rfl ?_
            refine R_isubN dX8_rises_123 (by omega) ?_
            refine R_callV (mc := mX8_sumOf) (As := [_, _]) (r := 0) dX8_rises_124 lm_RX8_219 mv_X8_sumOf rfl (by decide) rfl rfl rfl rfl (Nat.le_of_ble_eq_true rfl) (m_sum hS (by omega) (by omega)) ?_
            rintro _ _ ⟨rfl, rfl⟩
            refine R_lmul dX8_rises_127 ?_
            refine R_ldc (v := nI 720720) dX8_rises_128 lc_RX8_225 ?_
            refine R_iload dX8_rises_130 rfl ?_
            refine R_iload dX8_rises_132 rfl ?_
            refine R_isubN dX8_rises_134 (by omega) ?_
            refine R_idivN dX8_rises_135 (by omega) (by omega) (by omega) ?_
            refine R_i2l dX8_rises_136 ?_
            refine R_aload_n dX8_rises_137 rfl ?_
            refine R_iload dX8_rises_138 rfl ?_
            refine R_iload dX8_rises_140 rfl ?_
            refine R_iconst (v := nI 1) dX8_rises_142 rfl ?_
            refine R_isubN dX8_rises_143 (by omega) ?_
            refine R_callV (mc := mX8_sumOf) (As := [_, _]) (r := 0) dX8_rises_144 lm_RX8_219 mv_X8_sumOf rfl (by decide) rfl rfl rfl rfl (Nat.le_of_ble_eq_true rfl) (m_sum hS (by omega) (by omega)) ?_
            rintro _ _ ⟨rfl, rfl⟩
            refine R_lmul dX8_rises_147 ?_
            refine R_lsub dX8_rises_148 ?_
            refine R_topL (y := bSh d a b k) (bSh_m k1 k3 (by omega) (by omega)) ?_
            refine R_lstore (L' := [(0, .ref 0), (1, .int (nI c)), (2, .int (nI q)), (3, .int (nI t)), (4, .long (bSh d a b k)), (6, .int (nI k)), (7, .int (nI (stN (ser d a b) (dR d 0) (dR d 4) k))), (8, .int (nI (stN (ser d a b) (dR d 0) (dR d 4) (k + 1)))), (9, .int (nI (stN (ser d a b) (dR d 0) (dR d 4) (k + 2))))]) dX8_rises_149 (by decide) (qs1 rfl (qs1 rfl (qs1 rfl (qs1 rfl (qs1 rfl (qs1 rfl (qs1 rfl (qs1 rfl (qs1 rfl qs0))))))))) ?_
            refine R_iincN (n := 1) (L' := [(0, .ref 0), (1, .int (nI c)), (2, .int (nI q)), (3, .int (nI t)), (4, .long (bSh d a b k)), (6, .int (nI (k + 1))), (7, .int (nI (stN (ser d a b) (dR d 0) (dR d 4) k))), (8, .int (nI (stN (ser d a b) (dR d 0) (dR d 4) (k + 1)))), (9, .int (nI (stN (ser d a b) (dR d 0) (dR d 4) (k + 2))))]) dX8_rises_151 rfl (by decide) (qs1 rfl (qs1 rfl (qs1 rfl (qs1 rfl (qs1 rfl (qs1 rfl (qs1 rfl (qs1 rfl (qs1 rfl qs0))))))))) ?_
            refine R_goto (tgt := 30) dX8_rises_154 (by decide) ?_
            refine R_ls (L' := [(0, .ref 0), (1, .int (nI c)), (2, .int (nI q)), (3, .int (nI t)), (4, .long (bSh d a b k)), (6, .int (nI (k + 1)))]) (qs1 rfl (qs1 rfl (qs1 rfl (qs1 rfl (qs1 rfl (qs1 rfl qs0)))))) ?_
            exact (by have h := ih (k + 1) (by omega) (by omega); rw [show shT d a b t (k + 1) = (if bY d a b k = t then bSh d a b k else shT d a b t k) from rfl, if_pos (by omega)] at h; exact h)
set_option maxRecDepth 100000 in
set_option maxHeartbeats 4000000 in
theorem m_rs1 {M : qMem} {d : dT} (hX : MR M d) (hB : dB d) (hK2 : 2 ≤ dK d) (hY4 : 4 ≤ dY d) {c q t : Nat} (hc : c < dK d) (hq : q < dK d) (ht : t < 16) (h : c < q) : qSem 1 mX8_rises [.ref 0, .int (nI c), .int (nI q), .int (nI t)] M (fun v N => v = some (.long (sgS d c q t)) ∧ cOff sSc M N) := by
  have hK6 := hB.2.1
  have hY16 := hB.1
  refine qSem.of (by decide +kernel) (Nat.le_of_ble_eq_true rfl) (fun w => ?_)
  refine R_ls (L' := [(0, .ref 0), (1, .int (nI c)), (2, .int (nI q)), (3, .int (nI t))]) (qs1 rfl (qs1 rfl (qs1 rfl (qs1 rfl qs0)))) ?_
  refine R_aload_n dX8_rises_0 rfl ?_
  refine R_iload_n dX8_rises_1 rfl ?_
  refine R_iload_n dX8_rises_2 rfl ?_
  refine R_icmp_geN (tgt := 10) dX8_rises_3 (by decide) (by omega) (by omega) (fun h_3 => by exact absurd h_3 (by omega)) (fun h_3 => ?_)
  refine R_iload_n dX8_rises_6 rfl ?_
  refine R_goto (tgt := 11) dX8_rises_7 (by decide) ?_
  refine R_iload_n dX8_rises_11 rfl ?_
  refine R_iload_n dX8_rises_12 rfl ?_
  refine R_icmp_geN (tgt := 20) dX8_rises_13 (by decide) (by omega) (by omega) (fun h_13 => by exact absurd h_13 (by omega)) (fun h_13 => ?_)
  refine R_iload_n dX8_rises_16 rfl ?_
  refine R_goto (tgt := 21) dX8_rises_17 (by decide) ?_
  refine R_callV (mc := mX8_findBest) (As := [_, _]) (r := 0) dX8_rises_21 lm_RX8_245 mv_X8_findBest rfl (by decide) rfl rfl rfl rfl (Nat.le_of_ble_eq_true rfl) (m_best hX hB hK2 hY4 hc hq) ?_
  rintro _ _ ⟨rfl, hF, hO1⟩
  refine R_lconst (v := 0) dX8_rises_24 rfl ?_
  refine R_lstore (L' := [(0, .ref 0), (1, .int (nI c)), (2, .int (nI q)), (3, .int (nI t)), (4, .long (0))]) dX8_rises_25 (by decide) (qs1 rfl (qs1 rfl (qs1 rfl (qs1 rfl (qs1 rfl qs0))))) ?_
  refine R_iconst (v := nI 0) dX8_rises_27 rfl ?_
  refine R_istore (L' := [(0, .ref 0), (1, .int (nI c)), (2, .int (nI q)), (3, .int (nI t)), (4, .long (0)), (6, .int (nI 0))]) dX8_rises_28 (by decide) (qs1 rfl (qs1 rfl (qs1 rfl (qs1 rfl (qs1 rfl (qs1 rfl qs0)))))) ?_
  refine R_ls (L' := [(0, .ref 0), (1, .int (nI c)), (2, .int (nI q)), (3, .int (nI t)), (4, .long (shT d c q t 0)), (6, .int (nI 0))]) (qs1 rfl (qs1 rfl (qs1 rfl (qs1 rfl (qs1 rfl (qs1 rfl qs0)))))) ?_
  refine qRW_mono (m_rsL (a := c) (b := q) (c := c) (q := q) (t := t) hB hF ⟨by omega, by omega⟩ ht (bN d c q + 2) 0 (by omega) (Nat.zero_le _)) ?_
  rintro v N ⟨rfl, rfl⟩
  exact ⟨by unfold sgS; rw [if_pos h, if_pos h], hO1⟩
set_option maxRecDepth 100000 in
set_option maxHeartbeats 4000000 in
theorem m_rs2 {M : qMem} {d : dT} (hX : MR M d) (hB : dB d) (hK2 : 2 ≤ dK d) (hY4 : 4 ≤ dY d) {c q t : Nat} (hc : c < dK d) (hq : q < dK d) (ht : t < 16) (h : q < c) : qSem 1 mX8_rises [.ref 0, .int (nI c), .int (nI q), .int (nI t)] M (fun v N => v = some (.long (sgS d c q t)) ∧ cOff sSc M N) := by
  have hK6 := hB.2.1
  have hY16 := hB.1
  refine qSem.of (by decide +kernel) (Nat.le_of_ble_eq_true rfl) (fun w => ?_)
  refine R_ls (L' := [(0, .ref 0), (1, .int (nI c)), (2, .int (nI q)), (3, .int (nI t))]) (qs1 rfl (qs1 rfl (qs1 rfl (qs1 rfl qs0)))) ?_
  refine R_aload_n dX8_rises_0 rfl ?_
  refine R_iload_n dX8_rises_1 rfl ?_
  refine R_iload_n dX8_rises_2 rfl ?_
  refine R_icmp_geN (tgt := 10) dX8_rises_3 (by decide) (by omega) (by omega) (fun h_3 => ?_) (fun h_3 => by exact absurd h_3 (by omega))
  refine R_iload_n dX8_rises_10 rfl ?_
  refine R_iload_n dX8_rises_11 rfl ?_
  refine R_iload_n dX8_rises_12 rfl ?_
  refine R_icmp_geN (tgt := 20) dX8_rises_13 (by decide) (by omega) (by omega) (fun h_13 => ?_) (fun h_13 => by exact absurd h_13 (by omega))
  refine R_iload_n dX8_rises_20 rfl ?_
  refine R_callV (mc := mX8_findBest) (As := [_, _]) (r := 0) dX8_rises_21 lm_RX8_245 mv_X8_findBest rfl (by decide) rfl rfl rfl rfl (Nat.le_of_ble_eq_true rfl) (m_best hX hB hK2 hY4 hq hc) ?_
  rintro _ _ ⟨rfl, hF, hO1⟩
  refine R_lconst (v := 0) dX8_rises_24 rfl ?_
  refine R_lstore (L' := [(0, .ref 0), (1, .int (nI c)), (2, .int (nI q)), (3, .int (nI t)), (4, .long (0))]) dX8_rises_25 (by decide) (qs1 rfl (qs1 rfl (qs1 rfl (qs1 rfl (qs1 rfl qs0))))) ?_
  refine R_iconst (v := nI 0) dX8_rises_27 rfl ?_
  refine R_istore (L' := [(0, .ref 0), (1, .int (nI c)), (2, .int (nI q)), (3, .int (nI t)), (4, .long (0)), (6, .int (nI 0))]) dX8_rises_28 (by decide) (qs1 rfl (qs1 rfl (qs1 rfl (qs1 rfl (qs1 rfl (qs1 rfl qs0)))))) ?_
  refine R_ls (L' := [(0, .ref 0), (1, .int (nI c)), (2, .int (nI q)), (3, .int (nI t)), (4, .long (shT d q c t 0)), (6, .int (nI 0))]) (qs1 rfl (qs1 rfl (qs1 rfl (qs1 rfl (qs1 rfl (qs1 rfl qs0)))))) ?_
  refine qRW_mono (m_rsL (a := q) (b := c) (c := c) (q := q) (t := t) hB hF ⟨by omega, by omega⟩ ht (bN d q c + 2) 0 (by omega) (Nat.zero_le _)) ?_
  rintro v N ⟨rfl, rfl⟩
  exact ⟨by unfold sgS; rw [if_neg (by omega), if_neg (by omega)], hO1⟩

theorem m_rises {M : qMem} {d : dT} (hX : MR M d) (hB : dB d) (hK2 : 2 ≤ dK d) (hY4 : 4 ≤ dY d) {c q t : Nat} (hc : c < dK d) (hq : q < dK d) (ht : t < 16) (hne : q ≠ c) : qSem 1 mX8_rises [.ref 0, .int (nI c), .int (nI q), .int (nI t)] M (fun v N => v = some (.long (sgS d c q t)) ∧ cOff sSc M N) := by
  rcases Nat.lt_or_ge c q with h | h
  · exact m_rs1 hX hB hK2 hY4 hc hq ht h
  · exact m_rs2 hX hB hK2 hY4 hc hq ht (by omega)
theorem MFx.sc {K N : qMem} {d : dT} {i : Nat} {x : cT} (h : MFx K d i x) (hO : cOff sSc K N) : MFx N d i x := h.off (fun o a b => (hO o i (by unfold sSc; omega)).1)
theorem h_pos {n : Nat} (h1 : 1 ≤ n) (h : n < 1000) : 0 < (2 * (720720 * (nI n).toInt64) : Int64).toInt := by
  rw [j_n (by omega), show (2 : Int64) = Int64.ofInt 2 from rfl, show (720720 : Int64) = Int64.ofInt 720720 from rfl, ← Int64.ofInt_mul, ← Int64.ofInt_mul, j_ofI (by omega) (by omega)]
  omega
set_option maxRecDepth 100000 in
set_option maxHeartbeats 4000000 in
theorem m_szL {w : qWT} {M : qMem} {d : dT} (hX0 : MR M d) (hB : dB d) (hK2 : 2 ≤ dK d) (hY4 : 4 ≤ dY d) {i : Nat} (hi : i < 96) {x : cT} (hx0 : MFx M d i x) (hx3 : x.1 < dK d) (hx4 : x.2.1 < dY d) {f_ : Nat → Bool} (hw : M.1 19 i = nI (wm f_ (dK d))) (hfn : ∀ q, f_ q = true → q ≠ x.1) (hxr : x.2.2.2 = rmean (zS d f_ x.1 x.2.1 (dK d)) x.2.2.1) (hv1 : 1 ≤ x.2.2.1) (hv6 : x.2.2.1 ≤ 6) : ∀ (fu : Nat) (q : Nat) (K : qMem), (dK d + 1 - q) < fu → (q ≤ dK d) → (cOff sSc M K) → qRW 1 w mX8_sizeOf 5 [(0, .ref 0), (1, .int (nI i)), (2, .long (zS d f_ x.1 x.2.1 q)), (4, .int (nI q))] [] K (fun v N => v = some (.int x.2.2.2) ∧ cOff sSc M N) := by
  intro fu
  induction fu with
  | zero => intro q K hn; exact absurd hn (Nat.not_lt_zero _)
  | succ fu ih =>
    intro q K hn hq hO
    have hX := hX0.sc hO
    have hx := hx0.sc hO
    have hw2 : K.1 19 i = nI (wm f_ (dK d)) := by rw [(hO 19 i (by unfold sSc; omega)).1]; exact hw
    have hK6 := hB.2.1
    have hY16 := hB.1
    refine R_iload dX8_sizeOf_5 rfl ?_
    refine R_aload_n dX8_sizeOf_7 rfl ?_
    refine R_getI dX8_sizeOf_8 (lf_RX8_148).get (by decide) rfl rfl ?_
    refine R_top (y := nI (dK d)) hX.1.1 ?_
    refine R_icmp_geN (tgt := 59) dX8_sizeOf_11 (by decide) (by omega) (by omega) (fun h_11 => ?_) (fun h_11 => ?_)
    · refine R_lload_n dX8_sizeOf_59 rfl ?_
      refine R_ldc2 dX8_sizeOf_60 lc_RX8_223 ?_
      refine R_aload_n dX8_sizeOf_63 rfl ?_
      refine R_getR dX8_sizeOf_64 lg_RX8_62 (by decide) rfl rfl ?_
      refine R_iload_n dX8_sizeOf_67 rfl ?_
      refine R_ialdN dX8_sizeOf_68 (by decide) rfl (by omega) (by decide) ?_
      refine R_top (y := nI x.2.2.1) hx.2.2.1 ?_
      refine R_i2l dX8_sizeOf_69 ?_
      refine R_lmul dX8_sizeOf_70 ?_
      refine R_callS (mc := mX8_nearestOf) (As := [_, _]) dX8_sizeOf_71 lm_RX8_276 mv_X8_nearestOf rfl rfl rfl (Nat.le_of_ble_eq_true rfl) (m_near2 (h_pos hv1 (by omega))) ?_
      rintro _ _ ⟨rfl, rfl⟩
      refine R_l2i dX8_sizeOf_74 ?_
      refine R_ireturn dX8_sizeOf_75 rfl rfl ?_
      have e : q = dK d := by omega
      subst e
      exact ⟨by rw [hxr]; unfold rmean; rw [if_neg (by omega)], hO⟩
    · refine R_lload_n dX8_sizeOf_14 rfl ?_
      refine R_aload_n dX8_sizeOf_15 rfl ?_
      refine R_getR dX8_sizeOf_16 lg_RX8_65 (by decide) rfl rfl ?_
      refine R_iload_n dX8_sizeOf_19 rfl ?_
      refine R_ialdN dX8_sizeOf_20 (by decide) rfl (by omega) (by decide) ?_
      refine R_top (y := nI (wm f_ (dK d))) hw2 ?_
      refine R_iload dX8_sizeOf_21 rfl ?_
      refine R_callS (mc := mX8_has) (As := [_, _]) dX8_sizeOf_23 lm_RX8_250 mv_X8_has rfl rfl rfl (Nat.le_of_ble_eq_true rfl) (m_has (by omega)) ?_
      rintro _ _ ⟨rfl, ⟨rfl, hh⟩ | ⟨rfl, hh⟩⟩
      · rw [wm_bit (by omega) (by omega)] at hh
        refine R_if_eqN (tgt := 50) dX8_sizeOf_26 (by decide) (by omega) (fun h_26 => by exact absurd h_26 (by decide)) (fun h_26 => ?_)
        refine R_aload_n dX8_sizeOf_29 rfl ?_
        refine R_aload_n dX8_sizeOf_30 rfl ?_
        refine R_getR dX8_sizeOf_31 lg_RX8_56 (by decide) rfl rfl ?_
        refine R_iload_n dX8_sizeOf_34 rfl ?_
        refine R_ialdN dX8_sizeOf_35 (by decide) rfl (by omega) (by decide) ?_
        refine R_top (y := nI x.1) hx.1 ?_
        refine R_iload dX8_sizeOf_36 rfl ?_
        refine R_aload_n dX8_sizeOf_38 rfl ?_
        refine R_getR dX8_sizeOf_39 lg_RX8_59 (by decide) rfl rfl ?_
        refine R_iload_n dX8_sizeOf_42 rfl ?_
        refine R_ialdN dX8_sizeOf_43 (by decide) rfl (by omega) (by decide) ?_
        refine R_top (y := nI x.2.1) hx.2.1 ?_
        refine R_callV (mc := mX8_rises) (As := [_, _, _]) (r := 0) dX8_sizeOf_44 lm_RX8_272 mv_X8_rises rfl (by decide) rfl rfl rfl rfl (Nat.le_of_ble_eq_true rfl) (m_rises hX hB hK2 hY4 hx3 (by omega) (by omega) (hfn q hh)) ?_
        rintro _ _ ⟨rfl, hO1⟩
        refine R_goto (tgt := 51) dX8_sizeOf_47 (by decide) ?_
        refine R_ladd dX8_sizeOf_51 ?_
        refine R_lstore_n (L' := [(0, .ref 0), (1, .int (nI i)), (2, .long _), (4, .int (nI q))]) dX8_sizeOf_52 (by decide) (qs1 rfl (qs1 rfl (qs1 rfl (qs1 rfl qs0)))) ?_
        refine R_iincN (n := 1) (L' := [(0, .ref 0), (1, .int (nI i)), (2, .long _), (4, .int (nI (q + 1)))]) dX8_sizeOf_53 rfl (by decide) (qs1 rfl (qs1 rfl (qs1 rfl (qs1 rfl qs0)))) ?_
        refine R_goto (tgt := 5) dX8_sizeOf_56 (by decide) ?_
        refine R_ls (L' := [(0, .ref 0), (1, .int (nI i)), (2, .long _), (4, .int (nI (q + 1)))]) (qs1 rfl (qs1 rfl (qs1 rfl (qs1 rfl qs0)))) ?_
        exact (by have h := ih (q + 1) _ (by omega) (by omega) (hO.tr hO1); rw [show zS d f_ x.1 x.2.1 (q + 1) = zS d f_ x.1 x.2.1 q + (if f_ q then sgS d x.1 q x.2.1 else 0) from rfl, if_pos hh] at h; exact h)
      · rw [wm_bit (by omega) (by omega)] at hh
        refine R_if_eqN (tgt := 50) dX8_sizeOf_26 (by decide) (by omega) (fun h_26 => ?_) (fun h_26 => by exact absurd h_26 (by decide))
        refine R_lconst (v := 0) dX8_sizeOf_50 rfl ?_
        refine R_ladd dX8_sizeOf_51 ?_
        refine R_lstore_n (L' := [(0, .ref 0), (1, .int (nI i)), (2, .long _), (4, .int (nI q))]) dX8_sizeOf_52 (by decide) (qs1 rfl (qs1 rfl (qs1 rfl (qs1 rfl qs0)))) ?_
        refine R_iincN (n := 1) (L' := [(0, .ref 0), (1, .int (nI i)), (2, .long _), (4, .int (nI (q + 1)))]) dX8_sizeOf_53 rfl (by decide) (qs1 rfl (qs1 rfl (qs1 rfl (qs1 rfl qs0)))) ?_
        refine R_goto (tgt := 5) dX8_sizeOf_56 (by decide) ?_
        refine R_ls (L' := [(0, .ref 0), (1, .int (nI i)), (2, .long _), (4, .int (nI (q + 1)))]) (qs1 rfl (qs1 rfl (qs1 rfl (qs1 rfl qs0)))) ?_
        exact (by have h := ih (q + 1) _ (by omega) (by omega) hO; rw [show zS d f_ x.1 x.2.1 (q + 1) = zS d f_ x.1 x.2.1 q + (if f_ q then sgS d x.1 q x.2.1 else 0) from rfl, if_neg hh] at h; exact h)
set_option maxRecDepth 100000 in
set_option maxHeartbeats 4000000 in
theorem m_size {M : qMem} {d : dT} (hX : MR M d) (hB : dB d) (hK2 : 2 ≤ dK d) (hY4 : 4 ≤ dY d) {i : Nat} (hi : i < 96) {x : cT} (hx : MFx M d i x) (hx3 : x.1 < dK d) (hx4 : x.2.1 < dY d) : qSem 1 mX8_sizeOf [.ref 0, .int (nI i)] M (fun v N => v = some (.int x.2.2.2) ∧ cOff sSc M N) := by
  obtain ⟨f_, hw, hfn, hxr, hv1, hv6⟩ := hx.2.2.2
  refine qSem.of (by decide +kernel) (Nat.le_of_ble_eq_true rfl) (fun w => ?_)
  refine R_ls (L' := [(0, .ref 0), (1, .int (nI i))]) (qs1 rfl (qs1 rfl qs0)) ?_
  refine R_lconst (v := 0) dX8_sizeOf_0 rfl ?_
  refine R_lstore_n (L' := [(0, .ref 0), (1, .int (nI i)), (2, .long (0))]) dX8_sizeOf_1 (by decide) (qs1 rfl (qs1 rfl (qs1 rfl qs0))) ?_
  refine R_iconst (v := nI 0) dX8_sizeOf_2 rfl ?_
  refine R_istore (L' := [(0, .ref 0), (1, .int (nI i)), (2, .long (0)), (4, .int (nI 0))]) dX8_sizeOf_3 (by decide) (qs1 rfl (qs1 rfl (qs1 rfl (qs1 rfl qs0)))) ?_
  refine R_ls (L' := [(0, .ref 0), (1, .int (nI i)), (2, .long (0)), (4, .int (nI 0))]) (qs1 rfl (qs1 rfl (qs1 rfl (qs1 rfl qs0)))) ?_
  exact (m_szL hX hB hK2 hY4 hi hx hx3 hx4 hw hfn hxr hv1 hv6 (dK d + 2) 0 M (by omega) (Nat.zero_le _) cOff.rf)
