
-- ===== the law's cases =====
theorem g_swap {D : va_G} {cl : List vw_C} {a c : va_W} {H : Heap} (h : va_P D cl (a ++ c) H) : va_P D cl (c ++ a) H := va_P.swap (a := []) h
theorem g_swapD {A : Nat → Prop} {a c : va_W} (h : va_D A (a ++ c)) : va_D A (c ++ a) := va_D.swap (a := []) h
def lA (s : State) : Nat → Prop := fun q => s.heap.size ≤ q
theorem lm_RL_13 : Cond.methodLink RL 13 yX7_write ∈ qW := (qW_t (i := 377) (by decide +kernel) rfl)
theorem lm_RL_17 : Cond.methodLink RL 17 yX8_write ∈ qW := (qW_t (i := 919) (by decide +kernel) rfl)
theorem lm_RL_18 : Cond.methodLink RL 18 yX7_wipe ∈ qW := (qW_t (i := 385) (by decide +kernel) rfl)
theorem lm_RL_22 : Cond.methodLink RL 22 yX8_wipe ∈ qW := (qW_t (i := 928) (by decide +kernel) rfl)
theorem lm_RL_23 : Cond.methodLink RL 23 yX7_fault ∈ qW := (qW_t (i := 389) (by decide +kernel) rfl)
theorem lm_RL_26 : Cond.methodLink RL 26 yX8_fault ∈ qW := (qW_t (i := 932) (by decide +kernel) rfl)
theorem lm_RL_27 : Cond.methodLink RL 27 yX7_lay ∈ qW := (qW_t (i := 393) (by decide +kernel) rfl)
theorem lm_RL_30 : Cond.methodLink RL 30 yX8_lay ∈ qW := (qW_t (i := 976) (by decide +kernel) rfl)
theorem lm_RL_31 : Cond.methodLink RL 31 yX7_value ∈ qW := (qW_t (i := 397) (by decide +kernel) rfl)
theorem lm_RL_35 : Cond.methodLink RL 35 yX8_value ∈ qW := (qW_t (i := 980) (by decide +kernel) rfl)
theorem lm_RL_36 : Cond.methodLink RL 36 yX7_set ∈ qW := (qW_t (i := 418) (by decide +kernel) rfl)
theorem lm_RL_40 : Cond.methodLink RL 40 yX8_set ∈ qW := (qW_t (i := 1000) (by decide +kernel) rfl)
theorem lm_RL_41 : Cond.methodLink RL 41 yX7_lose ∈ qW := (qW_t (i := 438) (by decide +kernel) rfl)
theorem lm_RL_44 : Cond.methodLink RL 44 yX8_lose ∈ qW := (qW_t (i := 1014) (by decide +kernel) rfl)
theorem lm_RL_45 : Cond.methodLink RL 45 yX7_penalty ∈ qW := (qW_t (i := 442) (by decide +kernel) rfl)
theorem lm_RL_48 : Cond.methodLink RL 48 yX8_penalty ∈ qW := (qW_t (i := 1022) (by decide +kernel) rfl)
theorem lm_RL_49 : Cond.methodLink RL 49 yX7_rule ∈ qW := (qW_t (i := 455) (by decide +kernel) rfl)
theorem lm_RL_52 : Cond.methodLink RL 52 yX8_rule ∈ qW := (qW_t (i := 1027) (by decide +kernel) rfl)
theorem lm_RL_53 : Cond.methodLink RL 53 yX7_undo ∈ qW := (qW_t (i := 465) (by decide +kernel) rfl)
theorem lm_RL_56 : Cond.methodLink RL 56 yX8_undo ∈ qW := (qW_t (i := 1034) (by decide +kernel) rfl)
theorem lm_RL_57 : Cond.methodLink RL 57 yX7_day ∈ qW := (qW_t (i := 494) (by decide +kernel) rfl)
theorem lm_RL_60 : Cond.methodLink RL 60 yX8_day ∈ qW := (qW_t (i := 1038) (by decide +kernel) rfl)
theorem lm_RL_61 : Cond.methodLink RL 61 yX7_nearest ∈ qW := (qW_t (i := 505) (by decide +kernel) rfl)
theorem lm_RL_64 : Cond.methodLink RL 64 yX8_nearest ∈ qW := (qW_t (i := 1046) (by decide +kernel) rfl)
theorem lm_RL_65 : Cond.methodLink RL 65 yX7_pair ∈ qW := (qW_t (i := 518) (by decide +kernel) rfl)
theorem lm_RL_68 : Cond.methodLink RL 68 yX8_pair ∈ qW := (qW_t (i := 1058) (by decide +kernel) rfl)
theorem lm_RL_69 : Cond.methodLink RL 69 yX7_entry ∈ qW := (qW_t (i := 531) (by decide +kernel) rfl)
theorem lm_RL_72 : Cond.methodLink RL 72 yX8_entry ∈ qW := (qW_t (i := 1070) (by decide +kernel) rfl)
theorem lm_RL_73 : Cond.methodLink RL 73 yX7_year ∈ qW := (qW_t (i := 554) (by decide +kernel) rfl)
theorem lm_RL_76 : Cond.methodLink RL 76 yX8_year ∈ qW := (qW_t (i := 1078) (by decide +kernel) rfl)
theorem lm_RL_77 : Cond.methodLink RL 77 yX7_spread ∈ qW := (qW_t (i := 562) (by decide +kernel) rfl)
theorem lm_RL_81 : Cond.methodLink RL 81 yX8_spread ∈ qW := (qW_t (i := 1082) (by decide +kernel) rfl)
theorem lm_RL_82 : Cond.methodLink RL 82 yX7_split ∈ qW := (qW_t (i := 572) (by decide +kernel) rfl)
theorem lm_RL_85 : Cond.methodLink RL 85 yX8_split ∈ qW := (qW_t (i := 1097) (by decide +kernel) rfl)
theorem lm_RL_86 : Cond.methodLink RL 86 yX7_cost ∈ qW := (qW_t (i := 609) (by decide +kernel) rfl)
theorem lm_RL_90 : Cond.methodLink RL 90 yX8_cost ∈ qW := (qW_t (i := 1114) (by decide +kernel) rfl)
theorem lm_RL_91 : Cond.methodLink RL 91 yX7_spreads ∈ qW := (qW_t (i := 617) (by decide +kernel) rfl)
theorem lm_RL_95 : Cond.methodLink RL 95 yX8_spreads ∈ qW := (qW_t (i := 1118) (by decide +kernel) rfl)
theorem lm_RL_96 : Cond.methodLink RL 96 yX7_breaks ∈ qW := (qW_t (i := 633) (by decide +kernel) rfl)
theorem lm_RL_99 : Cond.methodLink RL 99 yX8_breaks ∈ qW := (qW_t (i := 1123) (by decide +kernel) rfl)
theorem lm_RL_100 : Cond.methodLink RL 100 yX7_least ∈ qW := (qW_t (i := 637) (by decide +kernel) rfl)
theorem lm_RL_103 : Cond.methodLink RL 103 yX8_least ∈ qW := (qW_t (i := 1127) (by decide +kernel) rfl)
theorem lm_RL_104 : Cond.methodLink RL 104 yX7_votes ∈ qW := (qW_t (i := 642) (by decide +kernel) rfl)
theorem lm_RL_107 : Cond.methodLink RL 107 yX8_votes ∈ qW := (qW_t (i := 1131) (by decide +kernel) rfl)
theorem lm_RL_108 : Cond.methodLink RL 108 yX7_culprit ∈ qW := (qW_t (i := 713) (by decide +kernel) rfl)
theorem lm_RL_111 : Cond.methodLink RL 111 yX8_culprit ∈ qW := (qW_t (i := 1157) (by decide +kernel) rfl)
theorem lm_RL_112 : Cond.methodLink RL 112 yX7_mend ∈ qW := (qW_t (i := 725) (by decide +kernel) rfl)
theorem lm_RL_115 : Cond.methodLink RL 115 yX8_mend ∈ qW := (qW_t (i := 1173) (by decide +kernel) rfl)
theorem lm_RL_116 : Cond.methodLink RL 116 yX7_mends ∈ qW := (qW_t (i := 751) (by decide +kernel) rfl)
theorem lm_RL_119 : Cond.methodLink RL 119 yX8_mends ∈ qW := (qW_t (i := 1177) (by decide +kernel) rfl)
theorem lm_RL_120 : Cond.methodLink RL 120 yX7_ledger ∈ qW := (qW_t (i := 755) (by decide +kernel) rfl)
theorem lm_RL_123 : Cond.methodLink RL 123 yX8_ledger ∈ qW := (qW_t (i := 1182) (by decide +kernel) rfl)
theorem lm_RL_124 : Cond.methodLink RL 124 yX7_made ∈ qW := (qW_t (i := 763) (by decide +kernel) rfl)
theorem lm_RL_127 : Cond.methodLink RL 127 yX8_made ∈ qW := (qW_t (i := 1186) (by decide +kernel) rfl)
theorem lm_RL_128 : Cond.methodLink RL 128 yX7_make ∈ qW := (qW_t (i := 774) (by decide +kernel) rfl)
theorem lm_RL_131 : Cond.methodLink RL 131 yX8_make ∈ qW := (qW_t (i := 1194) (by decide +kernel) rfl)
theorem lm_RL_132 : Cond.methodLink RL 132 yX7_rise ∈ qW := (qW_t (i := 778) (by decide +kernel) rfl)
theorem lm_RL_135 : Cond.methodLink RL 135 yX8_rise ∈ qW := (qW_t (i := 1198) (by decide +kernel) rfl)
theorem lm_RL_136 : Cond.methodLink RL 136 yX7_count ∈ qW := (qW_t (i := 785) (by decide +kernel) rfl)
theorem lm_RL_139 : Cond.methodLink RL 139 yX8_count ∈ qW := (qW_t (i := 1202) (by decide +kernel) rfl)
set_option maxRecDepth 100000 in
set_option maxHeartbeats 8000000 in
theorem lc_0 {w : qWT} {a1 a2 : Nat → Nat} {p : Program} {e : Env} {s : State} {m : MethodId} {below : List Frame} {meth : Method} {c : Code} {b L : Nat} {xs : Nat → Int32} {Q : State → Prop} {cells slots : Nat} {i vb : Nat} {st : sT} {M1 M2 : qMem} {H : Heap} {locs : List Loc} {ls : Array Slot} (hcs : cells ≤ room_1.cells ∧ slots ≤ room_1.slots) (C1 : gCx (wA w a1) (lA s) RL cL_law 4 p s m #[Value.ref b] c) (C2 : gCx (wA w a2) (lA s) RL cL_law 4 p s m #[Value.ref b] c) (hX : va_X b L xs s s.heap) (hbl : b < s.heap.size) (hi : i + 5 ≤ L) (hL : L ≤ 2560) (hvb : vb ≤ 100000) (hI : XI vb M1 st) (hM : MI M2 st) (hP : va_P (q_D w) vwCl (qws 0 (wA w a1) M1 ++ qws 1 (wA w a2) M2) H) (hD : va_D (lA s) (qws 0 (wA w a1) M1 ++ qws 1 (wA w a2) M2)) (hS : va_S (lA s) s.heap H locs) (hl : lv_has ls 4 [(3, .int (nI i)), (2, .ref (a2 0)), (1, .ref (a1 0)), (0, .ref b)])
    (kk : ∀ (vb2 : Nat) (st2 : sT) (N1 N2 : qMem) (H2 : Heap) (locs2 : List Loc), vb2 ≤ vb + 20 → XI vb2 N1 st2 → MI N2 st2 → va_P (q_D w) vwCl (qws 0 (wA w a1) N1 ++ qws 1 (wA w a2) N2) H2 → va_D (lA s) (qws 0 (wA w a1) N1 ++ qws 1 (wA w a2) N2) → va_S (lA s) s.heap H2 locs2 → W p (q_l w) e room_1 s m #[Value.ref b] below meth c H2 locs2 cells slots Q (F0 m 1101 ls [])) : W p (q_l w) e room_1 s m #[Value.ref b] below meth c H locs cells slots Q (F0 m 168 ls []) := by
  have hs := hI.ok
  have hbA : ¬ lA s b := Nat.not_le.mpr hbl
  refine lv_aload_n C1.1 C1.2.1 dL_law_168 rfl (lv_at hl 2 rfl) ?_
  refine lv_aload_n C1.1 C1.2.1 dL_law_169 rfl (lv_at hl 3 rfl) ?_
  refine lv_iload_n C1.1 C1.2.1 dL_law_170 rfl (lv_at hl 0 rfl) ?_
  refine lv_iconst (v := nI 1) C1.1 C1.2.1 dL_law_171 rfl ?_
  refine lv_iadd C1.1 C1.2.1 dL_law_172 ?_
  rw [nI_add i 1]
  refine va_sld C1.1 C1.2.1 hX hbl hbA hS (vp_in_nI (show i + 1 < L by omega) (by omega)) dL_law_173 ?_
  refine G_callV (w := wA w a1) (g := 0) (wr := qws 1 (wA w a2) M2) (mc := mX7_write) (As := [.int (xs (nI (i + 1)).toNatClampNeg)]) (r := 0) (rest := []) C1 hP hD hS hl.1 dL_law_174 lm_RL_13 mv_X7_write ⟨(Nat.le_of_ble_eq_true rfl), (Nat.le_of_ble_eq_true rfl)⟩ (by decide) rfl rfl rfl rfl (by decide) hcs (o_write hI) ?_
  rintro _ N1 H locs ⟨rfl, hI2⟩ hP hD hS
  have hP := g_swap hP
  have hD := g_swapD hD
  refine lv_aload_n C1.1 C1.2.1 dL_law_177 rfl (lv_at hl 1 rfl) ?_
  refine lv_aload_n C1.1 C1.2.1 dL_law_178 rfl (lv_at hl 3 rfl) ?_
  refine lv_iload_n C1.1 C1.2.1 dL_law_179 rfl (lv_at hl 0 rfl) ?_
  refine lv_iconst (v := nI 1) C1.1 C1.2.1 dL_law_180 rfl ?_
  refine lv_iadd C1.1 C1.2.1 dL_law_181 ?_
  rw [nI_add i 1]
  refine va_sld C1.1 C1.2.1 hX hbl hbA hS (vp_in_nI (show i + 1 < L by omega) (by omega)) dL_law_182 ?_
  refine G_callV (w := wA w a2) (g := 1) (wr := qws 0 (wA w a1) N1) (mc := mX8_write) (As := [.int (xs (nI (i + 1)).toNatClampNeg)]) (r := 0) (rest := [_]) C2 hP hD hS hl.1 dL_law_183 lm_RL_17 mv_X8_write ⟨(Nat.le_of_ble_eq_true rfl), (Nat.le_of_ble_eq_true rfl)⟩ (by decide) rfl rfl rfl rfl (Nat.le_of_ble_eq_true rfl) hcs (p_write hM hs) ?_
  rintro _ N2 H locs ⟨rfl, hM2⟩ hP hD hS
  have hP := g_swap hP
  have hD := g_swapD hD
  refine lv_icmp_eq (tgt := 1101) C1.1 C1.2.1 dL_law_186 (by decide) (fun _ => ?_) (fun z => absurd rfl z)
  exact kk _ _ _ _ H locs (by omega) hI2 (hM2) hP hD hS
set_option maxRecDepth 100000 in
set_option maxHeartbeats 8000000 in
theorem lc_1 {w : qWT} {a1 a2 : Nat → Nat} {p : Program} {e : Env} {s : State} {m : MethodId} {below : List Frame} {meth : Method} {c : Code} {b L : Nat} {xs : Nat → Int32} {Q : State → Prop} {cells slots : Nat} {i vb : Nat} {st : sT} {M1 M2 : qMem} {H : Heap} {locs : List Loc} {ls : Array Slot} (hcs : cells ≤ room_1.cells ∧ slots ≤ room_1.slots) (C1 : gCx (wA w a1) (lA s) RL cL_law 4 p s m #[Value.ref b] c) (C2 : gCx (wA w a2) (lA s) RL cL_law 4 p s m #[Value.ref b] c) (hX : va_X b L xs s s.heap) (hbl : b < s.heap.size) (hi : i + 5 ≤ L) (hL : L ≤ 2560) (hvb : vb ≤ 100000) (hI : XI vb M1 st) (hM : MI M2 st) (hP : va_P (q_D w) vwCl (qws 0 (wA w a1) M1 ++ qws 1 (wA w a2) M2) H) (hD : va_D (lA s) (qws 0 (wA w a1) M1 ++ qws 1 (wA w a2) M2)) (hS : va_S (lA s) s.heap H locs) (hl : lv_has ls 4 [(3, .int (nI i)), (2, .ref (a2 0)), (1, .ref (a1 0)), (0, .ref b)])
    (kk : ∀ (vb2 : Nat) (st2 : sT) (N1 N2 : qMem) (H2 : Heap) (locs2 : List Loc), vb2 ≤ vb + 20 → XI vb2 N1 st2 → MI N2 st2 → va_P (q_D w) vwCl (qws 0 (wA w a1) N1 ++ qws 1 (wA w a2) N2) H2 → va_D (lA s) (qws 0 (wA w a1) N1 ++ qws 1 (wA w a2) N2) → va_S (lA s) s.heap H2 locs2 → W p (q_l w) e room_1 s m #[Value.ref b] below meth c H2 locs2 cells slots Q (F0 m 1101 ls [])) : W p (q_l w) e room_1 s m #[Value.ref b] below meth c H locs cells slots Q (F0 m 191 ls []) := by
  have hs := hI.ok
  have hbA : ¬ lA s b := Nat.not_le.mpr hbl
  refine lv_aload_n C1.1 C1.2.1 dL_law_191 rfl (lv_at hl 2 rfl) ?_
  refine G_callV (w := wA w a1) (g := 0) (wr := qws 1 (wA w a2) M2) (mc := mX7_wipe) (As := []) (r := 0) (rest := []) C1 hP hD hS hl.1 dL_law_192 lm_RL_18 mv_X7_wipe ⟨(Nat.le_of_ble_eq_true rfl), (Nat.le_of_ble_eq_true rfl)⟩ (by decide) rfl rfl rfl rfl (by decide) hcs (o_wipe hI) ?_
  rintro _ N1 H locs ⟨rfl, hI2⟩ hP hD hS
  have hP := g_swap hP
  have hD := g_swapD hD
  refine lv_aload_n C1.1 C1.2.1 dL_law_195 rfl (lv_at hl 1 rfl) ?_
  refine G_callV (w := wA w a2) (g := 1) (wr := qws 0 (wA w a1) N1) (mc := mX8_wipe) (As := []) (r := 0) (rest := [_]) C2 hP hD hS hl.1 dL_law_196 lm_RL_22 mv_X8_wipe ⟨(Nat.le_of_ble_eq_true rfl), (Nat.le_of_ble_eq_true rfl)⟩ (by decide) rfl rfl rfl rfl (Nat.le_of_ble_eq_true rfl) hcs (p_wipe hM hs) ?_
  rintro _ N2 H locs ⟨rfl, hM2⟩ hP hD hS
  have hP := g_swap hP
  have hD := g_swapD hD
  refine lv_icmp_eq (tgt := 1101) C1.1 C1.2.1 dL_law_199 (by decide) (fun _ => ?_) (fun z => absurd rfl z)
  exact kk _ _ _ _ H locs (by omega) hI2 (hM2) hP hD hS
set_option maxRecDepth 100000 in
set_option maxHeartbeats 8000000 in
theorem lc_2 {w : qWT} {a1 a2 : Nat → Nat} {p : Program} {e : Env} {s : State} {m : MethodId} {below : List Frame} {meth : Method} {c : Code} {b L : Nat} {xs : Nat → Int32} {Q : State → Prop} {cells slots : Nat} {i vb : Nat} {st : sT} {M1 M2 : qMem} {H : Heap} {locs : List Loc} {ls : Array Slot} (hcs : cells ≤ room_1.cells ∧ slots ≤ room_1.slots) (C1 : gCx (wA w a1) (lA s) RL cL_law 4 p s m #[Value.ref b] c) (C2 : gCx (wA w a2) (lA s) RL cL_law 4 p s m #[Value.ref b] c) (hX : va_X b L xs s s.heap) (hbl : b < s.heap.size) (hi : i + 5 ≤ L) (hL : L ≤ 2560) (hvb : vb ≤ 100000) (hI : XI vb M1 st) (hM : MI M2 st) (hP : va_P (q_D w) vwCl (qws 0 (wA w a1) M1 ++ qws 1 (wA w a2) M2) H) (hD : va_D (lA s) (qws 0 (wA w a1) M1 ++ qws 1 (wA w a2) M2)) (hS : va_S (lA s) s.heap H locs) (hl : lv_has ls 4 [(3, .int (nI i)), (2, .ref (a2 0)), (1, .ref (a1 0)), (0, .ref b)])
    (kk : ∀ (vb2 : Nat) (st2 : sT) (N1 N2 : qMem) (H2 : Heap) (locs2 : List Loc), vb2 ≤ vb + 20 → XI vb2 N1 st2 → MI N2 st2 → va_P (q_D w) vwCl (qws 0 (wA w a1) N1 ++ qws 1 (wA w a2) N2) H2 → va_D (lA s) (qws 0 (wA w a1) N1 ++ qws 1 (wA w a2) N2) → va_S (lA s) s.heap H2 locs2 → W p (q_l w) e room_1 s m #[Value.ref b] below meth c H2 locs2 cells slots Q (F0 m 1101 ls [])) : W p (q_l w) e room_1 s m #[Value.ref b] below meth c H locs cells slots Q (F0 m 204 ls []) := by
  have hs := hI.ok
  have hbA : ¬ lA s b := Nat.not_le.mpr hbl
  refine lv_aload_n C1.1 C1.2.1 dL_law_204 rfl (lv_at hl 2 rfl) ?_
  refine G_callV (w := wA w a1) (g := 0) (wr := qws 1 (wA w a2) M2) (mc := mX7_fault) (As := []) (r := 0) (rest := []) C1 hP hD hS hl.1 dL_law_205 lm_RL_23 mv_X7_fault ⟨(Nat.le_of_ble_eq_true rfl), (Nat.le_of_ble_eq_true rfl)⟩ (by decide) rfl rfl rfl rfl (by decide) hcs (o_fault hI) ?_
  rintro _ N1 H locs ⟨rfl, hI2⟩ hP hD hS
  have hP := g_swap hP
  have hD := g_swapD hD
  refine lv_aload_n C1.1 C1.2.1 dL_law_208 rfl (lv_at hl 1 rfl) ?_
  refine G_callV (w := wA w a2) (g := 1) (wr := qws 0 (wA w a1) N1) (mc := mX8_fault) (As := []) (r := 0) (rest := [_]) C2 hP hD hS hl.1 dL_law_209 lm_RL_26 mv_X8_fault ⟨(Nat.le_of_ble_eq_true rfl), (Nat.le_of_ble_eq_true rfl)⟩ (by decide) rfl rfl rfl rfl (Nat.le_of_ble_eq_true rfl) hcs (p_fault hM hs) ?_
  rintro _ N2 H locs ⟨rfl, hM2⟩ hP hD hS
  have hP := g_swap hP
  have hD := g_swapD hD
  refine lv_icmp_eq (tgt := 1101) C1.1 C1.2.1 dL_law_212 (by decide) (fun _ => ?_) (fun z => absurd rfl z)
  exact kk _ _ _ _ H locs (by omega) hI2 (hM2) hP hD hS
set_option maxRecDepth 100000 in
set_option maxHeartbeats 8000000 in
theorem lc_3 {w : qWT} {a1 a2 : Nat → Nat} {p : Program} {e : Env} {s : State} {m : MethodId} {below : List Frame} {meth : Method} {c : Code} {b L : Nat} {xs : Nat → Int32} {Q : State → Prop} {cells slots : Nat} {i vb : Nat} {st : sT} {M1 M2 : qMem} {H : Heap} {locs : List Loc} {ls : Array Slot} (hcs : cells ≤ room_1.cells ∧ slots ≤ room_1.slots) (C1 : gCx (wA w a1) (lA s) RL cL_law 4 p s m #[Value.ref b] c) (C2 : gCx (wA w a2) (lA s) RL cL_law 4 p s m #[Value.ref b] c) (hX : va_X b L xs s s.heap) (hbl : b < s.heap.size) (hi : i + 5 ≤ L) (hL : L ≤ 2560) (hvb : vb ≤ 100000) (hI : XI vb M1 st) (hM : MI M2 st) (hP : va_P (q_D w) vwCl (qws 0 (wA w a1) M1 ++ qws 1 (wA w a2) M2) H) (hD : va_D (lA s) (qws 0 (wA w a1) M1 ++ qws 1 (wA w a2) M2)) (hS : va_S (lA s) s.heap H locs) (hl : lv_has ls 4 [(3, .int (nI i)), (2, .ref (a2 0)), (1, .ref (a1 0)), (0, .ref b)])
    (kk : ∀ (vb2 : Nat) (st2 : sT) (N1 N2 : qMem) (H2 : Heap) (locs2 : List Loc), vb2 ≤ vb + 20 → XI vb2 N1 st2 → MI N2 st2 → va_P (q_D w) vwCl (qws 0 (wA w a1) N1 ++ qws 1 (wA w a2) N2) H2 → va_D (lA s) (qws 0 (wA w a1) N1 ++ qws 1 (wA w a2) N2) → va_S (lA s) s.heap H2 locs2 → W p (q_l w) e room_1 s m #[Value.ref b] below meth c H2 locs2 cells slots Q (F0 m 1101 ls [])) : W p (q_l w) e room_1 s m #[Value.ref b] below meth c H locs cells slots Q (F0 m 217 ls []) := by
  have hs := hI.ok
  have hbA : ¬ lA s b := Nat.not_le.mpr hbl
  refine lv_aload_n C1.1 C1.2.1 dL_law_217 rfl (lv_at hl 2 rfl) ?_
  refine G_callV (w := wA w a1) (g := 0) (wr := qws 1 (wA w a2) M2) (mc := mX7_lay) (As := []) (r := 0) (rest := []) C1 hP hD hS hl.1 dL_law_218 lm_RL_27 mv_X7_lay ⟨(Nat.le_of_ble_eq_true rfl), (Nat.le_of_ble_eq_true rfl)⟩ (by decide) rfl rfl rfl rfl (by decide) hcs (o_lay hI (by omega)) ?_
  rintro _ N1 H locs ⟨rfl, hI2⟩ hP hD hS
  have hP := g_swap hP
  have hD := g_swapD hD
  refine lv_aload_n C1.1 C1.2.1 dL_law_221 rfl (lv_at hl 1 rfl) ?_
  refine G_callV (w := wA w a2) (g := 1) (wr := qws 0 (wA w a1) N1) (mc := mX8_lay) (As := []) (r := 0) (rest := [_]) C2 hP hD hS hl.1 dL_law_222 lm_RL_30 mv_X8_lay ⟨(Nat.le_of_ble_eq_true rfl), (Nat.le_of_ble_eq_true rfl)⟩ (by decide) rfl rfl rfl rfl (Nat.le_of_ble_eq_true rfl) hcs (p_lay hM hs) ?_
  rintro _ N2 H locs ⟨rfl, hM2⟩ hP hD hS
  have hP := g_swap hP
  have hD := g_swapD hD
  refine lv_icmp_eq (tgt := 1101) C1.1 C1.2.1 dL_law_225 (by decide) (fun _ => ?_) (fun z => absurd rfl z)
  exact kk _ _ _ _ H locs (by omega) hI2 (hM2) hP hD hS
set_option maxRecDepth 100000 in
set_option maxHeartbeats 8000000 in
theorem lc_4 {w : qWT} {a1 a2 : Nat → Nat} {p : Program} {e : Env} {s : State} {m : MethodId} {below : List Frame} {meth : Method} {c : Code} {b L : Nat} {xs : Nat → Int32} {Q : State → Prop} {cells slots : Nat} {i vb : Nat} {st : sT} {M1 M2 : qMem} {H : Heap} {locs : List Loc} {ls : Array Slot} (hcs : cells ≤ room_1.cells ∧ slots ≤ room_1.slots) (C1 : gCx (wA w a1) (lA s) RL cL_law 4 p s m #[Value.ref b] c) (C2 : gCx (wA w a2) (lA s) RL cL_law 4 p s m #[Value.ref b] c) (hX : va_X b L xs s s.heap) (hbl : b < s.heap.size) (hi : i + 5 ≤ L) (hL : L ≤ 2560) (hvb : vb ≤ 100000) (hI : XI vb M1 st) (hM : MI M2 st) (hP : va_P (q_D w) vwCl (qws 0 (wA w a1) M1 ++ qws 1 (wA w a2) M2) H) (hD : va_D (lA s) (qws 0 (wA w a1) M1 ++ qws 1 (wA w a2) M2)) (hS : va_S (lA s) s.heap H locs) (hl : lv_has ls 4 [(3, .int (nI i)), (2, .ref (a2 0)), (1, .ref (a1 0)), (0, .ref b)])
    (kk : ∀ (vb2 : Nat) (st2 : sT) (N1 N2 : qMem) (H2 : Heap) (locs2 : List Loc), vb2 ≤ vb + 20 → XI vb2 N1 st2 → MI N2 st2 → va_P (q_D w) vwCl (qws 0 (wA w a1) N1 ++ qws 1 (wA w a2) N2) H2 → va_D (lA s) (qws 0 (wA w a1) N1 ++ qws 1 (wA w a2) N2) → va_S (lA s) s.heap H2 locs2 → W p (q_l w) e room_1 s m #[Value.ref b] below meth c H2 locs2 cells slots Q (F0 m 1101 ls [])) : W p (q_l w) e room_1 s m #[Value.ref b] below meth c H locs cells slots Q (F0 m 230 ls []) := by
  have hs := hI.ok
  have hbA : ¬ lA s b := Nat.not_le.mpr hbl
  refine lv_aload_n C1.1 C1.2.1 dL_law_230 rfl (lv_at hl 2 rfl) ?_
  refine lv_aload_n C1.1 C1.2.1 dL_law_231 rfl (lv_at hl 3 rfl) ?_
  refine lv_iload_n C1.1 C1.2.1 dL_law_232 rfl (lv_at hl 0 rfl) ?_
  refine lv_iconst (v := nI 1) C1.1 C1.2.1 dL_law_233 rfl ?_
  refine lv_iadd C1.1 C1.2.1 dL_law_234 ?_
  rw [nI_add i 1]
  refine va_sld C1.1 C1.2.1 hX hbl hbA hS (vp_in_nI (show i + 1 < L by omega) (by omega)) dL_law_235 ?_
  refine lv_aload_n C1.1 C1.2.1 dL_law_236 rfl (lv_at hl 3 rfl) ?_
  refine lv_iload_n C1.1 C1.2.1 dL_law_237 rfl (lv_at hl 0 rfl) ?_
  refine lv_iconst (v := nI 2) C1.1 C1.2.1 dL_law_238 rfl ?_
  refine lv_iadd C1.1 C1.2.1 dL_law_239 ?_
  rw [nI_add i 2]
  refine va_sld C1.1 C1.2.1 hX hbl hbA hS (vp_in_nI (show i + 2 < L by omega) (by omega)) dL_law_240 ?_
  refine G_callV (w := wA w a1) (g := 0) (wr := qws 1 (wA w a2) M2) (mc := mX7_value) (As := [.int (xs (nI (i + 1)).toNatClampNeg), .int (xs (nI (i + 2)).toNatClampNeg)]) (r := 0) (rest := []) C1 hP hD hS hl.1 dL_law_241 lm_RL_31 mv_X7_value ⟨(Nat.le_of_ble_eq_true rfl), (Nat.le_of_ble_eq_true rfl)⟩ (by decide) rfl rfl rfl rfl (by decide) hcs (o_value hI) ?_
  rintro _ N1 H locs ⟨rfl, hI2⟩ hP hD hS
  have hP := g_swap hP
  have hD := g_swapD hD
  refine lv_aload_n C1.1 C1.2.1 dL_law_244 rfl (lv_at hl 1 rfl) ?_
  refine lv_aload_n C1.1 C1.2.1 dL_law_245 rfl (lv_at hl 3 rfl) ?_
  refine lv_iload_n C1.1 C1.2.1 dL_law_246 rfl (lv_at hl 0 rfl) ?_
  refine lv_iconst (v := nI 1) C1.1 C1.2.1 dL_law_247 rfl ?_
  refine lv_iadd C1.1 C1.2.1 dL_law_248 ?_
  rw [nI_add i 1]
  refine va_sld C1.1 C1.2.1 hX hbl hbA hS (vp_in_nI (show i + 1 < L by omega) (by omega)) dL_law_249 ?_
  refine lv_aload_n C1.1 C1.2.1 dL_law_250 rfl (lv_at hl 3 rfl) ?_
  refine lv_iload_n C1.1 C1.2.1 dL_law_251 rfl (lv_at hl 0 rfl) ?_
  refine lv_iconst (v := nI 2) C1.1 C1.2.1 dL_law_252 rfl ?_
  refine lv_iadd C1.1 C1.2.1 dL_law_253 ?_
  rw [nI_add i 2]
  refine va_sld C1.1 C1.2.1 hX hbl hbA hS (vp_in_nI (show i + 2 < L by omega) (by omega)) dL_law_254 ?_
  refine G_callV (w := wA w a2) (g := 1) (wr := qws 0 (wA w a1) N1) (mc := mX8_value) (As := [.int (xs (nI (i + 1)).toNatClampNeg), .int (xs (nI (i + 2)).toNatClampNeg)]) (r := 0) (rest := [_]) C2 hP hD hS hl.1 dL_law_255 lm_RL_35 mv_X8_value ⟨(Nat.le_of_ble_eq_true rfl), (Nat.le_of_ble_eq_true rfl)⟩ (by decide) rfl rfl rfl rfl (Nat.le_of_ble_eq_true rfl) hcs (n_value hM.1 hs.1 hs.2.1.2 hs.2.1.1) ?_
  rintro _ _ H locs ⟨rfl, rfl⟩ hP hD hS
  have hP := g_swap hP
  have hD := g_swapD hD
  refine lv_icmp_eq (tgt := 1101) C1.1 C1.2.1 dL_law_258 (by decide) (fun _ => ?_) (fun z => absurd rfl z)
  exact kk _ _ _ _ H locs (by omega) hI2 (hM) hP hD hS
set_option maxRecDepth 100000 in
set_option maxHeartbeats 8000000 in
theorem lc_5 {w : qWT} {a1 a2 : Nat → Nat} {p : Program} {e : Env} {s : State} {m : MethodId} {below : List Frame} {meth : Method} {c : Code} {b L : Nat} {xs : Nat → Int32} {Q : State → Prop} {cells slots : Nat} {i vb : Nat} {st : sT} {M1 M2 : qMem} {H : Heap} {locs : List Loc} {ls : Array Slot} (hcs : cells ≤ room_1.cells ∧ slots ≤ room_1.slots) (C1 : gCx (wA w a1) (lA s) RL cL_law 4 p s m #[Value.ref b] c) (C2 : gCx (wA w a2) (lA s) RL cL_law 4 p s m #[Value.ref b] c) (hX : va_X b L xs s s.heap) (hbl : b < s.heap.size) (hi : i + 5 ≤ L) (hL : L ≤ 2560) (hvb : vb ≤ 100000) (hI : XI vb M1 st) (hM : MI M2 st) (hP : va_P (q_D w) vwCl (qws 0 (wA w a1) M1 ++ qws 1 (wA w a2) M2) H) (hD : va_D (lA s) (qws 0 (wA w a1) M1 ++ qws 1 (wA w a2) M2)) (hS : va_S (lA s) s.heap H locs) (hl : lv_has ls 4 [(3, .int (nI i)), (2, .ref (a2 0)), (1, .ref (a1 0)), (0, .ref b)])
    (kk : ∀ (vb2 : Nat) (st2 : sT) (N1 N2 : qMem) (H2 : Heap) (locs2 : List Loc), vb2 ≤ vb + 20 → XI vb2 N1 st2 → MI N2 st2 → va_P (q_D w) vwCl (qws 0 (wA w a1) N1 ++ qws 1 (wA w a2) N2) H2 → va_D (lA s) (qws 0 (wA w a1) N1 ++ qws 1 (wA w a2) N2) → va_S (lA s) s.heap H2 locs2 → W p (q_l w) e room_1 s m #[Value.ref b] below meth c H2 locs2 cells slots Q (F0 m 1101 ls [])) : W p (q_l w) e room_1 s m #[Value.ref b] below meth c H locs cells slots Q (F0 m 263 ls []) := by
  have hs := hI.ok
  have hbA : ¬ lA s b := Nat.not_le.mpr hbl
  refine lv_aload_n C1.1 C1.2.1 dL_law_263 rfl (lv_at hl 2 rfl) ?_
  refine lv_aload_n C1.1 C1.2.1 dL_law_264 rfl (lv_at hl 3 rfl) ?_
  refine lv_iload_n C1.1 C1.2.1 dL_law_265 rfl (lv_at hl 0 rfl) ?_
  refine lv_iconst (v := nI 1) C1.1 C1.2.1 dL_law_266 rfl ?_
  refine lv_iadd C1.1 C1.2.1 dL_law_267 ?_
  rw [nI_add i 1]
  refine va_sld C1.1 C1.2.1 hX hbl hbA hS (vp_in_nI (show i + 1 < L by omega) (by omega)) dL_law_268 ?_
  refine lv_aload_n C1.1 C1.2.1 dL_law_269 rfl (lv_at hl 3 rfl) ?_
  refine lv_iload_n C1.1 C1.2.1 dL_law_270 rfl (lv_at hl 0 rfl) ?_
  refine lv_iconst (v := nI 2) C1.1 C1.2.1 dL_law_271 rfl ?_
  refine lv_iadd C1.1 C1.2.1 dL_law_272 ?_
  rw [nI_add i 2]
  refine va_sld C1.1 C1.2.1 hX hbl hbA hS (vp_in_nI (show i + 2 < L by omega) (by omega)) dL_law_273 ?_
  refine lv_aload_n C1.1 C1.2.1 dL_law_274 rfl (lv_at hl 3 rfl) ?_
  refine lv_iload_n C1.1 C1.2.1 dL_law_275 rfl (lv_at hl 0 rfl) ?_
  refine lv_iconst (v := nI 3) C1.1 C1.2.1 dL_law_276 rfl ?_
  refine lv_iadd C1.1 C1.2.1 dL_law_277 ?_
  rw [nI_add i 3]
  refine va_sld C1.1 C1.2.1 hX hbl hbA hS (vp_in_nI (show i + 3 < L by omega) (by omega)) dL_law_278 ?_
  refine G_callV (w := wA w a1) (g := 0) (wr := qws 1 (wA w a2) M2) (mc := mX7_set) (As := [.int (xs (nI (i + 1)).toNatClampNeg), .int (xs (nI (i + 2)).toNatClampNeg), .int (xs (nI (i + 3)).toNatClampNeg)]) (r := 0) (rest := []) C1 hP hD hS hl.1 dL_law_279 lm_RL_36 mv_X7_set ⟨(Nat.le_of_ble_eq_true rfl), (Nat.le_of_ble_eq_true rfl)⟩ (by decide) rfl rfl rfl rfl (by decide) hcs (o_set hI (by omega)) ?_
  rintro _ N1 H locs ⟨rfl, hI2⟩ hP hD hS
  have hP := g_swap hP
  have hD := g_swapD hD
  refine lv_aload_n C1.1 C1.2.1 dL_law_282 rfl (lv_at hl 1 rfl) ?_
  refine lv_aload_n C1.1 C1.2.1 dL_law_283 rfl (lv_at hl 3 rfl) ?_
  refine lv_iload_n C1.1 C1.2.1 dL_law_284 rfl (lv_at hl 0 rfl) ?_
  refine lv_iconst (v := nI 1) C1.1 C1.2.1 dL_law_285 rfl ?_
  refine lv_iadd C1.1 C1.2.1 dL_law_286 ?_
  rw [nI_add i 1]
  refine va_sld C1.1 C1.2.1 hX hbl hbA hS (vp_in_nI (show i + 1 < L by omega) (by omega)) dL_law_287 ?_
  refine lv_aload_n C1.1 C1.2.1 dL_law_288 rfl (lv_at hl 3 rfl) ?_
  refine lv_iload_n C1.1 C1.2.1 dL_law_289 rfl (lv_at hl 0 rfl) ?_
  refine lv_iconst (v := nI 2) C1.1 C1.2.1 dL_law_290 rfl ?_
  refine lv_iadd C1.1 C1.2.1 dL_law_291 ?_
  rw [nI_add i 2]
  refine va_sld C1.1 C1.2.1 hX hbl hbA hS (vp_in_nI (show i + 2 < L by omega) (by omega)) dL_law_292 ?_
  refine lv_aload_n C1.1 C1.2.1 dL_law_293 rfl (lv_at hl 3 rfl) ?_
  refine lv_iload_n C1.1 C1.2.1 dL_law_294 rfl (lv_at hl 0 rfl) ?_
  refine lv_iconst (v := nI 3) C1.1 C1.2.1 dL_law_295 rfl ?_
  refine lv_iadd C1.1 C1.2.1 dL_law_296 ?_
  rw [nI_add i 3]
  refine va_sld C1.1 C1.2.1 hX hbl hbA hS (vp_in_nI (show i + 3 < L by omega) (by omega)) dL_law_297 ?_
  refine G_callV (w := wA w a2) (g := 1) (wr := qws 0 (wA w a1) N1) (mc := mX8_set) (As := [.int (xs (nI (i + 1)).toNatClampNeg), .int (xs (nI (i + 2)).toNatClampNeg), .int (xs (nI (i + 3)).toNatClampNeg)]) (r := 0) (rest := [_]) C2 hP hD hS hl.1 dL_law_298 lm_RL_40 mv_X8_set ⟨(Nat.le_of_ble_eq_true rfl), (Nat.le_of_ble_eq_true rfl)⟩ (by decide) rfl rfl rfl rfl (Nat.le_of_ble_eq_true rfl) hcs (p_set hM hs) ?_
  rintro _ N2 H locs ⟨rfl, hM2⟩ hP hD hS
  have hP := g_swap hP
  have hD := g_swapD hD
  refine lv_icmp_eq (tgt := 1101) C1.1 C1.2.1 dL_law_301 (by decide) (fun _ => ?_) (fun z => absurd rfl z)
  exact kk _ _ _ _ H locs (by omega) hI2 (hM2) hP hD hS
set_option maxRecDepth 100000 in
set_option maxHeartbeats 8000000 in
theorem lc_6 {w : qWT} {a1 a2 : Nat → Nat} {p : Program} {e : Env} {s : State} {m : MethodId} {below : List Frame} {meth : Method} {c : Code} {b L : Nat} {xs : Nat → Int32} {Q : State → Prop} {cells slots : Nat} {i vb : Nat} {st : sT} {M1 M2 : qMem} {H : Heap} {locs : List Loc} {ls : Array Slot} (hcs : cells ≤ room_1.cells ∧ slots ≤ room_1.slots) (C1 : gCx (wA w a1) (lA s) RL cL_law 4 p s m #[Value.ref b] c) (C2 : gCx (wA w a2) (lA s) RL cL_law 4 p s m #[Value.ref b] c) (hX : va_X b L xs s s.heap) (hbl : b < s.heap.size) (hi : i + 5 ≤ L) (hL : L ≤ 2560) (hvb : vb ≤ 100000) (hI : XI vb M1 st) (hM : MI M2 st) (hP : va_P (q_D w) vwCl (qws 0 (wA w a1) M1 ++ qws 1 (wA w a2) M2) H) (hD : va_D (lA s) (qws 0 (wA w a1) M1 ++ qws 1 (wA w a2) M2)) (hS : va_S (lA s) s.heap H locs) (hl : lv_has ls 4 [(3, .int (nI i)), (2, .ref (a2 0)), (1, .ref (a1 0)), (0, .ref b)])
    (kk : ∀ (vb2 : Nat) (st2 : sT) (N1 N2 : qMem) (H2 : Heap) (locs2 : List Loc), vb2 ≤ vb + 20 → XI vb2 N1 st2 → MI N2 st2 → va_P (q_D w) vwCl (qws 0 (wA w a1) N1 ++ qws 1 (wA w a2) N2) H2 → va_D (lA s) (qws 0 (wA w a1) N1 ++ qws 1 (wA w a2) N2) → va_S (lA s) s.heap H2 locs2 → W p (q_l w) e room_1 s m #[Value.ref b] below meth c H2 locs2 cells slots Q (F0 m 1101 ls [])) : W p (q_l w) e room_1 s m #[Value.ref b] below meth c H locs cells slots Q (F0 m 306 ls []) := by
  have hs := hI.ok
  have hbA : ¬ lA s b := Nat.not_le.mpr hbl
  refine lv_aload_n C1.1 C1.2.1 dL_law_306 rfl (lv_at hl 2 rfl) ?_
  refine lv_aload_n C1.1 C1.2.1 dL_law_307 rfl (lv_at hl 3 rfl) ?_
  refine lv_iload_n C1.1 C1.2.1 dL_law_308 rfl (lv_at hl 0 rfl) ?_
  refine lv_iconst (v := nI 1) C1.1 C1.2.1 dL_law_309 rfl ?_
  refine lv_iadd C1.1 C1.2.1 dL_law_310 ?_
  rw [nI_add i 1]
  refine va_sld C1.1 C1.2.1 hX hbl hbA hS (vp_in_nI (show i + 1 < L by omega) (by omega)) dL_law_311 ?_
  refine lv_aload_n C1.1 C1.2.1 dL_law_312 rfl (lv_at hl 3 rfl) ?_
  refine lv_iload_n C1.1 C1.2.1 dL_law_313 rfl (lv_at hl 0 rfl) ?_
  refine lv_iconst (v := nI 2) C1.1 C1.2.1 dL_law_314 rfl ?_
  refine lv_iadd C1.1 C1.2.1 dL_law_315 ?_
  rw [nI_add i 2]
  refine va_sld C1.1 C1.2.1 hX hbl hbA hS (vp_in_nI (show i + 2 < L by omega) (by omega)) dL_law_316 ?_
  refine G_callV (w := wA w a1) (g := 0) (wr := qws 1 (wA w a2) M2) (mc := mX7_lose) (As := [.int (xs (nI (i + 1)).toNatClampNeg), .int (xs (nI (i + 2)).toNatClampNeg)]) (r := 0) (rest := []) C1 hP hD hS hl.1 dL_law_317 lm_RL_41 mv_X7_lose ⟨(Nat.le_of_ble_eq_true rfl), (Nat.le_of_ble_eq_true rfl)⟩ (by decide) rfl rfl rfl rfl (by decide) hcs (o_lose hI (by omega)) ?_
  rintro _ N1 H locs ⟨rfl, hI2⟩ hP hD hS
  have hP := g_swap hP
  have hD := g_swapD hD
  refine lv_aload_n C1.1 C1.2.1 dL_law_320 rfl (lv_at hl 1 rfl) ?_
  refine lv_aload_n C1.1 C1.2.1 dL_law_321 rfl (lv_at hl 3 rfl) ?_
  refine lv_iload_n C1.1 C1.2.1 dL_law_322 rfl (lv_at hl 0 rfl) ?_
  refine lv_iconst (v := nI 1) C1.1 C1.2.1 dL_law_323 rfl ?_
  refine lv_iadd C1.1 C1.2.1 dL_law_324 ?_
  rw [nI_add i 1]
  refine va_sld C1.1 C1.2.1 hX hbl hbA hS (vp_in_nI (show i + 1 < L by omega) (by omega)) dL_law_325 ?_
  refine lv_aload_n C1.1 C1.2.1 dL_law_326 rfl (lv_at hl 3 rfl) ?_
  refine lv_iload_n C1.1 C1.2.1 dL_law_327 rfl (lv_at hl 0 rfl) ?_
  refine lv_iconst (v := nI 2) C1.1 C1.2.1 dL_law_328 rfl ?_
  refine lv_iadd C1.1 C1.2.1 dL_law_329 ?_
  rw [nI_add i 2]
  refine va_sld C1.1 C1.2.1 hX hbl hbA hS (vp_in_nI (show i + 2 < L by omega) (by omega)) dL_law_330 ?_
  refine G_callV (w := wA w a2) (g := 1) (wr := qws 0 (wA w a1) N1) (mc := mX8_lose) (As := [.int (xs (nI (i + 1)).toNatClampNeg), .int (xs (nI (i + 2)).toNatClampNeg)]) (r := 0) (rest := [_]) C2 hP hD hS hl.1 dL_law_331 lm_RL_44 mv_X8_lose ⟨(Nat.le_of_ble_eq_true rfl), (Nat.le_of_ble_eq_true rfl)⟩ (by decide) rfl rfl rfl rfl (Nat.le_of_ble_eq_true rfl) hcs (p_lose hM hs) ?_
  rintro _ N2 H locs ⟨rfl, hM2⟩ hP hD hS
  have hP := g_swap hP
  have hD := g_swapD hD
  refine lv_icmp_eq (tgt := 1101) C1.1 C1.2.1 dL_law_334 (by decide) (fun _ => ?_) (fun z => absurd rfl z)
  exact kk _ _ _ _ H locs (by omega) hI2 (hM2) hP hD hS
set_option maxRecDepth 100000 in
set_option maxHeartbeats 8000000 in
theorem lc_7 {w : qWT} {a1 a2 : Nat → Nat} {p : Program} {e : Env} {s : State} {m : MethodId} {below : List Frame} {meth : Method} {c : Code} {b L : Nat} {xs : Nat → Int32} {Q : State → Prop} {cells slots : Nat} {i vb : Nat} {st : sT} {M1 M2 : qMem} {H : Heap} {locs : List Loc} {ls : Array Slot} (hcs : cells ≤ room_1.cells ∧ slots ≤ room_1.slots) (C1 : gCx (wA w a1) (lA s) RL cL_law 4 p s m #[Value.ref b] c) (C2 : gCx (wA w a2) (lA s) RL cL_law 4 p s m #[Value.ref b] c) (hX : va_X b L xs s s.heap) (hbl : b < s.heap.size) (hi : i + 5 ≤ L) (hL : L ≤ 2560) (hvb : vb ≤ 100000) (hI : XI vb M1 st) (hM : MI M2 st) (hP : va_P (q_D w) vwCl (qws 0 (wA w a1) M1 ++ qws 1 (wA w a2) M2) H) (hD : va_D (lA s) (qws 0 (wA w a1) M1 ++ qws 1 (wA w a2) M2)) (hS : va_S (lA s) s.heap H locs) (hl : lv_has ls 4 [(3, .int (nI i)), (2, .ref (a2 0)), (1, .ref (a1 0)), (0, .ref b)])
    (kk : ∀ (vb2 : Nat) (st2 : sT) (N1 N2 : qMem) (H2 : Heap) (locs2 : List Loc), vb2 ≤ vb + 20 → XI vb2 N1 st2 → MI N2 st2 → va_P (q_D w) vwCl (qws 0 (wA w a1) N1 ++ qws 1 (wA w a2) N2) H2 → va_D (lA s) (qws 0 (wA w a1) N1 ++ qws 1 (wA w a2) N2) → va_S (lA s) s.heap H2 locs2 → W p (q_l w) e room_1 s m #[Value.ref b] below meth c H2 locs2 cells slots Q (F0 m 1101 ls [])) : W p (q_l w) e room_1 s m #[Value.ref b] below meth c H locs cells slots Q (F0 m 339 ls []) := by
  have hs := hI.ok
  have hbA : ¬ lA s b := Nat.not_le.mpr hbl
  refine lv_aload_n C1.1 C1.2.1 dL_law_339 rfl (lv_at hl 2 rfl) ?_
  refine lv_aload_n C1.1 C1.2.1 dL_law_340 rfl (lv_at hl 3 rfl) ?_
  refine lv_iload_n C1.1 C1.2.1 dL_law_341 rfl (lv_at hl 0 rfl) ?_
  refine lv_iconst (v := nI 1) C1.1 C1.2.1 dL_law_342 rfl ?_
  refine lv_iadd C1.1 C1.2.1 dL_law_343 ?_
  rw [nI_add i 1]
  refine va_sld C1.1 C1.2.1 hX hbl hbA hS (vp_in_nI (show i + 1 < L by omega) (by omega)) dL_law_344 ?_
  refine G_callV (w := wA w a1) (g := 0) (wr := qws 1 (wA w a2) M2) (mc := mX7_penalty) (As := [.int (xs (nI (i + 1)).toNatClampNeg)]) (r := 0) (rest := []) C1 hP hD hS hl.1 dL_law_345 lm_RL_45 mv_X7_penalty ⟨(Nat.le_of_ble_eq_true rfl), (Nat.le_of_ble_eq_true rfl)⟩ (by decide) rfl rfl rfl rfl (by decide) hcs (o_penalty hI (by omega)) ?_
  rintro _ N1 H locs ⟨rfl, hI2⟩ hP hD hS
  have hP := g_swap hP
  have hD := g_swapD hD
  refine lv_aload_n C1.1 C1.2.1 dL_law_348 rfl (lv_at hl 1 rfl) ?_
  refine lv_aload_n C1.1 C1.2.1 dL_law_349 rfl (lv_at hl 3 rfl) ?_
  refine lv_iload_n C1.1 C1.2.1 dL_law_350 rfl (lv_at hl 0 rfl) ?_
  refine lv_iconst (v := nI 1) C1.1 C1.2.1 dL_law_351 rfl ?_
  refine lv_iadd C1.1 C1.2.1 dL_law_352 ?_
  rw [nI_add i 1]
  refine va_sld C1.1 C1.2.1 hX hbl hbA hS (vp_in_nI (show i + 1 < L by omega) (by omega)) dL_law_353 ?_
  refine G_callV (w := wA w a2) (g := 1) (wr := qws 0 (wA w a1) N1) (mc := mX8_penalty) (As := [.int (xs (nI (i + 1)).toNatClampNeg)]) (r := 0) (rest := [_]) C2 hP hD hS hl.1 dL_law_354 lm_RL_48 mv_X8_penalty ⟨(Nat.le_of_ble_eq_true rfl), (Nat.le_of_ble_eq_true rfl)⟩ (by decide) rfl rfl rfl rfl (Nat.le_of_ble_eq_true rfl) hcs (p_penalty hM hs) ?_
  rintro _ N2 H locs ⟨rfl, hM2⟩ hP hD hS
  have hP := g_swap hP
  have hD := g_swapD hD
  refine lv_icmp_eq (tgt := 1101) C1.1 C1.2.1 dL_law_357 (by decide) (fun _ => ?_) (fun z => absurd rfl z)
  exact kk _ _ _ _ H locs (by omega) hI2 (hM2) hP hD hS
set_option maxRecDepth 100000 in
set_option maxHeartbeats 8000000 in
theorem lc_8 {w : qWT} {a1 a2 : Nat → Nat} {p : Program} {e : Env} {s : State} {m : MethodId} {below : List Frame} {meth : Method} {c : Code} {b L : Nat} {xs : Nat → Int32} {Q : State → Prop} {cells slots : Nat} {i vb : Nat} {st : sT} {M1 M2 : qMem} {H : Heap} {locs : List Loc} {ls : Array Slot} (hcs : cells ≤ room_1.cells ∧ slots ≤ room_1.slots) (C1 : gCx (wA w a1) (lA s) RL cL_law 4 p s m #[Value.ref b] c) (C2 : gCx (wA w a2) (lA s) RL cL_law 4 p s m #[Value.ref b] c) (hX : va_X b L xs s s.heap) (hbl : b < s.heap.size) (hi : i + 5 ≤ L) (hL : L ≤ 2560) (hvb : vb ≤ 100000) (hI : XI vb M1 st) (hM : MI M2 st) (hP : va_P (q_D w) vwCl (qws 0 (wA w a1) M1 ++ qws 1 (wA w a2) M2) H) (hD : va_D (lA s) (qws 0 (wA w a1) M1 ++ qws 1 (wA w a2) M2)) (hS : va_S (lA s) s.heap H locs) (hl : lv_has ls 4 [(3, .int (nI i)), (2, .ref (a2 0)), (1, .ref (a1 0)), (0, .ref b)])
    (kk : ∀ (vb2 : Nat) (st2 : sT) (N1 N2 : qMem) (H2 : Heap) (locs2 : List Loc), vb2 ≤ vb + 20 → XI vb2 N1 st2 → MI N2 st2 → va_P (q_D w) vwCl (qws 0 (wA w a1) N1 ++ qws 1 (wA w a2) N2) H2 → va_D (lA s) (qws 0 (wA w a1) N1 ++ qws 1 (wA w a2) N2) → va_S (lA s) s.heap H2 locs2 → W p (q_l w) e room_1 s m #[Value.ref b] below meth c H2 locs2 cells slots Q (F0 m 1101 ls [])) : W p (q_l w) e room_1 s m #[Value.ref b] below meth c H locs cells slots Q (F0 m 362 ls []) := by
  have hs := hI.ok
  have hbA : ¬ lA s b := Nat.not_le.mpr hbl
  refine lv_aload_n C1.1 C1.2.1 dL_law_362 rfl (lv_at hl 2 rfl) ?_
  refine lv_aload_n C1.1 C1.2.1 dL_law_363 rfl (lv_at hl 3 rfl) ?_
  refine lv_iload_n C1.1 C1.2.1 dL_law_364 rfl (lv_at hl 0 rfl) ?_
  refine lv_iconst (v := nI 1) C1.1 C1.2.1 dL_law_365 rfl ?_
  refine lv_iadd C1.1 C1.2.1 dL_law_366 ?_
  rw [nI_add i 1]
  refine va_sld C1.1 C1.2.1 hX hbl hbA hS (vp_in_nI (show i + 1 < L by omega) (by omega)) dL_law_367 ?_
  refine lv_aload_n C1.1 C1.2.1 dL_law_368 rfl (lv_at hl 3 rfl) ?_
  refine lv_iload_n C1.1 C1.2.1 dL_law_369 rfl (lv_at hl 0 rfl) ?_
  refine lv_iconst (v := nI 2) C1.1 C1.2.1 dL_law_370 rfl ?_
  refine lv_iadd C1.1 C1.2.1 dL_law_371 ?_
  rw [nI_add i 2]
  refine va_sld C1.1 C1.2.1 hX hbl hbA hS (vp_in_nI (show i + 2 < L by omega) (by omega)) dL_law_372 ?_
  refine G_callV (w := wA w a1) (g := 0) (wr := qws 1 (wA w a2) M2) (mc := mX7_rule) (As := [.int (xs (nI (i + 1)).toNatClampNeg), .int (xs (nI (i + 2)).toNatClampNeg)]) (r := 0) (rest := []) C1 hP hD hS hl.1 dL_law_373 lm_RL_49 mv_X7_rule ⟨(Nat.le_of_ble_eq_true rfl), (Nat.le_of_ble_eq_true rfl)⟩ (by decide) rfl rfl rfl rfl (by decide) hcs (o_rule hI (by omega)) ?_
  rintro _ N1 H locs ⟨rfl, hI2⟩ hP hD hS
  have hP := g_swap hP
  have hD := g_swapD hD
  refine lv_aload_n C1.1 C1.2.1 dL_law_376 rfl (lv_at hl 1 rfl) ?_
  refine lv_aload_n C1.1 C1.2.1 dL_law_377 rfl (lv_at hl 3 rfl) ?_
  refine lv_iload_n C1.1 C1.2.1 dL_law_378 rfl (lv_at hl 0 rfl) ?_
  refine lv_iconst (v := nI 1) C1.1 C1.2.1 dL_law_379 rfl ?_
  refine lv_iadd C1.1 C1.2.1 dL_law_380 ?_
  rw [nI_add i 1]
  refine va_sld C1.1 C1.2.1 hX hbl hbA hS (vp_in_nI (show i + 1 < L by omega) (by omega)) dL_law_381 ?_
  refine lv_aload_n C1.1 C1.2.1 dL_law_382 rfl (lv_at hl 3 rfl) ?_
  refine lv_iload_n C1.1 C1.2.1 dL_law_383 rfl (lv_at hl 0 rfl) ?_
  refine lv_iconst (v := nI 2) C1.1 C1.2.1 dL_law_384 rfl ?_
  refine lv_iadd C1.1 C1.2.1 dL_law_385 ?_
  rw [nI_add i 2]
  refine va_sld C1.1 C1.2.1 hX hbl hbA hS (vp_in_nI (show i + 2 < L by omega) (by omega)) dL_law_386 ?_
  refine G_callV (w := wA w a2) (g := 1) (wr := qws 0 (wA w a1) N1) (mc := mX8_rule) (As := [.int (xs (nI (i + 1)).toNatClampNeg), .int (xs (nI (i + 2)).toNatClampNeg)]) (r := 0) (rest := [_]) C2 hP hD hS hl.1 dL_law_387 lm_RL_52 mv_X8_rule ⟨(Nat.le_of_ble_eq_true rfl), (Nat.le_of_ble_eq_true rfl)⟩ (by decide) rfl rfl rfl rfl (Nat.le_of_ble_eq_true rfl) hcs (p_rule hM hs) ?_
  rintro _ N2 H locs ⟨rfl, hM2⟩ hP hD hS
  have hP := g_swap hP
  have hD := g_swapD hD
  refine lv_icmp_eq (tgt := 1101) C1.1 C1.2.1 dL_law_390 (by decide) (fun _ => ?_) (fun z => absurd rfl z)
  exact kk _ _ _ _ H locs (by omega) hI2 (hM2) hP hD hS
set_option maxRecDepth 100000 in
set_option maxHeartbeats 8000000 in
theorem lc_9 {w : qWT} {a1 a2 : Nat → Nat} {p : Program} {e : Env} {s : State} {m : MethodId} {below : List Frame} {meth : Method} {c : Code} {b L : Nat} {xs : Nat → Int32} {Q : State → Prop} {cells slots : Nat} {i vb : Nat} {st : sT} {M1 M2 : qMem} {H : Heap} {locs : List Loc} {ls : Array Slot} (hcs : cells ≤ room_1.cells ∧ slots ≤ room_1.slots) (C1 : gCx (wA w a1) (lA s) RL cL_law 4 p s m #[Value.ref b] c) (C2 : gCx (wA w a2) (lA s) RL cL_law 4 p s m #[Value.ref b] c) (hX : va_X b L xs s s.heap) (hbl : b < s.heap.size) (hi : i + 5 ≤ L) (hL : L ≤ 2560) (hvb : vb ≤ 100000) (hI : XI vb M1 st) (hM : MI M2 st) (hP : va_P (q_D w) vwCl (qws 0 (wA w a1) M1 ++ qws 1 (wA w a2) M2) H) (hD : va_D (lA s) (qws 0 (wA w a1) M1 ++ qws 1 (wA w a2) M2)) (hS : va_S (lA s) s.heap H locs) (hl : lv_has ls 4 [(3, .int (nI i)), (2, .ref (a2 0)), (1, .ref (a1 0)), (0, .ref b)])
    (kk : ∀ (vb2 : Nat) (st2 : sT) (N1 N2 : qMem) (H2 : Heap) (locs2 : List Loc), vb2 ≤ vb + 20 → XI vb2 N1 st2 → MI N2 st2 → va_P (q_D w) vwCl (qws 0 (wA w a1) N1 ++ qws 1 (wA w a2) N2) H2 → va_D (lA s) (qws 0 (wA w a1) N1 ++ qws 1 (wA w a2) N2) → va_S (lA s) s.heap H2 locs2 → W p (q_l w) e room_1 s m #[Value.ref b] below meth c H2 locs2 cells slots Q (F0 m 1101 ls [])) : W p (q_l w) e room_1 s m #[Value.ref b] below meth c H locs cells slots Q (F0 m 395 ls []) := by
  have hs := hI.ok
  have hbA : ¬ lA s b := Nat.not_le.mpr hbl
  refine lv_aload_n C1.1 C1.2.1 dL_law_395 rfl (lv_at hl 2 rfl) ?_
  refine G_callV (w := wA w a1) (g := 0) (wr := qws 1 (wA w a2) M2) (mc := mX7_undo) (As := []) (r := 0) (rest := []) C1 hP hD hS hl.1 dL_law_396 lm_RL_53 mv_X7_undo ⟨(Nat.le_of_ble_eq_true rfl), (Nat.le_of_ble_eq_true rfl)⟩ (by decide) rfl rfl rfl rfl (by decide) hcs (o_undo hI (by omega)) ?_
  rintro _ N1 H locs ⟨rfl, hI2⟩ hP hD hS
  have hP := g_swap hP
  have hD := g_swapD hD
  refine lv_aload_n C1.1 C1.2.1 dL_law_399 rfl (lv_at hl 1 rfl) ?_
  refine G_callV (w := wA w a2) (g := 1) (wr := qws 0 (wA w a1) N1) (mc := mX8_undo) (As := []) (r := 0) (rest := [_]) C2 hP hD hS hl.1 dL_law_400 lm_RL_56 mv_X8_undo ⟨(Nat.le_of_ble_eq_true rfl), (Nat.le_of_ble_eq_true rfl)⟩ (by decide) rfl rfl rfl rfl (Nat.le_of_ble_eq_true rfl) hcs (p_undo hM hs) ?_
  rintro _ N2 H locs ⟨rfl, hM2⟩ hP hD hS
  have hP := g_swap hP
  have hD := g_swapD hD
  refine lv_icmp_eq (tgt := 1101) C1.1 C1.2.1 dL_law_403 (by decide) (fun _ => ?_) (fun z => absurd rfl z)
  exact kk _ _ _ _ H locs (by omega) hI2 (hM2) hP hD hS
set_option maxRecDepth 100000 in
set_option maxHeartbeats 8000000 in
theorem lc_10 {w : qWT} {a1 a2 : Nat → Nat} {p : Program} {e : Env} {s : State} {m : MethodId} {below : List Frame} {meth : Method} {c : Code} {b L : Nat} {xs : Nat → Int32} {Q : State → Prop} {cells slots : Nat} {i vb : Nat} {st : sT} {M1 M2 : qMem} {H : Heap} {locs : List Loc} {ls : Array Slot} (hcs : cells ≤ room_1.cells ∧ slots ≤ room_1.slots) (C1 : gCx (wA w a1) (lA s) RL cL_law 4 p s m #[Value.ref b] c) (C2 : gCx (wA w a2) (lA s) RL cL_law 4 p s m #[Value.ref b] c) (hX : va_X b L xs s s.heap) (hbl : b < s.heap.size) (hi : i + 5 ≤ L) (hL : L ≤ 2560) (hvb : vb ≤ 100000) (hI : XI vb M1 st) (hM : MI M2 st) (hP : va_P (q_D w) vwCl (qws 0 (wA w a1) M1 ++ qws 1 (wA w a2) M2) H) (hD : va_D (lA s) (qws 0 (wA w a1) M1 ++ qws 1 (wA w a2) M2)) (hS : va_S (lA s) s.heap H locs) (hl : lv_has ls 4 [(3, .int (nI i)), (2, .ref (a2 0)), (1, .ref (a1 0)), (0, .ref b)])
    (kk : ∀ (vb2 : Nat) (st2 : sT) (N1 N2 : qMem) (H2 : Heap) (locs2 : List Loc), vb2 ≤ vb + 20 → XI vb2 N1 st2 → MI N2 st2 → va_P (q_D w) vwCl (qws 0 (wA w a1) N1 ++ qws 1 (wA w a2) N2) H2 → va_D (lA s) (qws 0 (wA w a1) N1 ++ qws 1 (wA w a2) N2) → va_S (lA s) s.heap H2 locs2 → W p (q_l w) e room_1 s m #[Value.ref b] below meth c H2 locs2 cells slots Q (F0 m 1101 ls [])) : W p (q_l w) e room_1 s m #[Value.ref b] below meth c H locs cells slots Q (F0 m 408 ls []) := by
  have hs := hI.ok
  have hbA : ¬ lA s b := Nat.not_le.mpr hbl
  refine lv_aload_n C1.1 C1.2.1 dL_law_408 rfl (lv_at hl 2 rfl) ?_
  refine lv_aload_n C1.1 C1.2.1 dL_law_409 rfl (lv_at hl 3 rfl) ?_
  refine lv_iload_n C1.1 C1.2.1 dL_law_410 rfl (lv_at hl 0 rfl) ?_
  refine lv_iconst (v := nI 1) C1.1 C1.2.1 dL_law_411 rfl ?_
  refine lv_iadd C1.1 C1.2.1 dL_law_412 ?_
  rw [nI_add i 1]
  refine va_sld C1.1 C1.2.1 hX hbl hbA hS (vp_in_nI (show i + 1 < L by omega) (by omega)) dL_law_413 ?_
  refine lv_aload_n C1.1 C1.2.1 dL_law_414 rfl (lv_at hl 3 rfl) ?_
  refine lv_iload_n C1.1 C1.2.1 dL_law_415 rfl (lv_at hl 0 rfl) ?_
  refine lv_iconst (v := nI 2) C1.1 C1.2.1 dL_law_416 rfl ?_
  refine lv_iadd C1.1 C1.2.1 dL_law_417 ?_
  rw [nI_add i 2]
  refine va_sld C1.1 C1.2.1 hX hbl hbA hS (vp_in_nI (show i + 2 < L by omega) (by omega)) dL_law_418 ?_
  refine G_callV (w := wA w a1) (g := 0) (wr := qws 1 (wA w a2) M2) (mc := mX7_day) (As := [.int (xs (nI (i + 1)).toNatClampNeg), .int (xs (nI (i + 2)).toNatClampNeg)]) (r := 0) (rest := []) C1 hP hD hS hl.1 dL_law_419 lm_RL_57 mv_X7_day ⟨(Nat.le_of_ble_eq_true rfl), (Nat.le_of_ble_eq_true rfl)⟩ (by decide) rfl rfl rfl rfl (by decide) hcs (o_day hI (by omega)) ?_
  rintro _ N1 H locs ⟨rfl, hI2⟩ hP hD hS
  have hP := g_swap hP
  have hD := g_swapD hD
  refine lv_aload_n C1.1 C1.2.1 dL_law_422 rfl (lv_at hl 1 rfl) ?_
  refine lv_aload_n C1.1 C1.2.1 dL_law_423 rfl (lv_at hl 3 rfl) ?_
  refine lv_iload_n C1.1 C1.2.1 dL_law_424 rfl (lv_at hl 0 rfl) ?_
  refine lv_iconst (v := nI 1) C1.1 C1.2.1 dL_law_425 rfl ?_
  refine lv_iadd C1.1 C1.2.1 dL_law_426 ?_
  rw [nI_add i 1]
  refine va_sld C1.1 C1.2.1 hX hbl hbA hS (vp_in_nI (show i + 1 < L by omega) (by omega)) dL_law_427 ?_
  refine lv_aload_n C1.1 C1.2.1 dL_law_428 rfl (lv_at hl 3 rfl) ?_
  refine lv_iload_n C1.1 C1.2.1 dL_law_429 rfl (lv_at hl 0 rfl) ?_
  refine lv_iconst (v := nI 2) C1.1 C1.2.1 dL_law_430 rfl ?_
  refine lv_iadd C1.1 C1.2.1 dL_law_431 ?_
  rw [nI_add i 2]
  refine va_sld C1.1 C1.2.1 hX hbl hbA hS (vp_in_nI (show i + 2 < L by omega) (by omega)) dL_law_432 ?_
  refine G_callV (w := wA w a2) (g := 1) (wr := qws 0 (wA w a1) N1) (mc := mX8_day) (As := [.int (xs (nI (i + 1)).toNatClampNeg), .int (xs (nI (i + 2)).toNatClampNeg)]) (r := 0) (rest := [_]) C2 hP hD hS hl.1 dL_law_433 lm_RL_60 mv_X8_day ⟨(Nat.le_of_ble_eq_true rfl), (Nat.le_of_ble_eq_true rfl)⟩ (by decide) rfl rfl rfl rfl (Nat.le_of_ble_eq_true rfl) hcs (p_day hM hs) ?_
  rintro _ N2 H locs ⟨rfl, hM2⟩ hP hD hS
  have hP := g_swap hP
  have hD := g_swapD hD
  refine lv_icmp_eq (tgt := 1101) C1.1 C1.2.1 dL_law_436 (by decide) (fun _ => ?_) (fun z => absurd rfl z)
  exact kk _ _ _ _ H locs (by omega) hI2 (hM2) hP hD hS
set_option maxRecDepth 100000 in
set_option maxHeartbeats 8000000 in
theorem lc_11 {w : qWT} {a1 a2 : Nat → Nat} {p : Program} {e : Env} {s : State} {m : MethodId} {below : List Frame} {meth : Method} {c : Code} {b L : Nat} {xs : Nat → Int32} {Q : State → Prop} {cells slots : Nat} {i vb : Nat} {st : sT} {M1 M2 : qMem} {H : Heap} {locs : List Loc} {ls : Array Slot} (hcs : cells ≤ room_1.cells ∧ slots ≤ room_1.slots) (C1 : gCx (wA w a1) (lA s) RL cL_law 4 p s m #[Value.ref b] c) (C2 : gCx (wA w a2) (lA s) RL cL_law 4 p s m #[Value.ref b] c) (hX : va_X b L xs s s.heap) (hbl : b < s.heap.size) (hi : i + 5 ≤ L) (hL : L ≤ 2560) (hvb : vb ≤ 100000) (hI : XI vb M1 st) (hM : MI M2 st) (hP : va_P (q_D w) vwCl (qws 0 (wA w a1) M1 ++ qws 1 (wA w a2) M2) H) (hD : va_D (lA s) (qws 0 (wA w a1) M1 ++ qws 1 (wA w a2) M2)) (hS : va_S (lA s) s.heap H locs) (hl : lv_has ls 4 [(3, .int (nI i)), (2, .ref (a2 0)), (1, .ref (a1 0)), (0, .ref b)])
    (kk : ∀ (vb2 : Nat) (st2 : sT) (N1 N2 : qMem) (H2 : Heap) (locs2 : List Loc), vb2 ≤ vb + 20 → XI vb2 N1 st2 → MI N2 st2 → va_P (q_D w) vwCl (qws 0 (wA w a1) N1 ++ qws 1 (wA w a2) N2) H2 → va_D (lA s) (qws 0 (wA w a1) N1 ++ qws 1 (wA w a2) N2) → va_S (lA s) s.heap H2 locs2 → W p (q_l w) e room_1 s m #[Value.ref b] below meth c H2 locs2 cells slots Q (F0 m 1101 ls [])) : W p (q_l w) e room_1 s m #[Value.ref b] below meth c H locs cells slots Q (F0 m 441 ls []) := by
  have hs := hI.ok
  have hbA : ¬ lA s b := Nat.not_le.mpr hbl
  refine lv_aload_n C1.1 C1.2.1 dL_law_441 rfl (lv_at hl 2 rfl) ?_
  refine lv_aload_n C1.1 C1.2.1 dL_law_442 rfl (lv_at hl 3 rfl) ?_
  refine lv_iload_n C1.1 C1.2.1 dL_law_443 rfl (lv_at hl 0 rfl) ?_
  refine lv_iconst (v := nI 1) C1.1 C1.2.1 dL_law_444 rfl ?_
  refine lv_iadd C1.1 C1.2.1 dL_law_445 ?_
  rw [nI_add i 1]
  refine va_sld C1.1 C1.2.1 hX hbl hbA hS (vp_in_nI (show i + 1 < L by omega) (by omega)) dL_law_446 ?_
  refine lv_aload_n C1.1 C1.2.1 dL_law_447 rfl (lv_at hl 3 rfl) ?_
  refine lv_iload_n C1.1 C1.2.1 dL_law_448 rfl (lv_at hl 0 rfl) ?_
  refine lv_iconst (v := nI 2) C1.1 C1.2.1 dL_law_449 rfl ?_
  refine lv_iadd C1.1 C1.2.1 dL_law_450 ?_
  rw [nI_add i 2]
  refine va_sld C1.1 C1.2.1 hX hbl hbA hS (vp_in_nI (show i + 2 < L by omega) (by omega)) dL_law_451 ?_
  refine G_callV (w := wA w a1) (g := 0) (wr := qws 1 (wA w a2) M2) (mc := mX7_nearest) (As := [.int (xs (nI (i + 1)).toNatClampNeg), .int (xs (nI (i + 2)).toNatClampNeg)]) (r := 0) (rest := []) C1 hP hD hS hl.1 dL_law_452 lm_RL_61 mv_X7_nearest ⟨(Nat.le_of_ble_eq_true rfl), (Nat.le_of_ble_eq_true rfl)⟩ (by decide) rfl rfl rfl rfl (by decide) hcs (o_nearest hI) ?_
  rintro _ N1 H locs ⟨rfl, hI2⟩ hP hD hS
  have hP := g_swap hP
  have hD := g_swapD hD
  refine lv_aload_n C1.1 C1.2.1 dL_law_455 rfl (lv_at hl 1 rfl) ?_
  refine lv_aload_n C1.1 C1.2.1 dL_law_456 rfl (lv_at hl 3 rfl) ?_
  refine lv_iload_n C1.1 C1.2.1 dL_law_457 rfl (lv_at hl 0 rfl) ?_
  refine lv_iconst (v := nI 1) C1.1 C1.2.1 dL_law_458 rfl ?_
  refine lv_iadd C1.1 C1.2.1 dL_law_459 ?_
  rw [nI_add i 1]
  refine va_sld C1.1 C1.2.1 hX hbl hbA hS (vp_in_nI (show i + 1 < L by omega) (by omega)) dL_law_460 ?_
  refine lv_aload_n C1.1 C1.2.1 dL_law_461 rfl (lv_at hl 3 rfl) ?_
  refine lv_iload_n C1.1 C1.2.1 dL_law_462 rfl (lv_at hl 0 rfl) ?_
  refine lv_iconst (v := nI 2) C1.1 C1.2.1 dL_law_463 rfl ?_
  refine lv_iadd C1.1 C1.2.1 dL_law_464 ?_
  rw [nI_add i 2]
  refine va_sld C1.1 C1.2.1 hX hbl hbA hS (vp_in_nI (show i + 2 < L by omega) (by omega)) dL_law_465 ?_
  refine G_callV (w := wA w a2) (g := 1) (wr := qws 0 (wA w a1) N1) (mc := mX8_nearest) (As := [.int (xs (nI (i + 1)).toNatClampNeg), .int (xs (nI (i + 2)).toNatClampNeg)]) (r := 0) (rest := [_]) C2 hP hD hS hl.1 dL_law_466 lm_RL_64 mv_X8_nearest ⟨(Nat.le_of_ble_eq_true rfl), (Nat.le_of_ble_eq_true rfl)⟩ (by decide) rfl rfl rfl rfl (Nat.le_of_ble_eq_true rfl) hcs (n_nearest hM.1 hs.1 hs.2.1.2 hs.2.1.1) ?_
  rintro _ _ H locs ⟨rfl, rfl⟩ hP hD hS
  have hP := g_swap hP
  have hD := g_swapD hD
  refine lv_icmp_eq (tgt := 1101) C1.1 C1.2.1 dL_law_469 (by decide) (fun _ => ?_) (fun z => absurd rfl z)
  exact kk _ _ _ _ H locs (by omega) hI2 (hM) hP hD hS
set_option maxRecDepth 100000 in
set_option maxHeartbeats 8000000 in
theorem lc_12 {w : qWT} {a1 a2 : Nat → Nat} {p : Program} {e : Env} {s : State} {m : MethodId} {below : List Frame} {meth : Method} {c : Code} {b L : Nat} {xs : Nat → Int32} {Q : State → Prop} {cells slots : Nat} {i vb : Nat} {st : sT} {M1 M2 : qMem} {H : Heap} {locs : List Loc} {ls : Array Slot} (hcs : cells ≤ room_1.cells ∧ slots ≤ room_1.slots) (C1 : gCx (wA w a1) (lA s) RL cL_law 4 p s m #[Value.ref b] c) (C2 : gCx (wA w a2) (lA s) RL cL_law 4 p s m #[Value.ref b] c) (hX : va_X b L xs s s.heap) (hbl : b < s.heap.size) (hi : i + 5 ≤ L) (hL : L ≤ 2560) (hvb : vb ≤ 100000) (hI : XI vb M1 st) (hM : MI M2 st) (hP : va_P (q_D w) vwCl (qws 0 (wA w a1) M1 ++ qws 1 (wA w a2) M2) H) (hD : va_D (lA s) (qws 0 (wA w a1) M1 ++ qws 1 (wA w a2) M2)) (hS : va_S (lA s) s.heap H locs) (hl : lv_has ls 4 [(3, .int (nI i)), (2, .ref (a2 0)), (1, .ref (a1 0)), (0, .ref b)])
    (kk : ∀ (vb2 : Nat) (st2 : sT) (N1 N2 : qMem) (H2 : Heap) (locs2 : List Loc), vb2 ≤ vb + 20 → XI vb2 N1 st2 → MI N2 st2 → va_P (q_D w) vwCl (qws 0 (wA w a1) N1 ++ qws 1 (wA w a2) N2) H2 → va_D (lA s) (qws 0 (wA w a1) N1 ++ qws 1 (wA w a2) N2) → va_S (lA s) s.heap H2 locs2 → W p (q_l w) e room_1 s m #[Value.ref b] below meth c H2 locs2 cells slots Q (F0 m 1101 ls [])) : W p (q_l w) e room_1 s m #[Value.ref b] below meth c H locs cells slots Q (F0 m 474 ls []) := by
  have hs := hI.ok
  have hbA : ¬ lA s b := Nat.not_le.mpr hbl
  refine lv_aload_n C1.1 C1.2.1 dL_law_474 rfl (lv_at hl 2 rfl) ?_
  refine lv_aload_n C1.1 C1.2.1 dL_law_475 rfl (lv_at hl 3 rfl) ?_
  refine lv_iload_n C1.1 C1.2.1 dL_law_476 rfl (lv_at hl 0 rfl) ?_
  refine lv_iconst (v := nI 1) C1.1 C1.2.1 dL_law_477 rfl ?_
  refine lv_iadd C1.1 C1.2.1 dL_law_478 ?_
  rw [nI_add i 1]
  refine va_sld C1.1 C1.2.1 hX hbl hbA hS (vp_in_nI (show i + 1 < L by omega) (by omega)) dL_law_479 ?_
  refine lv_aload_n C1.1 C1.2.1 dL_law_480 rfl (lv_at hl 3 rfl) ?_
  refine lv_iload_n C1.1 C1.2.1 dL_law_481 rfl (lv_at hl 0 rfl) ?_
  refine lv_iconst (v := nI 2) C1.1 C1.2.1 dL_law_482 rfl ?_
  refine lv_iadd C1.1 C1.2.1 dL_law_483 ?_
  rw [nI_add i 2]
  refine va_sld C1.1 C1.2.1 hX hbl hbA hS (vp_in_nI (show i + 2 < L by omega) (by omega)) dL_law_484 ?_
  refine G_callV (w := wA w a1) (g := 0) (wr := qws 1 (wA w a2) M2) (mc := mX7_pair) (As := [.int (xs (nI (i + 1)).toNatClampNeg), .int (xs (nI (i + 2)).toNatClampNeg)]) (r := 0) (rest := []) C1 hP hD hS hl.1 dL_law_485 lm_RL_65 mv_X7_pair ⟨(Nat.le_of_ble_eq_true rfl), (Nat.le_of_ble_eq_true rfl)⟩ (by decide) rfl rfl rfl rfl (by decide) hcs (o_pair hI) ?_
  rintro _ N1 H locs ⟨rfl, hI2⟩ hP hD hS
  have hP := g_swap hP
  have hD := g_swapD hD
  refine lv_aload_n C1.1 C1.2.1 dL_law_488 rfl (lv_at hl 1 rfl) ?_
  refine lv_aload_n C1.1 C1.2.1 dL_law_489 rfl (lv_at hl 3 rfl) ?_
  refine lv_iload_n C1.1 C1.2.1 dL_law_490 rfl (lv_at hl 0 rfl) ?_
  refine lv_iconst (v := nI 1) C1.1 C1.2.1 dL_law_491 rfl ?_
  refine lv_iadd C1.1 C1.2.1 dL_law_492 ?_
  rw [nI_add i 1]
  refine va_sld C1.1 C1.2.1 hX hbl hbA hS (vp_in_nI (show i + 1 < L by omega) (by omega)) dL_law_493 ?_
  refine lv_aload_n C1.1 C1.2.1 dL_law_494 rfl (lv_at hl 3 rfl) ?_
  refine lv_iload_n C1.1 C1.2.1 dL_law_495 rfl (lv_at hl 0 rfl) ?_
  refine lv_iconst (v := nI 2) C1.1 C1.2.1 dL_law_496 rfl ?_
  refine lv_iadd C1.1 C1.2.1 dL_law_497 ?_
  rw [nI_add i 2]
  refine va_sld C1.1 C1.2.1 hX hbl hbA hS (vp_in_nI (show i + 2 < L by omega) (by omega)) dL_law_498 ?_
  refine G_callV (w := wA w a2) (g := 1) (wr := qws 0 (wA w a1) N1) (mc := mX8_pair) (As := [.int (xs (nI (i + 1)).toNatClampNeg), .int (xs (nI (i + 2)).toNatClampNeg)]) (r := 0) (rest := [_]) C2 hP hD hS hl.1 dL_law_499 lm_RL_68 mv_X8_pair ⟨(Nat.le_of_ble_eq_true rfl), (Nat.le_of_ble_eq_true rfl)⟩ (by decide) rfl rfl rfl rfl (Nat.le_of_ble_eq_true rfl) hcs (n_pair hM.1 hs.1 hs.2.1.2 hs.2.1.1) ?_
  rintro _ _ H locs ⟨rfl, rfl⟩ hP hD hS
  have hP := g_swap hP
  have hD := g_swapD hD
  refine lv_icmp_eq (tgt := 1101) C1.1 C1.2.1 dL_law_502 (by decide) (fun _ => ?_) (fun z => absurd rfl z)
  exact kk _ _ _ _ H locs (by omega) hI2 (hM) hP hD hS
set_option maxRecDepth 100000 in
set_option maxHeartbeats 8000000 in
theorem lc_13 {w : qWT} {a1 a2 : Nat → Nat} {p : Program} {e : Env} {s : State} {m : MethodId} {below : List Frame} {meth : Method} {c : Code} {b L : Nat} {xs : Nat → Int32} {Q : State → Prop} {cells slots : Nat} {i vb : Nat} {st : sT} {M1 M2 : qMem} {H : Heap} {locs : List Loc} {ls : Array Slot} (hcs : cells ≤ room_1.cells ∧ slots ≤ room_1.slots) (C1 : gCx (wA w a1) (lA s) RL cL_law 4 p s m #[Value.ref b] c) (C2 : gCx (wA w a2) (lA s) RL cL_law 4 p s m #[Value.ref b] c) (hX : va_X b L xs s s.heap) (hbl : b < s.heap.size) (hi : i + 5 ≤ L) (hL : L ≤ 2560) (hvb : vb ≤ 100000) (hI : XI vb M1 st) (hM : MI M2 st) (hP : va_P (q_D w) vwCl (qws 0 (wA w a1) M1 ++ qws 1 (wA w a2) M2) H) (hD : va_D (lA s) (qws 0 (wA w a1) M1 ++ qws 1 (wA w a2) M2)) (hS : va_S (lA s) s.heap H locs) (hl : lv_has ls 4 [(3, .int (nI i)), (2, .ref (a2 0)), (1, .ref (a1 0)), (0, .ref b)])
    (kk : ∀ (vb2 : Nat) (st2 : sT) (N1 N2 : qMem) (H2 : Heap) (locs2 : List Loc), vb2 ≤ vb + 20 → XI vb2 N1 st2 → MI N2 st2 → va_P (q_D w) vwCl (qws 0 (wA w a1) N1 ++ qws 1 (wA w a2) N2) H2 → va_D (lA s) (qws 0 (wA w a1) N1 ++ qws 1 (wA w a2) N2) → va_S (lA s) s.heap H2 locs2 → W p (q_l w) e room_1 s m #[Value.ref b] below meth c H2 locs2 cells slots Q (F0 m 1101 ls [])) : W p (q_l w) e room_1 s m #[Value.ref b] below meth c H locs cells slots Q (F0 m 507 ls []) := by
  have hs := hI.ok
  have hbA : ¬ lA s b := Nat.not_le.mpr hbl
  refine lv_aload_n C1.1 C1.2.1 dL_law_507 rfl (lv_at hl 2 rfl) ?_
  refine lv_aload_n C1.1 C1.2.1 dL_law_508 rfl (lv_at hl 3 rfl) ?_
  refine lv_iload_n C1.1 C1.2.1 dL_law_509 rfl (lv_at hl 0 rfl) ?_
  refine lv_iconst (v := nI 1) C1.1 C1.2.1 dL_law_510 rfl ?_
  refine lv_iadd C1.1 C1.2.1 dL_law_511 ?_
  rw [nI_add i 1]
  refine va_sld C1.1 C1.2.1 hX hbl hbA hS (vp_in_nI (show i + 1 < L by omega) (by omega)) dL_law_512 ?_
  refine lv_aload_n C1.1 C1.2.1 dL_law_513 rfl (lv_at hl 3 rfl) ?_
  refine lv_iload_n C1.1 C1.2.1 dL_law_514 rfl (lv_at hl 0 rfl) ?_
  refine lv_iconst (v := nI 2) C1.1 C1.2.1 dL_law_515 rfl ?_
  refine lv_iadd C1.1 C1.2.1 dL_law_516 ?_
  rw [nI_add i 2]
  refine va_sld C1.1 C1.2.1 hX hbl hbA hS (vp_in_nI (show i + 2 < L by omega) (by omega)) dL_law_517 ?_
  refine lv_aload_n C1.1 C1.2.1 dL_law_518 rfl (lv_at hl 3 rfl) ?_
  refine lv_iload_n C1.1 C1.2.1 dL_law_519 rfl (lv_at hl 0 rfl) ?_
  refine lv_iconst (v := nI 3) C1.1 C1.2.1 dL_law_520 rfl ?_
  refine lv_iadd C1.1 C1.2.1 dL_law_521 ?_
  rw [nI_add i 3]
  refine va_sld C1.1 C1.2.1 hX hbl hbA hS (vp_in_nI (show i + 3 < L by omega) (by omega)) dL_law_522 ?_
  refine G_callV (w := wA w a1) (g := 0) (wr := qws 1 (wA w a2) M2) (mc := mX7_entry) (As := [.int (xs (nI (i + 1)).toNatClampNeg), .int (xs (nI (i + 2)).toNatClampNeg), .int (xs (nI (i + 3)).toNatClampNeg)]) (r := 0) (rest := []) C1 hP hD hS hl.1 dL_law_523 lm_RL_69 mv_X7_entry ⟨(Nat.le_of_ble_eq_true rfl), (Nat.le_of_ble_eq_true rfl)⟩ (by decide) rfl rfl rfl rfl (by decide) hcs (o_entry hI) ?_
  rintro _ N1 H locs ⟨rfl, hI2⟩ hP hD hS
  have hP := g_swap hP
  have hD := g_swapD hD
  refine lv_aload_n C1.1 C1.2.1 dL_law_526 rfl (lv_at hl 1 rfl) ?_
  refine lv_aload_n C1.1 C1.2.1 dL_law_527 rfl (lv_at hl 3 rfl) ?_
  refine lv_iload_n C1.1 C1.2.1 dL_law_528 rfl (lv_at hl 0 rfl) ?_
  refine lv_iconst (v := nI 1) C1.1 C1.2.1 dL_law_529 rfl ?_
  refine lv_iadd C1.1 C1.2.1 dL_law_530 ?_
  rw [nI_add i 1]
  refine va_sld C1.1 C1.2.1 hX hbl hbA hS (vp_in_nI (show i + 1 < L by omega) (by omega)) dL_law_531 ?_
  refine lv_aload_n C1.1 C1.2.1 dL_law_532 rfl (lv_at hl 3 rfl) ?_
  refine lv_iload_n C1.1 C1.2.1 dL_law_533 rfl (lv_at hl 0 rfl) ?_
  refine lv_iconst (v := nI 2) C1.1 C1.2.1 dL_law_534 rfl ?_
  refine lv_iadd C1.1 C1.2.1 dL_law_535 ?_
  rw [nI_add i 2]
  refine va_sld C1.1 C1.2.1 hX hbl hbA hS (vp_in_nI (show i + 2 < L by omega) (by omega)) dL_law_536 ?_
  refine lv_aload_n C1.1 C1.2.1 dL_law_537 rfl (lv_at hl 3 rfl) ?_
  refine lv_iload_n C1.1 C1.2.1 dL_law_538 rfl (lv_at hl 0 rfl) ?_
  refine lv_iconst (v := nI 3) C1.1 C1.2.1 dL_law_539 rfl ?_
  refine lv_iadd C1.1 C1.2.1 dL_law_540 ?_
  rw [nI_add i 3]
  refine va_sld C1.1 C1.2.1 hX hbl hbA hS (vp_in_nI (show i + 3 < L by omega) (by omega)) dL_law_541 ?_
  refine G_callV (w := wA w a2) (g := 1) (wr := qws 0 (wA w a1) N1) (mc := mX8_entry) (As := [.int (xs (nI (i + 1)).toNatClampNeg), .int (xs (nI (i + 2)).toNatClampNeg), .int (xs (nI (i + 3)).toNatClampNeg)]) (r := 0) (rest := [_]) C2 hP hD hS hl.1 dL_law_542 lm_RL_72 mv_X8_entry ⟨(Nat.le_of_ble_eq_true rfl), (Nat.le_of_ble_eq_true rfl)⟩ (by decide) rfl rfl rfl rfl (Nat.le_of_ble_eq_true rfl) hcs (n_entry hM.1 hs.1 hs.2.1.2 hs.2.1.1) ?_
  rintro _ N2 H locs ⟨rfl, hO⟩ hP hD hS
  have hP := g_swap hP
  have hD := g_swapD hD
  refine lv_icmp_eq (tgt := 1101) C1.1 C1.2.1 dL_law_545 (by decide) (fun _ => ?_) (fun z => absurd rfl z)
  exact kk _ _ _ _ H locs (by omega) hI2 (hM.sc hO) hP hD hS
set_option maxRecDepth 100000 in
set_option maxHeartbeats 8000000 in
theorem lc_14 {w : qWT} {a1 a2 : Nat → Nat} {p : Program} {e : Env} {s : State} {m : MethodId} {below : List Frame} {meth : Method} {c : Code} {b L : Nat} {xs : Nat → Int32} {Q : State → Prop} {cells slots : Nat} {i vb : Nat} {st : sT} {M1 M2 : qMem} {H : Heap} {locs : List Loc} {ls : Array Slot} (hcs : cells ≤ room_1.cells ∧ slots ≤ room_1.slots) (C1 : gCx (wA w a1) (lA s) RL cL_law 4 p s m #[Value.ref b] c) (C2 : gCx (wA w a2) (lA s) RL cL_law 4 p s m #[Value.ref b] c) (hX : va_X b L xs s s.heap) (hbl : b < s.heap.size) (hi : i + 5 ≤ L) (hL : L ≤ 2560) (hvb : vb ≤ 100000) (hI : XI vb M1 st) (hM : MI M2 st) (hP : va_P (q_D w) vwCl (qws 0 (wA w a1) M1 ++ qws 1 (wA w a2) M2) H) (hD : va_D (lA s) (qws 0 (wA w a1) M1 ++ qws 1 (wA w a2) M2)) (hS : va_S (lA s) s.heap H locs) (hl : lv_has ls 4 [(3, .int (nI i)), (2, .ref (a2 0)), (1, .ref (a1 0)), (0, .ref b)])
    (kk : ∀ (vb2 : Nat) (st2 : sT) (N1 N2 : qMem) (H2 : Heap) (locs2 : List Loc), vb2 ≤ vb + 20 → XI vb2 N1 st2 → MI N2 st2 → va_P (q_D w) vwCl (qws 0 (wA w a1) N1 ++ qws 1 (wA w a2) N2) H2 → va_D (lA s) (qws 0 (wA w a1) N1 ++ qws 1 (wA w a2) N2) → va_S (lA s) s.heap H2 locs2 → W p (q_l w) e room_1 s m #[Value.ref b] below meth c H2 locs2 cells slots Q (F0 m 1101 ls [])) : W p (q_l w) e room_1 s m #[Value.ref b] below meth c H locs cells slots Q (F0 m 550 ls []) := by
  have hs := hI.ok
  have hbA : ¬ lA s b := Nat.not_le.mpr hbl
  refine lv_aload_n C1.1 C1.2.1 dL_law_550 rfl (lv_at hl 2 rfl) ?_
  refine lv_aload_n C1.1 C1.2.1 dL_law_551 rfl (lv_at hl 3 rfl) ?_
  refine lv_iload_n C1.1 C1.2.1 dL_law_552 rfl (lv_at hl 0 rfl) ?_
  refine lv_iconst (v := nI 1) C1.1 C1.2.1 dL_law_553 rfl ?_
  refine lv_iadd C1.1 C1.2.1 dL_law_554 ?_
  rw [nI_add i 1]
  refine va_sld C1.1 C1.2.1 hX hbl hbA hS (vp_in_nI (show i + 1 < L by omega) (by omega)) dL_law_555 ?_
  refine lv_aload_n C1.1 C1.2.1 dL_law_556 rfl (lv_at hl 3 rfl) ?_
  refine lv_iload_n C1.1 C1.2.1 dL_law_557 rfl (lv_at hl 0 rfl) ?_
  refine lv_iconst (v := nI 2) C1.1 C1.2.1 dL_law_558 rfl ?_
  refine lv_iadd C1.1 C1.2.1 dL_law_559 ?_
  rw [nI_add i 2]
  refine va_sld C1.1 C1.2.1 hX hbl hbA hS (vp_in_nI (show i + 2 < L by omega) (by omega)) dL_law_560 ?_
  refine lv_aload_n C1.1 C1.2.1 dL_law_561 rfl (lv_at hl 3 rfl) ?_
  refine lv_iload_n C1.1 C1.2.1 dL_law_562 rfl (lv_at hl 0 rfl) ?_
  refine lv_iconst (v := nI 3) C1.1 C1.2.1 dL_law_563 rfl ?_
  refine lv_iadd C1.1 C1.2.1 dL_law_564 ?_
  rw [nI_add i 3]
  refine va_sld C1.1 C1.2.1 hX hbl hbA hS (vp_in_nI (show i + 3 < L by omega) (by omega)) dL_law_565 ?_
  refine G_callV (w := wA w a1) (g := 0) (wr := qws 1 (wA w a2) M2) (mc := mX7_year) (As := [.int (xs (nI (i + 1)).toNatClampNeg), .int (xs (nI (i + 2)).toNatClampNeg), .int (xs (nI (i + 3)).toNatClampNeg)]) (r := 0) (rest := []) C1 hP hD hS hl.1 dL_law_566 lm_RL_73 mv_X7_year ⟨(Nat.le_of_ble_eq_true rfl), (Nat.le_of_ble_eq_true rfl)⟩ (by decide) rfl rfl rfl rfl (by decide) hcs (o_year hI) ?_
  rintro _ N1 H locs ⟨rfl, hI2⟩ hP hD hS
  have hP := g_swap hP
  have hD := g_swapD hD
  refine lv_aload_n C1.1 C1.2.1 dL_law_569 rfl (lv_at hl 1 rfl) ?_
  refine lv_aload_n C1.1 C1.2.1 dL_law_570 rfl (lv_at hl 3 rfl) ?_
  refine lv_iload_n C1.1 C1.2.1 dL_law_571 rfl (lv_at hl 0 rfl) ?_
  refine lv_iconst (v := nI 1) C1.1 C1.2.1 dL_law_572 rfl ?_
  refine lv_iadd C1.1 C1.2.1 dL_law_573 ?_
  rw [nI_add i 1]
  refine va_sld C1.1 C1.2.1 hX hbl hbA hS (vp_in_nI (show i + 1 < L by omega) (by omega)) dL_law_574 ?_
  refine lv_aload_n C1.1 C1.2.1 dL_law_575 rfl (lv_at hl 3 rfl) ?_
  refine lv_iload_n C1.1 C1.2.1 dL_law_576 rfl (lv_at hl 0 rfl) ?_
  refine lv_iconst (v := nI 2) C1.1 C1.2.1 dL_law_577 rfl ?_
  refine lv_iadd C1.1 C1.2.1 dL_law_578 ?_
  rw [nI_add i 2]
  refine va_sld C1.1 C1.2.1 hX hbl hbA hS (vp_in_nI (show i + 2 < L by omega) (by omega)) dL_law_579 ?_
  refine lv_aload_n C1.1 C1.2.1 dL_law_580 rfl (lv_at hl 3 rfl) ?_
  refine lv_iload_n C1.1 C1.2.1 dL_law_581 rfl (lv_at hl 0 rfl) ?_
  refine lv_iconst (v := nI 3) C1.1 C1.2.1 dL_law_582 rfl ?_
  refine lv_iadd C1.1 C1.2.1 dL_law_583 ?_
  rw [nI_add i 3]
  refine va_sld C1.1 C1.2.1 hX hbl hbA hS (vp_in_nI (show i + 3 < L by omega) (by omega)) dL_law_584 ?_
  refine G_callV (w := wA w a2) (g := 1) (wr := qws 0 (wA w a1) N1) (mc := mX8_year) (As := [.int (xs (nI (i + 1)).toNatClampNeg), .int (xs (nI (i + 2)).toNatClampNeg), .int (xs (nI (i + 3)).toNatClampNeg)]) (r := 0) (rest := [_]) C2 hP hD hS hl.1 dL_law_585 lm_RL_76 mv_X8_year ⟨(Nat.le_of_ble_eq_true rfl), (Nat.le_of_ble_eq_true rfl)⟩ (by decide) rfl rfl rfl rfl (Nat.le_of_ble_eq_true rfl) hcs (n_year hM.1 hs.1 hs.2.1.2 hs.2.1.1) ?_
  rintro _ N2 H locs ⟨rfl, hO⟩ hP hD hS
  have hP := g_swap hP
  have hD := g_swapD hD
  refine lv_icmp_eq (tgt := 1101) C1.1 C1.2.1 dL_law_588 (by decide) (fun _ => ?_) (fun z => absurd rfl z)
  exact kk _ _ _ _ H locs (by omega) hI2 (hM.sc hO) hP hD hS
set_option maxRecDepth 100000 in
set_option maxHeartbeats 8000000 in
theorem lc_15 {w : qWT} {a1 a2 : Nat → Nat} {p : Program} {e : Env} {s : State} {m : MethodId} {below : List Frame} {meth : Method} {c : Code} {b L : Nat} {xs : Nat → Int32} {Q : State → Prop} {cells slots : Nat} {i vb : Nat} {st : sT} {M1 M2 : qMem} {H : Heap} {locs : List Loc} {ls : Array Slot} (hcs : cells ≤ room_1.cells ∧ slots ≤ room_1.slots) (C1 : gCx (wA w a1) (lA s) RL cL_law 4 p s m #[Value.ref b] c) (C2 : gCx (wA w a2) (lA s) RL cL_law 4 p s m #[Value.ref b] c) (hX : va_X b L xs s s.heap) (hbl : b < s.heap.size) (hi : i + 5 ≤ L) (hL : L ≤ 2560) (hvb : vb ≤ 100000) (hI : XI vb M1 st) (hM : MI M2 st) (hP : va_P (q_D w) vwCl (qws 0 (wA w a1) M1 ++ qws 1 (wA w a2) M2) H) (hD : va_D (lA s) (qws 0 (wA w a1) M1 ++ qws 1 (wA w a2) M2)) (hS : va_S (lA s) s.heap H locs) (hl : lv_has ls 4 [(3, .int (nI i)), (2, .ref (a2 0)), (1, .ref (a1 0)), (0, .ref b)])
    (kk : ∀ (vb2 : Nat) (st2 : sT) (N1 N2 : qMem) (H2 : Heap) (locs2 : List Loc), vb2 ≤ vb + 20 → XI vb2 N1 st2 → MI N2 st2 → va_P (q_D w) vwCl (qws 0 (wA w a1) N1 ++ qws 1 (wA w a2) N2) H2 → va_D (lA s) (qws 0 (wA w a1) N1 ++ qws 1 (wA w a2) N2) → va_S (lA s) s.heap H2 locs2 → W p (q_l w) e room_1 s m #[Value.ref b] below meth c H2 locs2 cells slots Q (F0 m 1101 ls [])) : W p (q_l w) e room_1 s m #[Value.ref b] below meth c H locs cells slots Q (F0 m 593 ls []) := by
  have hs := hI.ok
  have hbA : ¬ lA s b := Nat.not_le.mpr hbl
  refine lv_aload_n C1.1 C1.2.1 dL_law_593 rfl (lv_at hl 2 rfl) ?_
  refine lv_aload_n C1.1 C1.2.1 dL_law_594 rfl (lv_at hl 3 rfl) ?_
  refine lv_iload_n C1.1 C1.2.1 dL_law_595 rfl (lv_at hl 0 rfl) ?_
  refine lv_iconst (v := nI 1) C1.1 C1.2.1 dL_law_596 rfl ?_
  refine lv_iadd C1.1 C1.2.1 dL_law_597 ?_
  rw [nI_add i 1]
  refine va_sld C1.1 C1.2.1 hX hbl hbA hS (vp_in_nI (show i + 1 < L by omega) (by omega)) dL_law_598 ?_
  refine lv_aload_n C1.1 C1.2.1 dL_law_599 rfl (lv_at hl 3 rfl) ?_
  refine lv_iload_n C1.1 C1.2.1 dL_law_600 rfl (lv_at hl 0 rfl) ?_
  refine lv_iconst (v := nI 2) C1.1 C1.2.1 dL_law_601 rfl ?_
  refine lv_iadd C1.1 C1.2.1 dL_law_602 ?_
  rw [nI_add i 2]
  refine va_sld C1.1 C1.2.1 hX hbl hbA hS (vp_in_nI (show i + 2 < L by omega) (by omega)) dL_law_603 ?_
  refine lv_aload_n C1.1 C1.2.1 dL_law_604 rfl (lv_at hl 3 rfl) ?_
  refine lv_iload_n C1.1 C1.2.1 dL_law_605 rfl (lv_at hl 0 rfl) ?_
  refine lv_iconst (v := nI 3) C1.1 C1.2.1 dL_law_606 rfl ?_
  refine lv_iadd C1.1 C1.2.1 dL_law_607 ?_
  rw [nI_add i 3]
  refine va_sld C1.1 C1.2.1 hX hbl hbA hS (vp_in_nI (show i + 3 < L by omega) (by omega)) dL_law_608 ?_
  refine lv_aload_n C1.1 C1.2.1 dL_law_609 rfl (lv_at hl 3 rfl) ?_
  refine lv_iload_n C1.1 C1.2.1 dL_law_610 rfl (lv_at hl 0 rfl) ?_
  refine lv_iconst (v := nI 4) C1.1 C1.2.1 dL_law_611 rfl ?_
  refine lv_iadd C1.1 C1.2.1 dL_law_612 ?_
  rw [nI_add i 4]
  refine va_sld C1.1 C1.2.1 hX hbl hbA hS (vp_in_nI (show i + 4 < L by omega) (by omega)) dL_law_613 ?_
  refine G_callV (w := wA w a1) (g := 0) (wr := qws 1 (wA w a2) M2) (mc := mX7_spread) (As := [.int (xs (nI (i + 1)).toNatClampNeg), .int (xs (nI (i + 2)).toNatClampNeg), .int (xs (nI (i + 3)).toNatClampNeg), .int (xs (nI (i + 4)).toNatClampNeg)]) (r := 0) (rest := []) C1 hP hD hS hl.1 dL_law_614 lm_RL_77 mv_X7_spread ⟨(Nat.le_of_ble_eq_true rfl), (Nat.le_of_ble_eq_true rfl)⟩ (by decide) rfl rfl rfl rfl (by decide) hcs (o_spread hI) ?_
  rintro _ N1 H locs ⟨rfl, hI2⟩ hP hD hS
  have hP := g_swap hP
  have hD := g_swapD hD
  refine lv_aload_n C1.1 C1.2.1 dL_law_617 rfl (lv_at hl 1 rfl) ?_
  refine lv_aload_n C1.1 C1.2.1 dL_law_618 rfl (lv_at hl 3 rfl) ?_
  refine lv_iload_n C1.1 C1.2.1 dL_law_619 rfl (lv_at hl 0 rfl) ?_
  refine lv_iconst (v := nI 1) C1.1 C1.2.1 dL_law_620 rfl ?_
  refine lv_iadd C1.1 C1.2.1 dL_law_621 ?_
  rw [nI_add i 1]
  refine va_sld C1.1 C1.2.1 hX hbl hbA hS (vp_in_nI (show i + 1 < L by omega) (by omega)) dL_law_622 ?_
  refine lv_aload_n C1.1 C1.2.1 dL_law_623 rfl (lv_at hl 3 rfl) ?_
  refine lv_iload_n C1.1 C1.2.1 dL_law_624 rfl (lv_at hl 0 rfl) ?_
  refine lv_iconst (v := nI 2) C1.1 C1.2.1 dL_law_625 rfl ?_
  refine lv_iadd C1.1 C1.2.1 dL_law_626 ?_
  rw [nI_add i 2]
  refine va_sld C1.1 C1.2.1 hX hbl hbA hS (vp_in_nI (show i + 2 < L by omega) (by omega)) dL_law_627 ?_
  refine lv_aload_n C1.1 C1.2.1 dL_law_628 rfl (lv_at hl 3 rfl) ?_
  refine lv_iload_n C1.1 C1.2.1 dL_law_629 rfl (lv_at hl 0 rfl) ?_
  refine lv_iconst (v := nI 3) C1.1 C1.2.1 dL_law_630 rfl ?_
  refine lv_iadd C1.1 C1.2.1 dL_law_631 ?_
  rw [nI_add i 3]
  refine va_sld C1.1 C1.2.1 hX hbl hbA hS (vp_in_nI (show i + 3 < L by omega) (by omega)) dL_law_632 ?_
  refine lv_aload_n C1.1 C1.2.1 dL_law_633 rfl (lv_at hl 3 rfl) ?_
  refine lv_iload_n C1.1 C1.2.1 dL_law_634 rfl (lv_at hl 0 rfl) ?_
  refine lv_iconst (v := nI 4) C1.1 C1.2.1 dL_law_635 rfl ?_
  refine lv_iadd C1.1 C1.2.1 dL_law_636 ?_
  rw [nI_add i 4]
  refine va_sld C1.1 C1.2.1 hX hbl hbA hS (vp_in_nI (show i + 4 < L by omega) (by omega)) dL_law_637 ?_
  refine G_callV (w := wA w a2) (g := 1) (wr := qws 0 (wA w a1) N1) (mc := mX8_spread) (As := [.int (xs (nI (i + 1)).toNatClampNeg), .int (xs (nI (i + 2)).toNatClampNeg), .int (xs (nI (i + 3)).toNatClampNeg), .int (xs (nI (i + 4)).toNatClampNeg)]) (r := 0) (rest := [_]) C2 hP hD hS hl.1 dL_law_638 lm_RL_81 mv_X8_spread ⟨(Nat.le_of_ble_eq_true rfl), (Nat.le_of_ble_eq_true rfl)⟩ (by decide) rfl rfl rfl rfl (Nat.le_of_ble_eq_true rfl) hcs (n_spread hM.1 hs.1 hs.2.1.2 hs.2.1.1) ?_
  rintro _ N2 H locs ⟨rfl, hO⟩ hP hD hS
  have hP := g_swap hP
  have hD := g_swapD hD
  refine W.lcmp C1.1 C1.2.1 dL_law_641 ?_
  refine lv_if_eq (tgt := 1101) C1.1 C1.2.1 dL_law_642 (by decide) (fun _ => ?_) (fun z => absurd ((lg_cmp_eq _ _).mpr rfl) z)
  exact kk _ _ _ _ H locs (by omega) hI2 (hM.sc hO) hP hD hS
set_option maxRecDepth 100000 in
set_option maxHeartbeats 8000000 in
theorem lc_16 {w : qWT} {a1 a2 : Nat → Nat} {p : Program} {e : Env} {s : State} {m : MethodId} {below : List Frame} {meth : Method} {c : Code} {b L : Nat} {xs : Nat → Int32} {Q : State → Prop} {cells slots : Nat} {i vb : Nat} {st : sT} {M1 M2 : qMem} {H : Heap} {locs : List Loc} {ls : Array Slot} (hcs : cells ≤ room_1.cells ∧ slots ≤ room_1.slots) (C1 : gCx (wA w a1) (lA s) RL cL_law 4 p s m #[Value.ref b] c) (C2 : gCx (wA w a2) (lA s) RL cL_law 4 p s m #[Value.ref b] c) (hX : va_X b L xs s s.heap) (hbl : b < s.heap.size) (hi : i + 5 ≤ L) (hL : L ≤ 2560) (hvb : vb ≤ 100000) (hI : XI vb M1 st) (hM : MI M2 st) (hP : va_P (q_D w) vwCl (qws 0 (wA w a1) M1 ++ qws 1 (wA w a2) M2) H) (hD : va_D (lA s) (qws 0 (wA w a1) M1 ++ qws 1 (wA w a2) M2)) (hS : va_S (lA s) s.heap H locs) (hl : lv_has ls 4 [(3, .int (nI i)), (2, .ref (a2 0)), (1, .ref (a1 0)), (0, .ref b)])
    (kk : ∀ (vb2 : Nat) (st2 : sT) (N1 N2 : qMem) (H2 : Heap) (locs2 : List Loc), vb2 ≤ vb + 20 → XI vb2 N1 st2 → MI N2 st2 → va_P (q_D w) vwCl (qws 0 (wA w a1) N1 ++ qws 1 (wA w a2) N2) H2 → va_D (lA s) (qws 0 (wA w a1) N1 ++ qws 1 (wA w a2) N2) → va_S (lA s) s.heap H2 locs2 → W p (q_l w) e room_1 s m #[Value.ref b] below meth c H2 locs2 cells slots Q (F0 m 1101 ls [])) : W p (q_l w) e room_1 s m #[Value.ref b] below meth c H locs cells slots Q (F0 m 647 ls []) := by
  have hs := hI.ok
  have hbA : ¬ lA s b := Nat.not_le.mpr hbl
  refine lv_aload_n C1.1 C1.2.1 dL_law_647 rfl (lv_at hl 2 rfl) ?_
  refine lv_aload_n C1.1 C1.2.1 dL_law_648 rfl (lv_at hl 3 rfl) ?_
  refine lv_iload_n C1.1 C1.2.1 dL_law_649 rfl (lv_at hl 0 rfl) ?_
  refine lv_iconst (v := nI 1) C1.1 C1.2.1 dL_law_650 rfl ?_
  refine lv_iadd C1.1 C1.2.1 dL_law_651 ?_
  rw [nI_add i 1]
  refine va_sld C1.1 C1.2.1 hX hbl hbA hS (vp_in_nI (show i + 1 < L by omega) (by omega)) dL_law_652 ?_
  refine lv_aload_n C1.1 C1.2.1 dL_law_653 rfl (lv_at hl 3 rfl) ?_
  refine lv_iload_n C1.1 C1.2.1 dL_law_654 rfl (lv_at hl 0 rfl) ?_
  refine lv_iconst (v := nI 2) C1.1 C1.2.1 dL_law_655 rfl ?_
  refine lv_iadd C1.1 C1.2.1 dL_law_656 ?_
  rw [nI_add i 2]
  refine va_sld C1.1 C1.2.1 hX hbl hbA hS (vp_in_nI (show i + 2 < L by omega) (by omega)) dL_law_657 ?_
  refine lv_aload_n C1.1 C1.2.1 dL_law_658 rfl (lv_at hl 3 rfl) ?_
  refine lv_iload_n C1.1 C1.2.1 dL_law_659 rfl (lv_at hl 0 rfl) ?_
  refine lv_iconst (v := nI 3) C1.1 C1.2.1 dL_law_660 rfl ?_
  refine lv_iadd C1.1 C1.2.1 dL_law_661 ?_
  rw [nI_add i 3]
  refine va_sld C1.1 C1.2.1 hX hbl hbA hS (vp_in_nI (show i + 3 < L by omega) (by omega)) dL_law_662 ?_
  refine G_callV (w := wA w a1) (g := 0) (wr := qws 1 (wA w a2) M2) (mc := mX7_split) (As := [.int (xs (nI (i + 1)).toNatClampNeg), .int (xs (nI (i + 2)).toNatClampNeg), .int (xs (nI (i + 3)).toNatClampNeg)]) (r := 0) (rest := []) C1 hP hD hS hl.1 dL_law_663 lm_RL_82 mv_X7_split ⟨(Nat.le_of_ble_eq_true rfl), (Nat.le_of_ble_eq_true rfl)⟩ (by decide) rfl rfl rfl rfl (by decide) hcs (o_split hI) ?_
  rintro _ N1 H locs ⟨rfl, hI2⟩ hP hD hS
  have hP := g_swap hP
  have hD := g_swapD hD
  refine lv_aload_n C1.1 C1.2.1 dL_law_666 rfl (lv_at hl 1 rfl) ?_
  refine lv_aload_n C1.1 C1.2.1 dL_law_667 rfl (lv_at hl 3 rfl) ?_
  refine lv_iload_n C1.1 C1.2.1 dL_law_668 rfl (lv_at hl 0 rfl) ?_
  refine lv_iconst (v := nI 1) C1.1 C1.2.1 dL_law_669 rfl ?_
  refine lv_iadd C1.1 C1.2.1 dL_law_670 ?_
  rw [nI_add i 1]
  refine va_sld C1.1 C1.2.1 hX hbl hbA hS (vp_in_nI (show i + 1 < L by omega) (by omega)) dL_law_671 ?_
  refine lv_aload_n C1.1 C1.2.1 dL_law_672 rfl (lv_at hl 3 rfl) ?_
  refine lv_iload_n C1.1 C1.2.1 dL_law_673 rfl (lv_at hl 0 rfl) ?_
  refine lv_iconst (v := nI 2) C1.1 C1.2.1 dL_law_674 rfl ?_
  refine lv_iadd C1.1 C1.2.1 dL_law_675 ?_
  rw [nI_add i 2]
  refine va_sld C1.1 C1.2.1 hX hbl hbA hS (vp_in_nI (show i + 2 < L by omega) (by omega)) dL_law_676 ?_
  refine lv_aload_n C1.1 C1.2.1 dL_law_677 rfl (lv_at hl 3 rfl) ?_
  refine lv_iload_n C1.1 C1.2.1 dL_law_678 rfl (lv_at hl 0 rfl) ?_
  refine lv_iconst (v := nI 3) C1.1 C1.2.1 dL_law_679 rfl ?_
  refine lv_iadd C1.1 C1.2.1 dL_law_680 ?_
  rw [nI_add i 3]
  refine va_sld C1.1 C1.2.1 hX hbl hbA hS (vp_in_nI (show i + 3 < L by omega) (by omega)) dL_law_681 ?_
  refine G_callV (w := wA w a2) (g := 1) (wr := qws 0 (wA w a1) N1) (mc := mX8_split) (As := [.int (xs (nI (i + 1)).toNatClampNeg), .int (xs (nI (i + 2)).toNatClampNeg), .int (xs (nI (i + 3)).toNatClampNeg)]) (r := 0) (rest := [_]) C2 hP hD hS hl.1 dL_law_682 lm_RL_85 mv_X8_split ⟨(Nat.le_of_ble_eq_true rfl), (Nat.le_of_ble_eq_true rfl)⟩ (by decide) rfl rfl rfl rfl (Nat.le_of_ble_eq_true rfl) hcs (n_split hM.1 hs.1 hs.2.1.2 hs.2.1.1) ?_
  rintro _ N2 H locs ⟨rfl, hO⟩ hP hD hS
  have hP := g_swap hP
  have hD := g_swapD hD
  refine lv_icmp_eq (tgt := 1101) C1.1 C1.2.1 dL_law_685 (by decide) (fun _ => ?_) (fun z => absurd rfl z)
  exact kk _ _ _ _ H locs (by omega) hI2 (hM.sc hO) hP hD hS
set_option maxRecDepth 100000 in
set_option maxHeartbeats 8000000 in
theorem lc_17 {w : qWT} {a1 a2 : Nat → Nat} {p : Program} {e : Env} {s : State} {m : MethodId} {below : List Frame} {meth : Method} {c : Code} {b L : Nat} {xs : Nat → Int32} {Q : State → Prop} {cells slots : Nat} {i vb : Nat} {st : sT} {M1 M2 : qMem} {H : Heap} {locs : List Loc} {ls : Array Slot} (hcs : cells ≤ room_1.cells ∧ slots ≤ room_1.slots) (C1 : gCx (wA w a1) (lA s) RL cL_law 4 p s m #[Value.ref b] c) (C2 : gCx (wA w a2) (lA s) RL cL_law 4 p s m #[Value.ref b] c) (hX : va_X b L xs s s.heap) (hbl : b < s.heap.size) (hi : i + 5 ≤ L) (hL : L ≤ 2560) (hvb : vb ≤ 100000) (hI : XI vb M1 st) (hM : MI M2 st) (hP : va_P (q_D w) vwCl (qws 0 (wA w a1) M1 ++ qws 1 (wA w a2) M2) H) (hD : va_D (lA s) (qws 0 (wA w a1) M1 ++ qws 1 (wA w a2) M2)) (hS : va_S (lA s) s.heap H locs) (hl : lv_has ls 4 [(3, .int (nI i)), (2, .ref (a2 0)), (1, .ref (a1 0)), (0, .ref b)])
    (kk : ∀ (vb2 : Nat) (st2 : sT) (N1 N2 : qMem) (H2 : Heap) (locs2 : List Loc), vb2 ≤ vb + 20 → XI vb2 N1 st2 → MI N2 st2 → va_P (q_D w) vwCl (qws 0 (wA w a1) N1 ++ qws 1 (wA w a2) N2) H2 → va_D (lA s) (qws 0 (wA w a1) N1 ++ qws 1 (wA w a2) N2) → va_S (lA s) s.heap H2 locs2 → W p (q_l w) e room_1 s m #[Value.ref b] below meth c H2 locs2 cells slots Q (F0 m 1101 ls [])) : W p (q_l w) e room_1 s m #[Value.ref b] below meth c H locs cells slots Q (F0 m 690 ls []) := by
  have hs := hI.ok
  have hbA : ¬ lA s b := Nat.not_le.mpr hbl
  refine lv_aload_n C1.1 C1.2.1 dL_law_690 rfl (lv_at hl 2 rfl) ?_
  refine lv_aload_n C1.1 C1.2.1 dL_law_691 rfl (lv_at hl 3 rfl) ?_
  refine lv_iload_n C1.1 C1.2.1 dL_law_692 rfl (lv_at hl 0 rfl) ?_
  refine lv_iconst (v := nI 1) C1.1 C1.2.1 dL_law_693 rfl ?_
  refine lv_iadd C1.1 C1.2.1 dL_law_694 ?_
  rw [nI_add i 1]
  refine va_sld C1.1 C1.2.1 hX hbl hbA hS (vp_in_nI (show i + 1 < L by omega) (by omega)) dL_law_695 ?_
  refine lv_aload_n C1.1 C1.2.1 dL_law_696 rfl (lv_at hl 3 rfl) ?_
  refine lv_iload_n C1.1 C1.2.1 dL_law_697 rfl (lv_at hl 0 rfl) ?_
  refine lv_iconst (v := nI 2) C1.1 C1.2.1 dL_law_698 rfl ?_
  refine lv_iadd C1.1 C1.2.1 dL_law_699 ?_
  rw [nI_add i 2]
  refine va_sld C1.1 C1.2.1 hX hbl hbA hS (vp_in_nI (show i + 2 < L by omega) (by omega)) dL_law_700 ?_
  refine G_callV (w := wA w a1) (g := 0) (wr := qws 1 (wA w a2) M2) (mc := mX7_cost) (As := [.int (xs (nI (i + 1)).toNatClampNeg), .int (xs (nI (i + 2)).toNatClampNeg)]) (r := 0) (rest := []) C1 hP hD hS hl.1 dL_law_701 lm_RL_86 mv_X7_cost ⟨(Nat.le_of_ble_eq_true rfl), (Nat.le_of_ble_eq_true rfl)⟩ (by decide) rfl rfl rfl rfl (by decide) hcs (o_cost hI) ?_
  rintro _ N1 H locs ⟨rfl, hI2⟩ hP hD hS
  have hP := g_swap hP
  have hD := g_swapD hD
  refine lv_aload_n C1.1 C1.2.1 dL_law_704 rfl (lv_at hl 1 rfl) ?_
  refine lv_aload_n C1.1 C1.2.1 dL_law_705 rfl (lv_at hl 3 rfl) ?_
  refine lv_iload_n C1.1 C1.2.1 dL_law_706 rfl (lv_at hl 0 rfl) ?_
  refine lv_iconst (v := nI 1) C1.1 C1.2.1 dL_law_707 rfl ?_
  refine lv_iadd C1.1 C1.2.1 dL_law_708 ?_
  rw [nI_add i 1]
  refine va_sld C1.1 C1.2.1 hX hbl hbA hS (vp_in_nI (show i + 1 < L by omega) (by omega)) dL_law_709 ?_
  refine lv_aload_n C1.1 C1.2.1 dL_law_710 rfl (lv_at hl 3 rfl) ?_
  refine lv_iload_n C1.1 C1.2.1 dL_law_711 rfl (lv_at hl 0 rfl) ?_
  refine lv_iconst (v := nI 2) C1.1 C1.2.1 dL_law_712 rfl ?_
  refine lv_iadd C1.1 C1.2.1 dL_law_713 ?_
  rw [nI_add i 2]
  refine va_sld C1.1 C1.2.1 hX hbl hbA hS (vp_in_nI (show i + 2 < L by omega) (by omega)) dL_law_714 ?_
  refine G_callV (w := wA w a2) (g := 1) (wr := qws 0 (wA w a1) N1) (mc := mX8_cost) (As := [.int (xs (nI (i + 1)).toNatClampNeg), .int (xs (nI (i + 2)).toNatClampNeg)]) (r := 0) (rest := [_]) C2 hP hD hS hl.1 dL_law_715 lm_RL_90 mv_X8_cost ⟨(Nat.le_of_ble_eq_true rfl), (Nat.le_of_ble_eq_true rfl)⟩ (by decide) rfl rfl rfl rfl (Nat.le_of_ble_eq_true rfl) hcs (n_cost hM.1 hs.1 hs.2.1.2 hs.2.1.1) ?_
  rintro _ N2 H locs ⟨rfl, hO⟩ hP hD hS
  have hP := g_swap hP
  have hD := g_swapD hD
  refine W.lcmp C1.1 C1.2.1 dL_law_718 ?_
  refine lv_if_eq (tgt := 1101) C1.1 C1.2.1 dL_law_719 (by decide) (fun _ => ?_) (fun z => absurd ((lg_cmp_eq _ _).mpr rfl) z)
  exact kk _ _ _ _ H locs (by omega) hI2 (hM.sc hO) hP hD hS
set_option maxRecDepth 100000 in
set_option maxHeartbeats 8000000 in
theorem lc_18 {w : qWT} {a1 a2 : Nat → Nat} {p : Program} {e : Env} {s : State} {m : MethodId} {below : List Frame} {meth : Method} {c : Code} {b L : Nat} {xs : Nat → Int32} {Q : State → Prop} {cells slots : Nat} {i vb : Nat} {st : sT} {M1 M2 : qMem} {H : Heap} {locs : List Loc} {ls : Array Slot} (hcs : cells ≤ room_1.cells ∧ slots ≤ room_1.slots) (C1 : gCx (wA w a1) (lA s) RL cL_law 4 p s m #[Value.ref b] c) (C2 : gCx (wA w a2) (lA s) RL cL_law 4 p s m #[Value.ref b] c) (hX : va_X b L xs s s.heap) (hbl : b < s.heap.size) (hi : i + 5 ≤ L) (hL : L ≤ 2560) (hvb : vb ≤ 100000) (hI : XI vb M1 st) (hM : MI M2 st) (hP : va_P (q_D w) vwCl (qws 0 (wA w a1) M1 ++ qws 1 (wA w a2) M2) H) (hD : va_D (lA s) (qws 0 (wA w a1) M1 ++ qws 1 (wA w a2) M2)) (hS : va_S (lA s) s.heap H locs) (hl : lv_has ls 4 [(3, .int (nI i)), (2, .ref (a2 0)), (1, .ref (a1 0)), (0, .ref b)])
    (kk : ∀ (vb2 : Nat) (st2 : sT) (N1 N2 : qMem) (H2 : Heap) (locs2 : List Loc), vb2 ≤ vb + 20 → XI vb2 N1 st2 → MI N2 st2 → va_P (q_D w) vwCl (qws 0 (wA w a1) N1 ++ qws 1 (wA w a2) N2) H2 → va_D (lA s) (qws 0 (wA w a1) N1 ++ qws 1 (wA w a2) N2) → va_S (lA s) s.heap H2 locs2 → W p (q_l w) e room_1 s m #[Value.ref b] below meth c H2 locs2 cells slots Q (F0 m 1101 ls [])) : W p (q_l w) e room_1 s m #[Value.ref b] below meth c H locs cells slots Q (F0 m 724 ls []) := by
  have hs := hI.ok
  have hbA : ¬ lA s b := Nat.not_le.mpr hbl
  refine lv_aload_n C1.1 C1.2.1 dL_law_724 rfl (lv_at hl 2 rfl) ?_
  refine lv_aload_n C1.1 C1.2.1 dL_law_725 rfl (lv_at hl 3 rfl) ?_
  refine lv_iload_n C1.1 C1.2.1 dL_law_726 rfl (lv_at hl 0 rfl) ?_
  refine lv_iconst (v := nI 1) C1.1 C1.2.1 dL_law_727 rfl ?_
  refine lv_iadd C1.1 C1.2.1 dL_law_728 ?_
  rw [nI_add i 1]
  refine va_sld C1.1 C1.2.1 hX hbl hbA hS (vp_in_nI (show i + 1 < L by omega) (by omega)) dL_law_729 ?_
  refine lv_aload_n C1.1 C1.2.1 dL_law_730 rfl (lv_at hl 3 rfl) ?_
  refine lv_iload_n C1.1 C1.2.1 dL_law_731 rfl (lv_at hl 0 rfl) ?_
  refine lv_iconst (v := nI 2) C1.1 C1.2.1 dL_law_732 rfl ?_
  refine lv_iadd C1.1 C1.2.1 dL_law_733 ?_
  rw [nI_add i 2]
  refine va_sld C1.1 C1.2.1 hX hbl hbA hS (vp_in_nI (show i + 2 < L by omega) (by omega)) dL_law_734 ?_
  refine lv_aload_n C1.1 C1.2.1 dL_law_735 rfl (lv_at hl 3 rfl) ?_
  refine lv_iload_n C1.1 C1.2.1 dL_law_736 rfl (lv_at hl 0 rfl) ?_
  refine lv_iconst (v := nI 3) C1.1 C1.2.1 dL_law_737 rfl ?_
  refine lv_iadd C1.1 C1.2.1 dL_law_738 ?_
  rw [nI_add i 3]
  refine va_sld C1.1 C1.2.1 hX hbl hbA hS (vp_in_nI (show i + 3 < L by omega) (by omega)) dL_law_739 ?_
  refine G_callV (w := wA w a1) (g := 0) (wr := qws 1 (wA w a2) M2) (mc := mX7_spreads) (As := [.int (xs (nI (i + 1)).toNatClampNeg), .int (xs (nI (i + 2)).toNatClampNeg), .int (xs (nI (i + 3)).toNatClampNeg)]) (r := 0) (rest := []) C1 hP hD hS hl.1 dL_law_740 lm_RL_91 mv_X7_spreads ⟨(Nat.le_of_ble_eq_true rfl), (Nat.le_of_ble_eq_true rfl)⟩ (by decide) rfl rfl rfl rfl (by decide) hcs (o_spreads hI) ?_
  rintro _ N1 H locs ⟨rfl, hI2⟩ hP hD hS
  have hP := g_swap hP
  have hD := g_swapD hD
  refine lv_aload_n C1.1 C1.2.1 dL_law_743 rfl (lv_at hl 1 rfl) ?_
  refine lv_aload_n C1.1 C1.2.1 dL_law_744 rfl (lv_at hl 3 rfl) ?_
  refine lv_iload_n C1.1 C1.2.1 dL_law_745 rfl (lv_at hl 0 rfl) ?_
  refine lv_iconst (v := nI 1) C1.1 C1.2.1 dL_law_746 rfl ?_
  refine lv_iadd C1.1 C1.2.1 dL_law_747 ?_
  rw [nI_add i 1]
  refine va_sld C1.1 C1.2.1 hX hbl hbA hS (vp_in_nI (show i + 1 < L by omega) (by omega)) dL_law_748 ?_
  refine lv_aload_n C1.1 C1.2.1 dL_law_749 rfl (lv_at hl 3 rfl) ?_
  refine lv_iload_n C1.1 C1.2.1 dL_law_750 rfl (lv_at hl 0 rfl) ?_
  refine lv_iconst (v := nI 2) C1.1 C1.2.1 dL_law_751 rfl ?_
  refine lv_iadd C1.1 C1.2.1 dL_law_752 ?_
  rw [nI_add i 2]
  refine va_sld C1.1 C1.2.1 hX hbl hbA hS (vp_in_nI (show i + 2 < L by omega) (by omega)) dL_law_753 ?_
  refine lv_aload_n C1.1 C1.2.1 dL_law_754 rfl (lv_at hl 3 rfl) ?_
  refine lv_iload_n C1.1 C1.2.1 dL_law_755 rfl (lv_at hl 0 rfl) ?_
  refine lv_iconst (v := nI 3) C1.1 C1.2.1 dL_law_756 rfl ?_
  refine lv_iadd C1.1 C1.2.1 dL_law_757 ?_
  rw [nI_add i 3]
  refine va_sld C1.1 C1.2.1 hX hbl hbA hS (vp_in_nI (show i + 3 < L by omega) (by omega)) dL_law_758 ?_
  refine G_callV (w := wA w a2) (g := 1) (wr := qws 0 (wA w a1) N1) (mc := mX8_spreads) (As := [.int (xs (nI (i + 1)).toNatClampNeg), .int (xs (nI (i + 2)).toNatClampNeg), .int (xs (nI (i + 3)).toNatClampNeg)]) (r := 0) (rest := [_]) C2 hP hD hS hl.1 dL_law_759 lm_RL_95 mv_X8_spreads ⟨(Nat.le_of_ble_eq_true rfl), (Nat.le_of_ble_eq_true rfl)⟩ (by decide) rfl rfl rfl rfl (Nat.le_of_ble_eq_true rfl) hcs (n_spreads hM.1 hs.1 hs.2.1.2 hs.2.1.1) ?_
  rintro _ N2 H locs ⟨rfl, hO⟩ hP hD hS
  have hP := g_swap hP
  have hD := g_swapD hD
  refine W.lcmp C1.1 C1.2.1 dL_law_762 ?_
  refine lv_if_eq (tgt := 1101) C1.1 C1.2.1 dL_law_763 (by decide) (fun _ => ?_) (fun z => absurd ((lg_cmp_eq _ _).mpr rfl) z)
  exact kk _ _ _ _ H locs (by omega) hI2 (hM.sc hO) hP hD hS
set_option maxRecDepth 100000 in
set_option maxHeartbeats 8000000 in
theorem lc_19 {w : qWT} {a1 a2 : Nat → Nat} {p : Program} {e : Env} {s : State} {m : MethodId} {below : List Frame} {meth : Method} {c : Code} {b L : Nat} {xs : Nat → Int32} {Q : State → Prop} {cells slots : Nat} {i vb : Nat} {st : sT} {M1 M2 : qMem} {H : Heap} {locs : List Loc} {ls : Array Slot} (hcs : cells ≤ room_1.cells ∧ slots ≤ room_1.slots) (C1 : gCx (wA w a1) (lA s) RL cL_law 4 p s m #[Value.ref b] c) (C2 : gCx (wA w a2) (lA s) RL cL_law 4 p s m #[Value.ref b] c) (hX : va_X b L xs s s.heap) (hbl : b < s.heap.size) (hi : i + 5 ≤ L) (hL : L ≤ 2560) (hvb : vb ≤ 100000) (hI : XI vb M1 st) (hM : MI M2 st) (hP : va_P (q_D w) vwCl (qws 0 (wA w a1) M1 ++ qws 1 (wA w a2) M2) H) (hD : va_D (lA s) (qws 0 (wA w a1) M1 ++ qws 1 (wA w a2) M2)) (hS : va_S (lA s) s.heap H locs) (hl : lv_has ls 4 [(3, .int (nI i)), (2, .ref (a2 0)), (1, .ref (a1 0)), (0, .ref b)])
    (kk : ∀ (vb2 : Nat) (st2 : sT) (N1 N2 : qMem) (H2 : Heap) (locs2 : List Loc), vb2 ≤ vb + 20 → XI vb2 N1 st2 → MI N2 st2 → va_P (q_D w) vwCl (qws 0 (wA w a1) N1 ++ qws 1 (wA w a2) N2) H2 → va_D (lA s) (qws 0 (wA w a1) N1 ++ qws 1 (wA w a2) N2) → va_S (lA s) s.heap H2 locs2 → W p (q_l w) e room_1 s m #[Value.ref b] below meth c H2 locs2 cells slots Q (F0 m 1101 ls [])) : W p (q_l w) e room_1 s m #[Value.ref b] below meth c H locs cells slots Q (F0 m 768 ls []) := by
  have hs := hI.ok
  have hbA : ¬ lA s b := Nat.not_le.mpr hbl
  refine lv_aload_n C1.1 C1.2.1 dL_law_768 rfl (lv_at hl 2 rfl) ?_
  refine lv_aload_n C1.1 C1.2.1 dL_law_769 rfl (lv_at hl 3 rfl) ?_
  refine lv_iload_n C1.1 C1.2.1 dL_law_770 rfl (lv_at hl 0 rfl) ?_
  refine lv_iconst (v := nI 1) C1.1 C1.2.1 dL_law_771 rfl ?_
  refine lv_iadd C1.1 C1.2.1 dL_law_772 ?_
  rw [nI_add i 1]
  refine va_sld C1.1 C1.2.1 hX hbl hbA hS (vp_in_nI (show i + 1 < L by omega) (by omega)) dL_law_773 ?_
  refine lv_aload_n C1.1 C1.2.1 dL_law_774 rfl (lv_at hl 3 rfl) ?_
  refine lv_iload_n C1.1 C1.2.1 dL_law_775 rfl (lv_at hl 0 rfl) ?_
  refine lv_iconst (v := nI 2) C1.1 C1.2.1 dL_law_776 rfl ?_
  refine lv_iadd C1.1 C1.2.1 dL_law_777 ?_
  rw [nI_add i 2]
  refine va_sld C1.1 C1.2.1 hX hbl hbA hS (vp_in_nI (show i + 2 < L by omega) (by omega)) dL_law_778 ?_
  refine lv_aload_n C1.1 C1.2.1 dL_law_779 rfl (lv_at hl 3 rfl) ?_
  refine lv_iload_n C1.1 C1.2.1 dL_law_780 rfl (lv_at hl 0 rfl) ?_
  refine lv_iconst (v := nI 3) C1.1 C1.2.1 dL_law_781 rfl ?_
  refine lv_iadd C1.1 C1.2.1 dL_law_782 ?_
  rw [nI_add i 3]
  refine va_sld C1.1 C1.2.1 hX hbl hbA hS (vp_in_nI (show i + 3 < L by omega) (by omega)) dL_law_783 ?_
  refine G_callV (w := wA w a1) (g := 0) (wr := qws 1 (wA w a2) M2) (mc := mX7_breaks) (As := [.int (xs (nI (i + 1)).toNatClampNeg), .int (xs (nI (i + 2)).toNatClampNeg), .int (xs (nI (i + 3)).toNatClampNeg)]) (r := 0) (rest := []) C1 hP hD hS hl.1 dL_law_784 lm_RL_96 mv_X7_breaks ⟨(Nat.le_of_ble_eq_true rfl), (Nat.le_of_ble_eq_true rfl)⟩ (by decide) rfl rfl rfl rfl (by decide) hcs (o_breaks hI) ?_
  rintro _ N1 H locs ⟨rfl, hI2⟩ hP hD hS
  have hP := g_swap hP
  have hD := g_swapD hD
  refine lv_aload_n C1.1 C1.2.1 dL_law_787 rfl (lv_at hl 1 rfl) ?_
  refine lv_aload_n C1.1 C1.2.1 dL_law_788 rfl (lv_at hl 3 rfl) ?_
  refine lv_iload_n C1.1 C1.2.1 dL_law_789 rfl (lv_at hl 0 rfl) ?_
  refine lv_iconst (v := nI 1) C1.1 C1.2.1 dL_law_790 rfl ?_
  refine lv_iadd C1.1 C1.2.1 dL_law_791 ?_
  rw [nI_add i 1]
  refine va_sld C1.1 C1.2.1 hX hbl hbA hS (vp_in_nI (show i + 1 < L by omega) (by omega)) dL_law_792 ?_
  refine lv_aload_n C1.1 C1.2.1 dL_law_793 rfl (lv_at hl 3 rfl) ?_
  refine lv_iload_n C1.1 C1.2.1 dL_law_794 rfl (lv_at hl 0 rfl) ?_
  refine lv_iconst (v := nI 2) C1.1 C1.2.1 dL_law_795 rfl ?_
  refine lv_iadd C1.1 C1.2.1 dL_law_796 ?_
  rw [nI_add i 2]
  refine va_sld C1.1 C1.2.1 hX hbl hbA hS (vp_in_nI (show i + 2 < L by omega) (by omega)) dL_law_797 ?_
  refine lv_aload_n C1.1 C1.2.1 dL_law_798 rfl (lv_at hl 3 rfl) ?_
  refine lv_iload_n C1.1 C1.2.1 dL_law_799 rfl (lv_at hl 0 rfl) ?_
  refine lv_iconst (v := nI 3) C1.1 C1.2.1 dL_law_800 rfl ?_
  refine lv_iadd C1.1 C1.2.1 dL_law_801 ?_
  rw [nI_add i 3]
  refine va_sld C1.1 C1.2.1 hX hbl hbA hS (vp_in_nI (show i + 3 < L by omega) (by omega)) dL_law_802 ?_
  refine G_callV (w := wA w a2) (g := 1) (wr := qws 0 (wA w a1) N1) (mc := mX8_breaks) (As := [.int (xs (nI (i + 1)).toNatClampNeg), .int (xs (nI (i + 2)).toNatClampNeg), .int (xs (nI (i + 3)).toNatClampNeg)]) (r := 0) (rest := [_]) C2 hP hD hS hl.1 dL_law_803 lm_RL_99 mv_X8_breaks ⟨(Nat.le_of_ble_eq_true rfl), (Nat.le_of_ble_eq_true rfl)⟩ (by decide) rfl rfl rfl rfl (Nat.le_of_ble_eq_true rfl) hcs (n_breaks hM.1 hs.1 hs.2.1.2 hs.2.1.1) ?_
  rintro _ N2 H locs ⟨rfl, hO⟩ hP hD hS
  have hP := g_swap hP
  have hD := g_swapD hD
  refine lv_icmp_eq (tgt := 1101) C1.1 C1.2.1 dL_law_806 (by decide) (fun _ => ?_) (fun z => absurd rfl z)
  exact kk _ _ _ _ H locs (by omega) hI2 (hM.sc hO) hP hD hS
set_option maxRecDepth 100000 in
set_option maxHeartbeats 8000000 in
theorem lc_20 {w : qWT} {a1 a2 : Nat → Nat} {p : Program} {e : Env} {s : State} {m : MethodId} {below : List Frame} {meth : Method} {c : Code} {b L : Nat} {xs : Nat → Int32} {Q : State → Prop} {cells slots : Nat} {i vb : Nat} {st : sT} {M1 M2 : qMem} {H : Heap} {locs : List Loc} {ls : Array Slot} (hcs : cells ≤ room_1.cells ∧ slots ≤ room_1.slots) (C1 : gCx (wA w a1) (lA s) RL cL_law 4 p s m #[Value.ref b] c) (C2 : gCx (wA w a2) (lA s) RL cL_law 4 p s m #[Value.ref b] c) (hX : va_X b L xs s s.heap) (hbl : b < s.heap.size) (hi : i + 5 ≤ L) (hL : L ≤ 2560) (hvb : vb ≤ 100000) (hI : XI vb M1 st) (hM : MI M2 st) (hP : va_P (q_D w) vwCl (qws 0 (wA w a1) M1 ++ qws 1 (wA w a2) M2) H) (hD : va_D (lA s) (qws 0 (wA w a1) M1 ++ qws 1 (wA w a2) M2)) (hS : va_S (lA s) s.heap H locs) (hl : lv_has ls 4 [(3, .int (nI i)), (2, .ref (a2 0)), (1, .ref (a1 0)), (0, .ref b)])
    (kk : ∀ (vb2 : Nat) (st2 : sT) (N1 N2 : qMem) (H2 : Heap) (locs2 : List Loc), vb2 ≤ vb + 20 → XI vb2 N1 st2 → MI N2 st2 → va_P (q_D w) vwCl (qws 0 (wA w a1) N1 ++ qws 1 (wA w a2) N2) H2 → va_D (lA s) (qws 0 (wA w a1) N1 ++ qws 1 (wA w a2) N2) → va_S (lA s) s.heap H2 locs2 → W p (q_l w) e room_1 s m #[Value.ref b] below meth c H2 locs2 cells slots Q (F0 m 1101 ls [])) : W p (q_l w) e room_1 s m #[Value.ref b] below meth c H locs cells slots Q (F0 m 811 ls []) := by
  have hs := hI.ok
  have hbA : ¬ lA s b := Nat.not_le.mpr hbl
  refine lv_aload_n C1.1 C1.2.1 dL_law_811 rfl (lv_at hl 2 rfl) ?_
  refine lv_aload_n C1.1 C1.2.1 dL_law_812 rfl (lv_at hl 3 rfl) ?_
  refine lv_iload_n C1.1 C1.2.1 dL_law_813 rfl (lv_at hl 0 rfl) ?_
  refine lv_iconst (v := nI 1) C1.1 C1.2.1 dL_law_814 rfl ?_
  refine lv_iadd C1.1 C1.2.1 dL_law_815 ?_
  rw [nI_add i 1]
  refine va_sld C1.1 C1.2.1 hX hbl hbA hS (vp_in_nI (show i + 1 < L by omega) (by omega)) dL_law_816 ?_
  refine lv_aload_n C1.1 C1.2.1 dL_law_817 rfl (lv_at hl 3 rfl) ?_
  refine lv_iload_n C1.1 C1.2.1 dL_law_818 rfl (lv_at hl 0 rfl) ?_
  refine lv_iconst (v := nI 2) C1.1 C1.2.1 dL_law_819 rfl ?_
  refine lv_iadd C1.1 C1.2.1 dL_law_820 ?_
  rw [nI_add i 2]
  refine va_sld C1.1 C1.2.1 hX hbl hbA hS (vp_in_nI (show i + 2 < L by omega) (by omega)) dL_law_821 ?_
  refine lv_aload_n C1.1 C1.2.1 dL_law_822 rfl (lv_at hl 3 rfl) ?_
  refine lv_iload_n C1.1 C1.2.1 dL_law_823 rfl (lv_at hl 0 rfl) ?_
  refine lv_iconst (v := nI 3) C1.1 C1.2.1 dL_law_824 rfl ?_
  refine lv_iadd C1.1 C1.2.1 dL_law_825 ?_
  rw [nI_add i 3]
  refine va_sld C1.1 C1.2.1 hX hbl hbA hS (vp_in_nI (show i + 3 < L by omega) (by omega)) dL_law_826 ?_
  refine G_callV (w := wA w a1) (g := 0) (wr := qws 1 (wA w a2) M2) (mc := mX7_least) (As := [.int (xs (nI (i + 1)).toNatClampNeg), .int (xs (nI (i + 2)).toNatClampNeg), .int (xs (nI (i + 3)).toNatClampNeg)]) (r := 0) (rest := []) C1 hP hD hS hl.1 dL_law_827 lm_RL_100 mv_X7_least ⟨(Nat.le_of_ble_eq_true rfl), (Nat.le_of_ble_eq_true rfl)⟩ (by decide) rfl rfl rfl rfl (by decide) hcs (o_least hI) ?_
  rintro _ N1 H locs ⟨rfl, hI2⟩ hP hD hS
  have hP := g_swap hP
  have hD := g_swapD hD
  refine lv_aload_n C1.1 C1.2.1 dL_law_830 rfl (lv_at hl 1 rfl) ?_
  refine lv_aload_n C1.1 C1.2.1 dL_law_831 rfl (lv_at hl 3 rfl) ?_
  refine lv_iload_n C1.1 C1.2.1 dL_law_832 rfl (lv_at hl 0 rfl) ?_
  refine lv_iconst (v := nI 1) C1.1 C1.2.1 dL_law_833 rfl ?_
  refine lv_iadd C1.1 C1.2.1 dL_law_834 ?_
  rw [nI_add i 1]
  refine va_sld C1.1 C1.2.1 hX hbl hbA hS (vp_in_nI (show i + 1 < L by omega) (by omega)) dL_law_835 ?_
  refine lv_aload_n C1.1 C1.2.1 dL_law_836 rfl (lv_at hl 3 rfl) ?_
  refine lv_iload_n C1.1 C1.2.1 dL_law_837 rfl (lv_at hl 0 rfl) ?_
  refine lv_iconst (v := nI 2) C1.1 C1.2.1 dL_law_838 rfl ?_
  refine lv_iadd C1.1 C1.2.1 dL_law_839 ?_
  rw [nI_add i 2]
  refine va_sld C1.1 C1.2.1 hX hbl hbA hS (vp_in_nI (show i + 2 < L by omega) (by omega)) dL_law_840 ?_
  refine lv_aload_n C1.1 C1.2.1 dL_law_841 rfl (lv_at hl 3 rfl) ?_
  refine lv_iload_n C1.1 C1.2.1 dL_law_842 rfl (lv_at hl 0 rfl) ?_
  refine lv_iconst (v := nI 3) C1.1 C1.2.1 dL_law_843 rfl ?_
  refine lv_iadd C1.1 C1.2.1 dL_law_844 ?_
  rw [nI_add i 3]
  refine va_sld C1.1 C1.2.1 hX hbl hbA hS (vp_in_nI (show i + 3 < L by omega) (by omega)) dL_law_845 ?_
  refine G_callV (w := wA w a2) (g := 1) (wr := qws 0 (wA w a1) N1) (mc := mX8_least) (As := [.int (xs (nI (i + 1)).toNatClampNeg), .int (xs (nI (i + 2)).toNatClampNeg), .int (xs (nI (i + 3)).toNatClampNeg)]) (r := 0) (rest := [_]) C2 hP hD hS hl.1 dL_law_846 lm_RL_103 mv_X8_least ⟨(Nat.le_of_ble_eq_true rfl), (Nat.le_of_ble_eq_true rfl)⟩ (by decide) rfl rfl rfl rfl (Nat.le_of_ble_eq_true rfl) hcs (n_least hM.1 hs.1 hs.2.1.2 hs.2.1.1) ?_
  rintro _ N2 H locs ⟨rfl, hO⟩ hP hD hS
  have hP := g_swap hP
  have hD := g_swapD hD
  refine lv_icmp_eq (tgt := 1101) C1.1 C1.2.1 dL_law_849 (by decide) (fun _ => ?_) (fun z => absurd rfl z)
  exact kk _ _ _ _ H locs (by omega) hI2 (hM.sc hO) hP hD hS
set_option maxRecDepth 100000 in
set_option maxHeartbeats 8000000 in
theorem lc_21 {w : qWT} {a1 a2 : Nat → Nat} {p : Program} {e : Env} {s : State} {m : MethodId} {below : List Frame} {meth : Method} {c : Code} {b L : Nat} {xs : Nat → Int32} {Q : State → Prop} {cells slots : Nat} {i vb : Nat} {st : sT} {M1 M2 : qMem} {H : Heap} {locs : List Loc} {ls : Array Slot} (hcs : cells ≤ room_1.cells ∧ slots ≤ room_1.slots) (C1 : gCx (wA w a1) (lA s) RL cL_law 4 p s m #[Value.ref b] c) (C2 : gCx (wA w a2) (lA s) RL cL_law 4 p s m #[Value.ref b] c) (hX : va_X b L xs s s.heap) (hbl : b < s.heap.size) (hi : i + 5 ≤ L) (hL : L ≤ 2560) (hvb : vb ≤ 100000) (hI : XI vb M1 st) (hM : MI M2 st) (hP : va_P (q_D w) vwCl (qws 0 (wA w a1) M1 ++ qws 1 (wA w a2) M2) H) (hD : va_D (lA s) (qws 0 (wA w a1) M1 ++ qws 1 (wA w a2) M2)) (hS : va_S (lA s) s.heap H locs) (hl : lv_has ls 4 [(3, .int (nI i)), (2, .ref (a2 0)), (1, .ref (a1 0)), (0, .ref b)])
    (kk : ∀ (vb2 : Nat) (st2 : sT) (N1 N2 : qMem) (H2 : Heap) (locs2 : List Loc), vb2 ≤ vb + 20 → XI vb2 N1 st2 → MI N2 st2 → va_P (q_D w) vwCl (qws 0 (wA w a1) N1 ++ qws 1 (wA w a2) N2) H2 → va_D (lA s) (qws 0 (wA w a1) N1 ++ qws 1 (wA w a2) N2) → va_S (lA s) s.heap H2 locs2 → W p (q_l w) e room_1 s m #[Value.ref b] below meth c H2 locs2 cells slots Q (F0 m 1101 ls [])) : W p (q_l w) e room_1 s m #[Value.ref b] below meth c H locs cells slots Q (F0 m 854 ls []) := by
  have hs := hI.ok
  have hbA : ¬ lA s b := Nat.not_le.mpr hbl
  refine lv_aload_n C1.1 C1.2.1 dL_law_854 rfl (lv_at hl 2 rfl) ?_
  refine lv_aload_n C1.1 C1.2.1 dL_law_855 rfl (lv_at hl 3 rfl) ?_
  refine lv_iload_n C1.1 C1.2.1 dL_law_856 rfl (lv_at hl 0 rfl) ?_
  refine lv_iconst (v := nI 1) C1.1 C1.2.1 dL_law_857 rfl ?_
  refine lv_iadd C1.1 C1.2.1 dL_law_858 ?_
  rw [nI_add i 1]
  refine va_sld C1.1 C1.2.1 hX hbl hbA hS (vp_in_nI (show i + 1 < L by omega) (by omega)) dL_law_859 ?_
  refine lv_aload_n C1.1 C1.2.1 dL_law_860 rfl (lv_at hl 3 rfl) ?_
  refine lv_iload_n C1.1 C1.2.1 dL_law_861 rfl (lv_at hl 0 rfl) ?_
  refine lv_iconst (v := nI 2) C1.1 C1.2.1 dL_law_862 rfl ?_
  refine lv_iadd C1.1 C1.2.1 dL_law_863 ?_
  rw [nI_add i 2]
  refine va_sld C1.1 C1.2.1 hX hbl hbA hS (vp_in_nI (show i + 2 < L by omega) (by omega)) dL_law_864 ?_
  refine G_callV (w := wA w a1) (g := 0) (wr := qws 1 (wA w a2) M2) (mc := mX7_votes) (As := [.int (xs (nI (i + 1)).toNatClampNeg), .int (xs (nI (i + 2)).toNatClampNeg)]) (r := 0) (rest := []) C1 hP hD hS hl.1 dL_law_865 lm_RL_104 mv_X7_votes ⟨(Nat.le_of_ble_eq_true rfl), (Nat.le_of_ble_eq_true rfl)⟩ (by decide) rfl rfl rfl rfl (by decide) hcs (o_votes hI) ?_
  rintro _ N1 H locs ⟨rfl, hI2⟩ hP hD hS
  have hP := g_swap hP
  have hD := g_swapD hD
  refine lv_aload_n C1.1 C1.2.1 dL_law_868 rfl (lv_at hl 1 rfl) ?_
  refine lv_aload_n C1.1 C1.2.1 dL_law_869 rfl (lv_at hl 3 rfl) ?_
  refine lv_iload_n C1.1 C1.2.1 dL_law_870 rfl (lv_at hl 0 rfl) ?_
  refine lv_iconst (v := nI 1) C1.1 C1.2.1 dL_law_871 rfl ?_
  refine lv_iadd C1.1 C1.2.1 dL_law_872 ?_
  rw [nI_add i 1]
  refine va_sld C1.1 C1.2.1 hX hbl hbA hS (vp_in_nI (show i + 1 < L by omega) (by omega)) dL_law_873 ?_
  refine lv_aload_n C1.1 C1.2.1 dL_law_874 rfl (lv_at hl 3 rfl) ?_
  refine lv_iload_n C1.1 C1.2.1 dL_law_875 rfl (lv_at hl 0 rfl) ?_
  refine lv_iconst (v := nI 2) C1.1 C1.2.1 dL_law_876 rfl ?_
  refine lv_iadd C1.1 C1.2.1 dL_law_877 ?_
  rw [nI_add i 2]
  refine va_sld C1.1 C1.2.1 hX hbl hbA hS (vp_in_nI (show i + 2 < L by omega) (by omega)) dL_law_878 ?_
  refine G_callV (w := wA w a2) (g := 1) (wr := qws 0 (wA w a1) N1) (mc := mX8_votes) (As := [.int (xs (nI (i + 1)).toNatClampNeg), .int (xs (nI (i + 2)).toNatClampNeg)]) (r := 0) (rest := [_]) C2 hP hD hS hl.1 dL_law_879 lm_RL_107 mv_X8_votes ⟨(Nat.le_of_ble_eq_true rfl), (Nat.le_of_ble_eq_true rfl)⟩ (by decide) rfl rfl rfl rfl (Nat.le_of_ble_eq_true rfl) hcs (p_votes hM hs) ?_
  rintro _ N2 H locs ⟨rfl, hM2⟩ hP hD hS
  have hP := g_swap hP
  have hD := g_swapD hD
  refine lv_icmp_eq (tgt := 1101) C1.1 C1.2.1 dL_law_882 (by decide) (fun _ => ?_) (fun z => absurd rfl z)
  exact kk _ _ _ _ H locs (by omega) hI2 (hM2) hP hD hS
set_option maxRecDepth 100000 in
set_option maxHeartbeats 8000000 in
theorem lc_22 {w : qWT} {a1 a2 : Nat → Nat} {p : Program} {e : Env} {s : State} {m : MethodId} {below : List Frame} {meth : Method} {c : Code} {b L : Nat} {xs : Nat → Int32} {Q : State → Prop} {cells slots : Nat} {i vb : Nat} {st : sT} {M1 M2 : qMem} {H : Heap} {locs : List Loc} {ls : Array Slot} (hcs : cells ≤ room_1.cells ∧ slots ≤ room_1.slots) (C1 : gCx (wA w a1) (lA s) RL cL_law 4 p s m #[Value.ref b] c) (C2 : gCx (wA w a2) (lA s) RL cL_law 4 p s m #[Value.ref b] c) (hX : va_X b L xs s s.heap) (hbl : b < s.heap.size) (hi : i + 5 ≤ L) (hL : L ≤ 2560) (hvb : vb ≤ 100000) (hI : XI vb M1 st) (hM : MI M2 st) (hP : va_P (q_D w) vwCl (qws 0 (wA w a1) M1 ++ qws 1 (wA w a2) M2) H) (hD : va_D (lA s) (qws 0 (wA w a1) M1 ++ qws 1 (wA w a2) M2)) (hS : va_S (lA s) s.heap H locs) (hl : lv_has ls 4 [(3, .int (nI i)), (2, .ref (a2 0)), (1, .ref (a1 0)), (0, .ref b)])
    (kk : ∀ (vb2 : Nat) (st2 : sT) (N1 N2 : qMem) (H2 : Heap) (locs2 : List Loc), vb2 ≤ vb + 20 → XI vb2 N1 st2 → MI N2 st2 → va_P (q_D w) vwCl (qws 0 (wA w a1) N1 ++ qws 1 (wA w a2) N2) H2 → va_D (lA s) (qws 0 (wA w a1) N1 ++ qws 1 (wA w a2) N2) → va_S (lA s) s.heap H2 locs2 → W p (q_l w) e room_1 s m #[Value.ref b] below meth c H2 locs2 cells slots Q (F0 m 1101 ls [])) : W p (q_l w) e room_1 s m #[Value.ref b] below meth c H locs cells slots Q (F0 m 887 ls []) := by
  have hs := hI.ok
  have hbA : ¬ lA s b := Nat.not_le.mpr hbl
  refine lv_aload_n C1.1 C1.2.1 dL_law_887 rfl (lv_at hl 2 rfl) ?_
  refine lv_aload_n C1.1 C1.2.1 dL_law_888 rfl (lv_at hl 3 rfl) ?_
  refine lv_iload_n C1.1 C1.2.1 dL_law_889 rfl (lv_at hl 0 rfl) ?_
  refine lv_iconst (v := nI 1) C1.1 C1.2.1 dL_law_890 rfl ?_
  refine lv_iadd C1.1 C1.2.1 dL_law_891 ?_
  rw [nI_add i 1]
  refine va_sld C1.1 C1.2.1 hX hbl hbA hS (vp_in_nI (show i + 1 < L by omega) (by omega)) dL_law_892 ?_
  refine lv_aload_n C1.1 C1.2.1 dL_law_893 rfl (lv_at hl 3 rfl) ?_
  refine lv_iload_n C1.1 C1.2.1 dL_law_894 rfl (lv_at hl 0 rfl) ?_
  refine lv_iconst (v := nI 2) C1.1 C1.2.1 dL_law_895 rfl ?_
  refine lv_iadd C1.1 C1.2.1 dL_law_896 ?_
  rw [nI_add i 2]
  refine va_sld C1.1 C1.2.1 hX hbl hbA hS (vp_in_nI (show i + 2 < L by omega) (by omega)) dL_law_897 ?_
  refine G_callV (w := wA w a1) (g := 0) (wr := qws 1 (wA w a2) M2) (mc := mX7_culprit) (As := [.int (xs (nI (i + 1)).toNatClampNeg), .int (xs (nI (i + 2)).toNatClampNeg)]) (r := 0) (rest := []) C1 hP hD hS hl.1 dL_law_898 lm_RL_108 mv_X7_culprit ⟨(Nat.le_of_ble_eq_true rfl), (Nat.le_of_ble_eq_true rfl)⟩ (by decide) rfl rfl rfl rfl (by decide) hcs (o_culprit hI) ?_
  rintro _ N1 H locs ⟨rfl, hI2⟩ hP hD hS
  have hP := g_swap hP
  have hD := g_swapD hD
  refine lv_aload_n C1.1 C1.2.1 dL_law_901 rfl (lv_at hl 1 rfl) ?_
  refine lv_aload_n C1.1 C1.2.1 dL_law_902 rfl (lv_at hl 3 rfl) ?_
  refine lv_iload_n C1.1 C1.2.1 dL_law_903 rfl (lv_at hl 0 rfl) ?_
  refine lv_iconst (v := nI 1) C1.1 C1.2.1 dL_law_904 rfl ?_
  refine lv_iadd C1.1 C1.2.1 dL_law_905 ?_
  rw [nI_add i 1]
  refine va_sld C1.1 C1.2.1 hX hbl hbA hS (vp_in_nI (show i + 1 < L by omega) (by omega)) dL_law_906 ?_
  refine lv_aload_n C1.1 C1.2.1 dL_law_907 rfl (lv_at hl 3 rfl) ?_
  refine lv_iload_n C1.1 C1.2.1 dL_law_908 rfl (lv_at hl 0 rfl) ?_
  refine lv_iconst (v := nI 2) C1.1 C1.2.1 dL_law_909 rfl ?_
  refine lv_iadd C1.1 C1.2.1 dL_law_910 ?_
  rw [nI_add i 2]
  refine va_sld C1.1 C1.2.1 hX hbl hbA hS (vp_in_nI (show i + 2 < L by omega) (by omega)) dL_law_911 ?_
  refine G_callV (w := wA w a2) (g := 1) (wr := qws 0 (wA w a1) N1) (mc := mX8_culprit) (As := [.int (xs (nI (i + 1)).toNatClampNeg), .int (xs (nI (i + 2)).toNatClampNeg)]) (r := 0) (rest := [_]) C2 hP hD hS hl.1 dL_law_912 lm_RL_111 mv_X8_culprit ⟨(Nat.le_of_ble_eq_true rfl), (Nat.le_of_ble_eq_true rfl)⟩ (by decide) rfl rfl rfl rfl (Nat.le_of_ble_eq_true rfl) hcs (p_culprit hM hs) ?_
  rintro _ N2 H locs ⟨rfl, hM2⟩ hP hD hS
  have hP := g_swap hP
  have hD := g_swapD hD
  refine lv_icmp_eq (tgt := 1101) C1.1 C1.2.1 dL_law_915 (by decide) (fun _ => ?_) (fun z => absurd rfl z)
  exact kk _ _ _ _ H locs (by omega) hI2 (hM2) hP hD hS
set_option maxRecDepth 100000 in
set_option maxHeartbeats 8000000 in
theorem lc_23 {w : qWT} {a1 a2 : Nat → Nat} {p : Program} {e : Env} {s : State} {m : MethodId} {below : List Frame} {meth : Method} {c : Code} {b L : Nat} {xs : Nat → Int32} {Q : State → Prop} {cells slots : Nat} {i vb : Nat} {st : sT} {M1 M2 : qMem} {H : Heap} {locs : List Loc} {ls : Array Slot} (hcs : cells ≤ room_1.cells ∧ slots ≤ room_1.slots) (C1 : gCx (wA w a1) (lA s) RL cL_law 4 p s m #[Value.ref b] c) (C2 : gCx (wA w a2) (lA s) RL cL_law 4 p s m #[Value.ref b] c) (hX : va_X b L xs s s.heap) (hbl : b < s.heap.size) (hi : i + 5 ≤ L) (hL : L ≤ 2560) (hvb : vb ≤ 100000) (hI : XI vb M1 st) (hM : MI M2 st) (hP : va_P (q_D w) vwCl (qws 0 (wA w a1) M1 ++ qws 1 (wA w a2) M2) H) (hD : va_D (lA s) (qws 0 (wA w a1) M1 ++ qws 1 (wA w a2) M2)) (hS : va_S (lA s) s.heap H locs) (hl : lv_has ls 4 [(3, .int (nI i)), (2, .ref (a2 0)), (1, .ref (a1 0)), (0, .ref b)])
    (kk : ∀ (vb2 : Nat) (st2 : sT) (N1 N2 : qMem) (H2 : Heap) (locs2 : List Loc), vb2 ≤ vb + 20 → XI vb2 N1 st2 → MI N2 st2 → va_P (q_D w) vwCl (qws 0 (wA w a1) N1 ++ qws 1 (wA w a2) N2) H2 → va_D (lA s) (qws 0 (wA w a1) N1 ++ qws 1 (wA w a2) N2) → va_S (lA s) s.heap H2 locs2 → W p (q_l w) e room_1 s m #[Value.ref b] below meth c H2 locs2 cells slots Q (F0 m 1101 ls [])) : W p (q_l w) e room_1 s m #[Value.ref b] below meth c H locs cells slots Q (F0 m 920 ls []) := by
  have hs := hI.ok
  have hbA : ¬ lA s b := Nat.not_le.mpr hbl
  refine lv_aload_n C1.1 C1.2.1 dL_law_920 rfl (lv_at hl 2 rfl) ?_
  refine lv_aload_n C1.1 C1.2.1 dL_law_921 rfl (lv_at hl 3 rfl) ?_
  refine lv_iload_n C1.1 C1.2.1 dL_law_922 rfl (lv_at hl 0 rfl) ?_
  refine lv_iconst (v := nI 1) C1.1 C1.2.1 dL_law_923 rfl ?_
  refine lv_iadd C1.1 C1.2.1 dL_law_924 ?_
  rw [nI_add i 1]
  refine va_sld C1.1 C1.2.1 hX hbl hbA hS (vp_in_nI (show i + 1 < L by omega) (by omega)) dL_law_925 ?_
  refine G_callV (w := wA w a1) (g := 0) (wr := qws 1 (wA w a2) M2) (mc := mX7_mend) (As := [.int (xs (nI (i + 1)).toNatClampNeg)]) (r := 0) (rest := []) C1 hP hD hS hl.1 dL_law_926 lm_RL_112 mv_X7_mend ⟨(Nat.le_of_ble_eq_true rfl), (Nat.le_of_ble_eq_true rfl)⟩ (by decide) rfl rfl rfl rfl (by decide) hcs (o_mend hI (by omega)) ?_
  rintro _ N1 H locs ⟨rfl, hI2⟩ hP hD hS
  have hP := g_swap hP
  have hD := g_swapD hD
  refine lv_aload_n C1.1 C1.2.1 dL_law_929 rfl (lv_at hl 1 rfl) ?_
  refine lv_aload_n C1.1 C1.2.1 dL_law_930 rfl (lv_at hl 3 rfl) ?_
  refine lv_iload_n C1.1 C1.2.1 dL_law_931 rfl (lv_at hl 0 rfl) ?_
  refine lv_iconst (v := nI 1) C1.1 C1.2.1 dL_law_932 rfl ?_
  refine lv_iadd C1.1 C1.2.1 dL_law_933 ?_
  rw [nI_add i 1]
  refine va_sld C1.1 C1.2.1 hX hbl hbA hS (vp_in_nI (show i + 1 < L by omega) (by omega)) dL_law_934 ?_
  refine G_callV (w := wA w a2) (g := 1) (wr := qws 0 (wA w a1) N1) (mc := mX8_mend) (As := [.int (xs (nI (i + 1)).toNatClampNeg)]) (r := 0) (rest := [_]) C2 hP hD hS hl.1 dL_law_935 lm_RL_115 mv_X8_mend ⟨(Nat.le_of_ble_eq_true rfl), (Nat.le_of_ble_eq_true rfl)⟩ (by decide) rfl rfl rfl rfl (Nat.le_of_ble_eq_true rfl) hcs (p_mend hM hs) ?_
  rintro _ N2 H locs ⟨rfl, hM2⟩ hP hD hS
  have hP := g_swap hP
  have hD := g_swapD hD
  refine lv_icmp_eq (tgt := 1101) C1.1 C1.2.1 dL_law_938 (by decide) (fun _ => ?_) (fun z => absurd rfl z)
  exact kk _ _ _ _ H locs (by omega) hI2 (hM2) hP hD hS
set_option maxRecDepth 100000 in
set_option maxHeartbeats 8000000 in
theorem lc_24 {w : qWT} {a1 a2 : Nat → Nat} {p : Program} {e : Env} {s : State} {m : MethodId} {below : List Frame} {meth : Method} {c : Code} {b L : Nat} {xs : Nat → Int32} {Q : State → Prop} {cells slots : Nat} {i vb : Nat} {st : sT} {M1 M2 : qMem} {H : Heap} {locs : List Loc} {ls : Array Slot} (hcs : cells ≤ room_1.cells ∧ slots ≤ room_1.slots) (C1 : gCx (wA w a1) (lA s) RL cL_law 4 p s m #[Value.ref b] c) (C2 : gCx (wA w a2) (lA s) RL cL_law 4 p s m #[Value.ref b] c) (hX : va_X b L xs s s.heap) (hbl : b < s.heap.size) (hi : i + 5 ≤ L) (hL : L ≤ 2560) (hvb : vb ≤ 100000) (hI : XI vb M1 st) (hM : MI M2 st) (hP : va_P (q_D w) vwCl (qws 0 (wA w a1) M1 ++ qws 1 (wA w a2) M2) H) (hD : va_D (lA s) (qws 0 (wA w a1) M1 ++ qws 1 (wA w a2) M2)) (hS : va_S (lA s) s.heap H locs) (hl : lv_has ls 4 [(3, .int (nI i)), (2, .ref (a2 0)), (1, .ref (a1 0)), (0, .ref b)])
    (kk : ∀ (vb2 : Nat) (st2 : sT) (N1 N2 : qMem) (H2 : Heap) (locs2 : List Loc), vb2 ≤ vb + 20 → XI vb2 N1 st2 → MI N2 st2 → va_P (q_D w) vwCl (qws 0 (wA w a1) N1 ++ qws 1 (wA w a2) N2) H2 → va_D (lA s) (qws 0 (wA w a1) N1 ++ qws 1 (wA w a2) N2) → va_S (lA s) s.heap H2 locs2 → W p (q_l w) e room_1 s m #[Value.ref b] below meth c H2 locs2 cells slots Q (F0 m 1101 ls [])) : W p (q_l w) e room_1 s m #[Value.ref b] below meth c H locs cells slots Q (F0 m 943 ls []) := by
  have hs := hI.ok
  have hbA : ¬ lA s b := Nat.not_le.mpr hbl
  refine lv_aload_n C1.1 C1.2.1 dL_law_943 rfl (lv_at hl 2 rfl) ?_
  refine G_callV (w := wA w a1) (g := 0) (wr := qws 1 (wA w a2) M2) (mc := mX7_mends) (As := []) (r := 0) (rest := []) C1 hP hD hS hl.1 dL_law_944 lm_RL_116 mv_X7_mends ⟨(Nat.le_of_ble_eq_true rfl), (Nat.le_of_ble_eq_true rfl)⟩ (by decide) rfl rfl rfl rfl (by decide) hcs (o_mends hI (by omega)) ?_
  rintro _ N1 H locs ⟨rfl, hI2⟩ hP hD hS
  have hP := g_swap hP
  have hD := g_swapD hD
  refine lv_aload_n C1.1 C1.2.1 dL_law_947 rfl (lv_at hl 1 rfl) ?_
  refine G_callV (w := wA w a2) (g := 1) (wr := qws 0 (wA w a1) N1) (mc := mX8_mends) (As := []) (r := 0) (rest := [_]) C2 hP hD hS hl.1 dL_law_948 lm_RL_119 mv_X8_mends ⟨(Nat.le_of_ble_eq_true rfl), (Nat.le_of_ble_eq_true rfl)⟩ (by decide) rfl rfl rfl rfl (Nat.le_of_ble_eq_true rfl) hcs (p_mends hM hs) ?_
  rintro _ N2 H locs ⟨rfl, hM2⟩ hP hD hS
  have hP := g_swap hP
  have hD := g_swapD hD
  refine lv_icmp_eq (tgt := 1101) C1.1 C1.2.1 dL_law_951 (by decide) (fun _ => ?_) (fun z => absurd rfl z)
  exact kk _ _ _ _ H locs (by omega) hI2 (hM2) hP hD hS
set_option maxRecDepth 100000 in
set_option maxHeartbeats 8000000 in
theorem lc_25 {w : qWT} {a1 a2 : Nat → Nat} {p : Program} {e : Env} {s : State} {m : MethodId} {below : List Frame} {meth : Method} {c : Code} {b L : Nat} {xs : Nat → Int32} {Q : State → Prop} {cells slots : Nat} {i vb : Nat} {st : sT} {M1 M2 : qMem} {H : Heap} {locs : List Loc} {ls : Array Slot} (hcs : cells ≤ room_1.cells ∧ slots ≤ room_1.slots) (C1 : gCx (wA w a1) (lA s) RL cL_law 4 p s m #[Value.ref b] c) (C2 : gCx (wA w a2) (lA s) RL cL_law 4 p s m #[Value.ref b] c) (hX : va_X b L xs s s.heap) (hbl : b < s.heap.size) (hi : i + 5 ≤ L) (hL : L ≤ 2560) (hvb : vb ≤ 100000) (hI : XI vb M1 st) (hM : MI M2 st) (hP : va_P (q_D w) vwCl (qws 0 (wA w a1) M1 ++ qws 1 (wA w a2) M2) H) (hD : va_D (lA s) (qws 0 (wA w a1) M1 ++ qws 1 (wA w a2) M2)) (hS : va_S (lA s) s.heap H locs) (hl : lv_has ls 4 [(3, .int (nI i)), (2, .ref (a2 0)), (1, .ref (a1 0)), (0, .ref b)])
    (kk : ∀ (vb2 : Nat) (st2 : sT) (N1 N2 : qMem) (H2 : Heap) (locs2 : List Loc), vb2 ≤ vb + 20 → XI vb2 N1 st2 → MI N2 st2 → va_P (q_D w) vwCl (qws 0 (wA w a1) N1 ++ qws 1 (wA w a2) N2) H2 → va_D (lA s) (qws 0 (wA w a1) N1 ++ qws 1 (wA w a2) N2) → va_S (lA s) s.heap H2 locs2 → W p (q_l w) e room_1 s m #[Value.ref b] below meth c H2 locs2 cells slots Q (F0 m 1101 ls [])) : W p (q_l w) e room_1 s m #[Value.ref b] below meth c H locs cells slots Q (F0 m 956 ls []) := by
  have hs := hI.ok
  have hbA : ¬ lA s b := Nat.not_le.mpr hbl
  refine lv_aload_n C1.1 C1.2.1 dL_law_956 rfl (lv_at hl 2 rfl) ?_
  refine lv_aload_n C1.1 C1.2.1 dL_law_957 rfl (lv_at hl 3 rfl) ?_
  refine lv_iload_n C1.1 C1.2.1 dL_law_958 rfl (lv_at hl 0 rfl) ?_
  refine lv_iconst (v := nI 1) C1.1 C1.2.1 dL_law_959 rfl ?_
  refine lv_iadd C1.1 C1.2.1 dL_law_960 ?_
  rw [nI_add i 1]
  refine va_sld C1.1 C1.2.1 hX hbl hbA hS (vp_in_nI (show i + 1 < L by omega) (by omega)) dL_law_961 ?_
  refine lv_aload_n C1.1 C1.2.1 dL_law_962 rfl (lv_at hl 3 rfl) ?_
  refine lv_iload_n C1.1 C1.2.1 dL_law_963 rfl (lv_at hl 0 rfl) ?_
  refine lv_iconst (v := nI 2) C1.1 C1.2.1 dL_law_964 rfl ?_
  refine lv_iadd C1.1 C1.2.1 dL_law_965 ?_
  rw [nI_add i 2]
  refine va_sld C1.1 C1.2.1 hX hbl hbA hS (vp_in_nI (show i + 2 < L by omega) (by omega)) dL_law_966 ?_
  refine G_callV (w := wA w a1) (g := 0) (wr := qws 1 (wA w a2) M2) (mc := mX7_ledger) (As := [.int (xs (nI (i + 1)).toNatClampNeg), .int (xs (nI (i + 2)).toNatClampNeg)]) (r := 0) (rest := []) C1 hP hD hS hl.1 dL_law_967 lm_RL_120 mv_X7_ledger ⟨(Nat.le_of_ble_eq_true rfl), (Nat.le_of_ble_eq_true rfl)⟩ (by decide) rfl rfl rfl rfl (by decide) hcs (o_ledger hI) ?_
  rintro _ N1 H locs ⟨rfl, hI2⟩ hP hD hS
  have hP := g_swap hP
  have hD := g_swapD hD
  refine lv_aload_n C1.1 C1.2.1 dL_law_970 rfl (lv_at hl 1 rfl) ?_
  refine lv_aload_n C1.1 C1.2.1 dL_law_971 rfl (lv_at hl 3 rfl) ?_
  refine lv_iload_n C1.1 C1.2.1 dL_law_972 rfl (lv_at hl 0 rfl) ?_
  refine lv_iconst (v := nI 1) C1.1 C1.2.1 dL_law_973 rfl ?_
  refine lv_iadd C1.1 C1.2.1 dL_law_974 ?_
  rw [nI_add i 1]
  refine va_sld C1.1 C1.2.1 hX hbl hbA hS (vp_in_nI (show i + 1 < L by omega) (by omega)) dL_law_975 ?_
  refine lv_aload_n C1.1 C1.2.1 dL_law_976 rfl (lv_at hl 3 rfl) ?_
  refine lv_iload_n C1.1 C1.2.1 dL_law_977 rfl (lv_at hl 0 rfl) ?_
  refine lv_iconst (v := nI 2) C1.1 C1.2.1 dL_law_978 rfl ?_
  refine lv_iadd C1.1 C1.2.1 dL_law_979 ?_
  rw [nI_add i 2]
  refine va_sld C1.1 C1.2.1 hX hbl hbA hS (vp_in_nI (show i + 2 < L by omega) (by omega)) dL_law_980 ?_
  refine G_callV (w := wA w a2) (g := 1) (wr := qws 0 (wA w a1) N1) (mc := mX8_ledger) (As := [.int (xs (nI (i + 1)).toNatClampNeg), .int (xs (nI (i + 2)).toNatClampNeg)]) (r := 0) (rest := [_]) C2 hP hD hS hl.1 dL_law_981 lm_RL_123 mv_X8_ledger ⟨(Nat.le_of_ble_eq_true rfl), (Nat.le_of_ble_eq_true rfl)⟩ (by decide) rfl rfl rfl rfl (Nat.le_of_ble_eq_true rfl) hcs (p_ledger hM hs) ?_
  rintro _ N2 H locs ⟨rfl, hM2⟩ hP hD hS
  have hP := g_swap hP
  have hD := g_swapD hD
  refine lv_icmp_eq (tgt := 1101) C1.1 C1.2.1 dL_law_984 (by decide) (fun _ => ?_) (fun z => absurd rfl z)
  exact kk _ _ _ _ H locs (by omega) hI2 (hM2) hP hD hS
set_option maxRecDepth 100000 in
set_option maxHeartbeats 8000000 in
theorem lc_26 {w : qWT} {a1 a2 : Nat → Nat} {p : Program} {e : Env} {s : State} {m : MethodId} {below : List Frame} {meth : Method} {c : Code} {b L : Nat} {xs : Nat → Int32} {Q : State → Prop} {cells slots : Nat} {i vb : Nat} {st : sT} {M1 M2 : qMem} {H : Heap} {locs : List Loc} {ls : Array Slot} (hcs : cells ≤ room_1.cells ∧ slots ≤ room_1.slots) (C1 : gCx (wA w a1) (lA s) RL cL_law 4 p s m #[Value.ref b] c) (C2 : gCx (wA w a2) (lA s) RL cL_law 4 p s m #[Value.ref b] c) (hX : va_X b L xs s s.heap) (hbl : b < s.heap.size) (hi : i + 5 ≤ L) (hL : L ≤ 2560) (hvb : vb ≤ 100000) (hI : XI vb M1 st) (hM : MI M2 st) (hP : va_P (q_D w) vwCl (qws 0 (wA w a1) M1 ++ qws 1 (wA w a2) M2) H) (hD : va_D (lA s) (qws 0 (wA w a1) M1 ++ qws 1 (wA w a2) M2)) (hS : va_S (lA s) s.heap H locs) (hl : lv_has ls 4 [(3, .int (nI i)), (2, .ref (a2 0)), (1, .ref (a1 0)), (0, .ref b)])
    (kk : ∀ (vb2 : Nat) (st2 : sT) (N1 N2 : qMem) (H2 : Heap) (locs2 : List Loc), vb2 ≤ vb + 20 → XI vb2 N1 st2 → MI N2 st2 → va_P (q_D w) vwCl (qws 0 (wA w a1) N1 ++ qws 1 (wA w a2) N2) H2 → va_D (lA s) (qws 0 (wA w a1) N1 ++ qws 1 (wA w a2) N2) → va_S (lA s) s.heap H2 locs2 → W p (q_l w) e room_1 s m #[Value.ref b] below meth c H2 locs2 cells slots Q (F0 m 1101 ls [])) : W p (q_l w) e room_1 s m #[Value.ref b] below meth c H locs cells slots Q (F0 m 989 ls []) := by
  have hs := hI.ok
  have hbA : ¬ lA s b := Nat.not_le.mpr hbl
  refine lv_aload_n C1.1 C1.2.1 dL_law_989 rfl (lv_at hl 2 rfl) ?_
  refine lv_aload_n C1.1 C1.2.1 dL_law_990 rfl (lv_at hl 3 rfl) ?_
  refine lv_iload_n C1.1 C1.2.1 dL_law_991 rfl (lv_at hl 0 rfl) ?_
  refine lv_iconst (v := nI 1) C1.1 C1.2.1 dL_law_992 rfl ?_
  refine lv_iadd C1.1 C1.2.1 dL_law_993 ?_
  rw [nI_add i 1]
  refine va_sld C1.1 C1.2.1 hX hbl hbA hS (vp_in_nI (show i + 1 < L by omega) (by omega)) dL_law_994 ?_
  refine lv_aload_n C1.1 C1.2.1 dL_law_995 rfl (lv_at hl 3 rfl) ?_
  refine lv_iload_n C1.1 C1.2.1 dL_law_996 rfl (lv_at hl 0 rfl) ?_
  refine lv_iconst (v := nI 2) C1.1 C1.2.1 dL_law_997 rfl ?_
  refine lv_iadd C1.1 C1.2.1 dL_law_998 ?_
  rw [nI_add i 2]
  refine va_sld C1.1 C1.2.1 hX hbl hbA hS (vp_in_nI (show i + 2 < L by omega) (by omega)) dL_law_999 ?_
  refine G_callV (w := wA w a1) (g := 0) (wr := qws 1 (wA w a2) M2) (mc := mX7_made) (As := [.int (xs (nI (i + 1)).toNatClampNeg), .int (xs (nI (i + 2)).toNatClampNeg)]) (r := 0) (rest := []) C1 hP hD hS hl.1 dL_law_1000 lm_RL_124 mv_X7_made ⟨(Nat.le_of_ble_eq_true rfl), (Nat.le_of_ble_eq_true rfl)⟩ (by decide) rfl rfl rfl rfl (by decide) hcs (o_made hI) ?_
  rintro _ N1 H locs ⟨rfl, hI2⟩ hP hD hS
  have hP := g_swap hP
  have hD := g_swapD hD
  refine lv_aload_n C1.1 C1.2.1 dL_law_1003 rfl (lv_at hl 1 rfl) ?_
  refine lv_aload_n C1.1 C1.2.1 dL_law_1004 rfl (lv_at hl 3 rfl) ?_
  refine lv_iload_n C1.1 C1.2.1 dL_law_1005 rfl (lv_at hl 0 rfl) ?_
  refine lv_iconst (v := nI 1) C1.1 C1.2.1 dL_law_1006 rfl ?_
  refine lv_iadd C1.1 C1.2.1 dL_law_1007 ?_
  rw [nI_add i 1]
  refine va_sld C1.1 C1.2.1 hX hbl hbA hS (vp_in_nI (show i + 1 < L by omega) (by omega)) dL_law_1008 ?_
  refine lv_aload_n C1.1 C1.2.1 dL_law_1009 rfl (lv_at hl 3 rfl) ?_
  refine lv_iload_n C1.1 C1.2.1 dL_law_1010 rfl (lv_at hl 0 rfl) ?_
  refine lv_iconst (v := nI 2) C1.1 C1.2.1 dL_law_1011 rfl ?_
  refine lv_iadd C1.1 C1.2.1 dL_law_1012 ?_
  rw [nI_add i 2]
  refine va_sld C1.1 C1.2.1 hX hbl hbA hS (vp_in_nI (show i + 2 < L by omega) (by omega)) dL_law_1013 ?_
  refine G_callV (w := wA w a2) (g := 1) (wr := qws 0 (wA w a1) N1) (mc := mX8_made) (As := [.int (xs (nI (i + 1)).toNatClampNeg), .int (xs (nI (i + 2)).toNatClampNeg)]) (r := 0) (rest := [_]) C2 hP hD hS hl.1 dL_law_1014 lm_RL_127 mv_X8_made ⟨(Nat.le_of_ble_eq_true rfl), (Nat.le_of_ble_eq_true rfl)⟩ (by decide) rfl rfl rfl rfl (Nat.le_of_ble_eq_true rfl) hcs (p_made hM hs) ?_
  rintro _ N2 H locs ⟨rfl, hM2⟩ hP hD hS
  have hP := g_swap hP
  have hD := g_swapD hD
  refine lv_icmp_eq (tgt := 1101) C1.1 C1.2.1 dL_law_1017 (by decide) (fun _ => ?_) (fun z => absurd rfl z)
  exact kk _ _ _ _ H locs (by omega) hI2 (hM2) hP hD hS
set_option maxRecDepth 100000 in
set_option maxHeartbeats 8000000 in
theorem lc_27 {w : qWT} {a1 a2 : Nat → Nat} {p : Program} {e : Env} {s : State} {m : MethodId} {below : List Frame} {meth : Method} {c : Code} {b L : Nat} {xs : Nat → Int32} {Q : State → Prop} {cells slots : Nat} {i vb : Nat} {st : sT} {M1 M2 : qMem} {H : Heap} {locs : List Loc} {ls : Array Slot} (hcs : cells ≤ room_1.cells ∧ slots ≤ room_1.slots) (C1 : gCx (wA w a1) (lA s) RL cL_law 4 p s m #[Value.ref b] c) (C2 : gCx (wA w a2) (lA s) RL cL_law 4 p s m #[Value.ref b] c) (hX : va_X b L xs s s.heap) (hbl : b < s.heap.size) (hi : i + 5 ≤ L) (hL : L ≤ 2560) (hvb : vb ≤ 100000) (hI : XI vb M1 st) (hM : MI M2 st) (hP : va_P (q_D w) vwCl (qws 0 (wA w a1) M1 ++ qws 1 (wA w a2) M2) H) (hD : va_D (lA s) (qws 0 (wA w a1) M1 ++ qws 1 (wA w a2) M2)) (hS : va_S (lA s) s.heap H locs) (hl : lv_has ls 4 [(3, .int (nI i)), (2, .ref (a2 0)), (1, .ref (a1 0)), (0, .ref b)])
    (kk : ∀ (vb2 : Nat) (st2 : sT) (N1 N2 : qMem) (H2 : Heap) (locs2 : List Loc), vb2 ≤ vb + 20 → XI vb2 N1 st2 → MI N2 st2 → va_P (q_D w) vwCl (qws 0 (wA w a1) N1 ++ qws 1 (wA w a2) N2) H2 → va_D (lA s) (qws 0 (wA w a1) N1 ++ qws 1 (wA w a2) N2) → va_S (lA s) s.heap H2 locs2 → W p (q_l w) e room_1 s m #[Value.ref b] below meth c H2 locs2 cells slots Q (F0 m 1101 ls [])) : W p (q_l w) e room_1 s m #[Value.ref b] below meth c H locs cells slots Q (F0 m 1022 ls []) := by
  have hs := hI.ok
  have hbA : ¬ lA s b := Nat.not_le.mpr hbl
  refine lv_aload_n C1.1 C1.2.1 dL_law_1022 rfl (lv_at hl 2 rfl) ?_
  refine lv_aload_n C1.1 C1.2.1 dL_law_1023 rfl (lv_at hl 3 rfl) ?_
  refine lv_iload_n C1.1 C1.2.1 dL_law_1024 rfl (lv_at hl 0 rfl) ?_
  refine lv_iconst (v := nI 1) C1.1 C1.2.1 dL_law_1025 rfl ?_
  refine lv_iadd C1.1 C1.2.1 dL_law_1026 ?_
  rw [nI_add i 1]
  refine va_sld C1.1 C1.2.1 hX hbl hbA hS (vp_in_nI (show i + 1 < L by omega) (by omega)) dL_law_1027 ?_
  refine lv_aload_n C1.1 C1.2.1 dL_law_1028 rfl (lv_at hl 3 rfl) ?_
  refine lv_iload_n C1.1 C1.2.1 dL_law_1029 rfl (lv_at hl 0 rfl) ?_
  refine lv_iconst (v := nI 2) C1.1 C1.2.1 dL_law_1030 rfl ?_
  refine lv_iadd C1.1 C1.2.1 dL_law_1031 ?_
  rw [nI_add i 2]
  refine va_sld C1.1 C1.2.1 hX hbl hbA hS (vp_in_nI (show i + 2 < L by omega) (by omega)) dL_law_1032 ?_
  refine G_callV (w := wA w a1) (g := 0) (wr := qws 1 (wA w a2) M2) (mc := mX7_make) (As := [.int (xs (nI (i + 1)).toNatClampNeg), .int (xs (nI (i + 2)).toNatClampNeg)]) (r := 0) (rest := []) C1 hP hD hS hl.1 dL_law_1033 lm_RL_128 mv_X7_make ⟨(Nat.le_of_ble_eq_true rfl), (Nat.le_of_ble_eq_true rfl)⟩ (by decide) rfl rfl rfl rfl (by decide) hcs (o_make hI (by omega)) ?_
  rintro _ N1 H locs ⟨rfl, hI2⟩ hP hD hS
  have hP := g_swap hP
  have hD := g_swapD hD
  refine lv_aload_n C1.1 C1.2.1 dL_law_1036 rfl (lv_at hl 1 rfl) ?_
  refine lv_aload_n C1.1 C1.2.1 dL_law_1037 rfl (lv_at hl 3 rfl) ?_
  refine lv_iload_n C1.1 C1.2.1 dL_law_1038 rfl (lv_at hl 0 rfl) ?_
  refine lv_iconst (v := nI 1) C1.1 C1.2.1 dL_law_1039 rfl ?_
  refine lv_iadd C1.1 C1.2.1 dL_law_1040 ?_
  rw [nI_add i 1]
  refine va_sld C1.1 C1.2.1 hX hbl hbA hS (vp_in_nI (show i + 1 < L by omega) (by omega)) dL_law_1041 ?_
  refine lv_aload_n C1.1 C1.2.1 dL_law_1042 rfl (lv_at hl 3 rfl) ?_
  refine lv_iload_n C1.1 C1.2.1 dL_law_1043 rfl (lv_at hl 0 rfl) ?_
  refine lv_iconst (v := nI 2) C1.1 C1.2.1 dL_law_1044 rfl ?_
  refine lv_iadd C1.1 C1.2.1 dL_law_1045 ?_
  rw [nI_add i 2]
  refine va_sld C1.1 C1.2.1 hX hbl hbA hS (vp_in_nI (show i + 2 < L by omega) (by omega)) dL_law_1046 ?_
  refine G_callV (w := wA w a2) (g := 1) (wr := qws 0 (wA w a1) N1) (mc := mX8_make) (As := [.int (xs (nI (i + 1)).toNatClampNeg), .int (xs (nI (i + 2)).toNatClampNeg)]) (r := 0) (rest := [_]) C2 hP hD hS hl.1 dL_law_1047 lm_RL_131 mv_X8_make ⟨(Nat.le_of_ble_eq_true rfl), (Nat.le_of_ble_eq_true rfl)⟩ (by decide) rfl rfl rfl rfl (Nat.le_of_ble_eq_true rfl) hcs (p_make hM hs) ?_
  rintro _ N2 H locs ⟨rfl, hM2⟩ hP hD hS
  have hP := g_swap hP
  have hD := g_swapD hD
  refine lv_icmp_eq (tgt := 1101) C1.1 C1.2.1 dL_law_1050 (by decide) (fun _ => ?_) (fun z => absurd rfl z)
  exact kk _ _ _ _ H locs (by omega) hI2 (hM2) hP hD hS
set_option maxRecDepth 100000 in
set_option maxHeartbeats 8000000 in
theorem lc_28 {w : qWT} {a1 a2 : Nat → Nat} {p : Program} {e : Env} {s : State} {m : MethodId} {below : List Frame} {meth : Method} {c : Code} {b L : Nat} {xs : Nat → Int32} {Q : State → Prop} {cells slots : Nat} {i vb : Nat} {st : sT} {M1 M2 : qMem} {H : Heap} {locs : List Loc} {ls : Array Slot} (hcs : cells ≤ room_1.cells ∧ slots ≤ room_1.slots) (C1 : gCx (wA w a1) (lA s) RL cL_law 4 p s m #[Value.ref b] c) (C2 : gCx (wA w a2) (lA s) RL cL_law 4 p s m #[Value.ref b] c) (hX : va_X b L xs s s.heap) (hbl : b < s.heap.size) (hi : i + 5 ≤ L) (hL : L ≤ 2560) (hvb : vb ≤ 100000) (hI : XI vb M1 st) (hM : MI M2 st) (hP : va_P (q_D w) vwCl (qws 0 (wA w a1) M1 ++ qws 1 (wA w a2) M2) H) (hD : va_D (lA s) (qws 0 (wA w a1) M1 ++ qws 1 (wA w a2) M2)) (hS : va_S (lA s) s.heap H locs) (hl : lv_has ls 4 [(3, .int (nI i)), (2, .ref (a2 0)), (1, .ref (a1 0)), (0, .ref b)])
    (kk : ∀ (vb2 : Nat) (st2 : sT) (N1 N2 : qMem) (H2 : Heap) (locs2 : List Loc), vb2 ≤ vb + 20 → XI vb2 N1 st2 → MI N2 st2 → va_P (q_D w) vwCl (qws 0 (wA w a1) N1 ++ qws 1 (wA w a2) N2) H2 → va_D (lA s) (qws 0 (wA w a1) N1 ++ qws 1 (wA w a2) N2) → va_S (lA s) s.heap H2 locs2 → W p (q_l w) e room_1 s m #[Value.ref b] below meth c H2 locs2 cells slots Q (F0 m 1101 ls [])) : W p (q_l w) e room_1 s m #[Value.ref b] below meth c H locs cells slots Q (F0 m 1055 ls []) := by
  have hs := hI.ok
  have hbA : ¬ lA s b := Nat.not_le.mpr hbl
  refine lv_aload_n C1.1 C1.2.1 dL_law_1055 rfl (lv_at hl 2 rfl) ?_
  refine lv_aload_n C1.1 C1.2.1 dL_law_1056 rfl (lv_at hl 3 rfl) ?_
  refine lv_iload_n C1.1 C1.2.1 dL_law_1057 rfl (lv_at hl 0 rfl) ?_
  refine lv_iconst (v := nI 1) C1.1 C1.2.1 dL_law_1058 rfl ?_
  refine lv_iadd C1.1 C1.2.1 dL_law_1059 ?_
  rw [nI_add i 1]
  refine va_sld C1.1 C1.2.1 hX hbl hbA hS (vp_in_nI (show i + 1 < L by omega) (by omega)) dL_law_1060 ?_
  refine G_callV (w := wA w a1) (g := 0) (wr := qws 1 (wA w a2) M2) (mc := mX7_rise) (As := [.int (xs (nI (i + 1)).toNatClampNeg)]) (r := 0) (rest := []) C1 hP hD hS hl.1 dL_law_1061 lm_RL_132 mv_X7_rise ⟨(Nat.le_of_ble_eq_true rfl), (Nat.le_of_ble_eq_true rfl)⟩ (by decide) rfl rfl rfl rfl (by decide) hcs (o_rise hI) ?_
  rintro _ N1 H locs ⟨rfl, hI2⟩ hP hD hS
  have hP := g_swap hP
  have hD := g_swapD hD
  refine lv_aload_n C1.1 C1.2.1 dL_law_1064 rfl (lv_at hl 1 rfl) ?_
  refine lv_aload_n C1.1 C1.2.1 dL_law_1065 rfl (lv_at hl 3 rfl) ?_
  refine lv_iload_n C1.1 C1.2.1 dL_law_1066 rfl (lv_at hl 0 rfl) ?_
  refine lv_iconst (v := nI 1) C1.1 C1.2.1 dL_law_1067 rfl ?_
  refine lv_iadd C1.1 C1.2.1 dL_law_1068 ?_
  rw [nI_add i 1]
  refine va_sld C1.1 C1.2.1 hX hbl hbA hS (vp_in_nI (show i + 1 < L by omega) (by omega)) dL_law_1069 ?_
  refine G_callV (w := wA w a2) (g := 1) (wr := qws 0 (wA w a1) N1) (mc := mX8_rise) (As := [.int (xs (nI (i + 1)).toNatClampNeg)]) (r := 0) (rest := [_]) C2 hP hD hS hl.1 dL_law_1070 lm_RL_135 mv_X8_rise ⟨(Nat.le_of_ble_eq_true rfl), (Nat.le_of_ble_eq_true rfl)⟩ (by decide) rfl rfl rfl rfl (Nat.le_of_ble_eq_true rfl) hcs (n_rise hM.1 hs.1 hs.2.1.2 hs.2.1.1) ?_
  rintro _ _ H locs ⟨rfl, rfl⟩ hP hD hS
  have hP := g_swap hP
  have hD := g_swapD hD
  refine lv_icmp_eq (tgt := 1101) C1.1 C1.2.1 dL_law_1073 (by decide) (fun _ => ?_) (fun z => absurd rfl z)
  exact kk _ _ _ _ H locs (by omega) hI2 (hM) hP hD hS
set_option maxRecDepth 100000 in
set_option maxHeartbeats 8000000 in
theorem lc_29 {w : qWT} {a1 a2 : Nat → Nat} {p : Program} {e : Env} {s : State} {m : MethodId} {below : List Frame} {meth : Method} {c : Code} {b L : Nat} {xs : Nat → Int32} {Q : State → Prop} {cells slots : Nat} {i vb : Nat} {st : sT} {M1 M2 : qMem} {H : Heap} {locs : List Loc} {ls : Array Slot} (hcs : cells ≤ room_1.cells ∧ slots ≤ room_1.slots) (C1 : gCx (wA w a1) (lA s) RL cL_law 4 p s m #[Value.ref b] c) (C2 : gCx (wA w a2) (lA s) RL cL_law 4 p s m #[Value.ref b] c) (hX : va_X b L xs s s.heap) (hbl : b < s.heap.size) (hi : i + 5 ≤ L) (hL : L ≤ 2560) (hvb : vb ≤ 100000) (hI : XI vb M1 st) (hM : MI M2 st) (hP : va_P (q_D w) vwCl (qws 0 (wA w a1) M1 ++ qws 1 (wA w a2) M2) H) (hD : va_D (lA s) (qws 0 (wA w a1) M1 ++ qws 1 (wA w a2) M2)) (hS : va_S (lA s) s.heap H locs) (hl : lv_has ls 4 [(3, .int (nI i)), (2, .ref (a2 0)), (1, .ref (a1 0)), (0, .ref b)])
    (kk : ∀ (vb2 : Nat) (st2 : sT) (N1 N2 : qMem) (H2 : Heap) (locs2 : List Loc), vb2 ≤ vb + 20 → XI vb2 N1 st2 → MI N2 st2 → va_P (q_D w) vwCl (qws 0 (wA w a1) N1 ++ qws 1 (wA w a2) N2) H2 → va_D (lA s) (qws 0 (wA w a1) N1 ++ qws 1 (wA w a2) N2) → va_S (lA s) s.heap H2 locs2 → W p (q_l w) e room_1 s m #[Value.ref b] below meth c H2 locs2 cells slots Q (F0 m 1101 ls [])) : W p (q_l w) e room_1 s m #[Value.ref b] below meth c H locs cells slots Q (F0 m 1078 ls []) := by
  have hs := hI.ok
  have hbA : ¬ lA s b := Nat.not_le.mpr hbl
  refine lv_aload_n C1.1 C1.2.1 dL_law_1078 rfl (lv_at hl 2 rfl) ?_
  refine lv_aload_n C1.1 C1.2.1 dL_law_1079 rfl (lv_at hl 3 rfl) ?_
  refine lv_iload_n C1.1 C1.2.1 dL_law_1080 rfl (lv_at hl 0 rfl) ?_
  refine lv_iconst (v := nI 1) C1.1 C1.2.1 dL_law_1081 rfl ?_
  refine lv_iadd C1.1 C1.2.1 dL_law_1082 ?_
  rw [nI_add i 1]
  refine va_sld C1.1 C1.2.1 hX hbl hbA hS (vp_in_nI (show i + 1 < L by omega) (by omega)) dL_law_1083 ?_
  refine G_callV (w := wA w a1) (g := 0) (wr := qws 1 (wA w a2) M2) (mc := mX7_count) (As := [.int (xs (nI (i + 1)).toNatClampNeg)]) (r := 0) (rest := []) C1 hP hD hS hl.1 dL_law_1084 lm_RL_136 mv_X7_count ⟨(Nat.le_of_ble_eq_true rfl), (Nat.le_of_ble_eq_true rfl)⟩ (by decide) rfl rfl rfl rfl (by decide) hcs (o_count hI) ?_
  rintro _ N1 H locs ⟨rfl, hI2⟩ hP hD hS
  have hP := g_swap hP
  have hD := g_swapD hD
  refine lv_aload_n C1.1 C1.2.1 dL_law_1087 rfl (lv_at hl 1 rfl) ?_
  refine lv_aload_n C1.1 C1.2.1 dL_law_1088 rfl (lv_at hl 3 rfl) ?_
  refine lv_iload_n C1.1 C1.2.1 dL_law_1089 rfl (lv_at hl 0 rfl) ?_
  refine lv_iconst (v := nI 1) C1.1 C1.2.1 dL_law_1090 rfl ?_
  refine lv_iadd C1.1 C1.2.1 dL_law_1091 ?_
  rw [nI_add i 1]
  refine va_sld C1.1 C1.2.1 hX hbl hbA hS (vp_in_nI (show i + 1 < L by omega) (by omega)) dL_law_1092 ?_
  refine G_callV (w := wA w a2) (g := 1) (wr := qws 0 (wA w a1) N1) (mc := mX8_count) (As := [.int (xs (nI (i + 1)).toNatClampNeg)]) (r := 0) (rest := [_]) C2 hP hD hS hl.1 dL_law_1093 lm_RL_139 mv_X8_count ⟨(Nat.le_of_ble_eq_true rfl), (Nat.le_of_ble_eq_true rfl)⟩ (by decide) rfl rfl rfl rfl (Nat.le_of_ble_eq_true rfl) hcs (p_count hM hs) ?_
  rintro _ N2 H locs ⟨rfl, hM2⟩ hP hD hS
  have hP := g_swap hP
  have hD := g_swapD hD
  refine lv_icmp_eq (tgt := 1101) C1.1 C1.2.1 dL_law_1096 (by decide) (fun _ => ?_) (fun z => absurd rfl z)
  exact kk _ _ _ _ H locs (by omega) hI2 (hM2) hP hD hS
