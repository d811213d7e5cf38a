
theorem m_mdL {K : qMem} {h : List gT} {x : gT} {v : Int32} (H : ∀ i x, h[i]? = some x → ∀ k, k < 3 → K.1 9 (3 * i + k) = gq x k) {j : Nat} {y : gT} (hy : (h ++ [x])[j]? = some y) {k : Nat} (hk : k < 3) : (qIs (qIs (qIs (qIs K 9 (3 * h.length) x.1) 9 (3 * h.length + 1) x.2.1) 9 (3 * h.length + 2) x.2.2) 4 101 v).1 9 (3 * j + k) = gq y k := by
  have hj := (List.getElem?_eq_some_iff.mp hy).1
  rw [List.length_append] at hj
  rw [qIs_no (by decide), qIs_1, qIs_1, qIs_1]
  rcases Nat.lt_or_ge j h.length with q | q
  · rw [List.getElem?_append_left q] at hy
    rw [if_neg (by omega), if_neg (by omega), if_neg (by omega)]
    exact H j y hy k hk
  · have e : j = h.length := by simp at hj; omega
    subst e
    rw [List.getElem?_concat_length] at hy
    cases hy
    have hh : k = 0 ∨ k = 1 ∨ k = 2 := by omega
    rcases hh with rfl | rfl | rfl
    · rw [if_neg (by omega), if_neg (by omega), if_pos ⟨rfl, rfl⟩]; rfl
    · rw [if_neg (by omega), if_pos ⟨rfl, rfl⟩]; rfl
    · rw [if_pos ⟨rfl, rfl⟩]; rfl
set_option maxRecDepth 100000 in
set_option maxHeartbeats 4000000 in
theorem m_md187 {w : qWT} {M K0 K : qMem} {s : sT} (hI : MI M s) (hs : sOk s) (hl : (sG s).length < 10) {c t i : Nat} {z : Int32} (hc : c < dK (sD s)) (ht : t < dY (sD s)) (hN : NT M K0 s) (hR : MR K (shV (sD s) c t z)) (hE : ∀ o, o ≠ 4 → K.1 o = K0.1 o) (hF : ∀ k, 96 ≤ k → K.1 4 k = K0.1 4 k) : qRW 1 w mX8_mend 187 [(0, .ref 0), (1, .int (nI i)), (2, .int (nI c)), (3, .int (nI t)), (4, .int (z))] [] K (fun r N => r = some (.int (nI ((sG s).length + 1))) ∧ MI N (chM s c t z)) := by
  have hK6 := hs.1.2.1
  have hY16 := hs.1.1
  have hg : K.1 4 101 = nI (sG s).length := by rw [hF 101 (by decide), hN.1 4 (by decide) (by decide)]; exact hI.2.1.1
  refine R_aload_n dX8_mend_187 rfl ?_
  refine R_getR dX8_mend_188 lg_RX8_34 (by decide) rfl rfl ?_
  refine R_iconst (v := nI 3) dX8_mend_191 rfl ?_
  refine R_aload_n dX8_mend_192 rfl ?_
  refine R_getR dX8_mend_193 lg_RX8_19 (by decide) rfl rfl ?_
  refine R_bipush (v := nI 101) dX8_mend_196 rfl ?_
  refine R_ialdN dX8_mend_198 (by decide) rfl (by omega) (by decide) ?_
  refine R_top (y := nI ((sG s).length)) hg ?_
  refine R_imulN dX8_mend_199 ?_
  refine R_iload_n dX8_mend_200 rfl ?_
  refine R_iastN dX8_mend_201 (by decide) rfl (by omega) (by decide) ?_
  refine R_aload_n dX8_mend_202 rfl ?_
  refine R_getR dX8_mend_203 lg_RX8_34 (by decide) rfl rfl ?_
  refine R_iconst (v := nI 3) dX8_mend_206 rfl ?_
  refine R_aload_n dX8_mend_207 rfl ?_
  refine R_getR dX8_mend_208 lg_RX8_19 (by decide) rfl rfl ?_
  refine R_bipush (v := nI 101) dX8_mend_211 rfl ?_
  refine R_ialdN dX8_mend_213 (by decide) rfl (by omega) (by decide) ?_
  refine R_top (y := nI ((sG s).length)) (by rw [qIs_no (by decide)]; exact hg) ?_
  refine R_imulN dX8_mend_214 ?_
  refine R_iconst (v := nI 1) dX8_mend_215 rfl ?_
  refine R_iaddN dX8_mend_216 ?_
  refine R_iload_n dX8_mend_217 rfl ?_
  refine R_iastN dX8_mend_218 (by decide) rfl (by omega) (by decide) ?_
  refine R_aload_n dX8_mend_219 rfl ?_
  refine R_getR dX8_mend_220 lg_RX8_34 (by decide) rfl rfl ?_
  refine R_iconst (v := nI 3) dX8_mend_223 rfl ?_
  refine R_aload_n dX8_mend_224 rfl ?_
  refine R_getR dX8_mend_225 lg_RX8_19 (by decide) rfl rfl ?_
  refine R_bipush (v := nI 101) dX8_mend_228 rfl ?_
  refine R_ialdN dX8_mend_230 (by decide) rfl (by omega) (by decide) ?_
  refine R_top (y := nI ((sG s).length)) (by rw [qIs_no (by decide), qIs_no (by decide)]; exact hg) ?_
  refine R_imulN dX8_mend_231 ?_
  refine R_iconst (v := nI 2) dX8_mend_232 rfl ?_
  refine R_iaddN dX8_mend_233 ?_
  refine R_iload dX8_mend_234 rfl ?_
  refine R_iastN dX8_mend_236 (by decide) rfl (by omega) (by decide) ?_
  refine R_aload_n dX8_mend_237 rfl ?_
  refine R_getR dX8_mend_238 lg_RX8_19 (by decide) rfl rfl ?_
  refine R_bipush (v := nI 101) dX8_mend_241 rfl ?_
  refine R_dup2 dX8_mend_243 rfl rfl ?_
  refine R_ialdN dX8_mend_244 (by decide) rfl (by omega) (by decide) ?_
  refine R_top (y := nI ((sG s).length)) (by rw [qIs_no (by decide), qIs_no (by decide), qIs_no (by decide)]; exact hg) ?_
  refine R_iconst (v := nI 1) dX8_mend_245 rfl ?_
  refine R_iaddN dX8_mend_246 ?_
  refine R_iastN dX8_mend_247 (by decide) rfl (by omega) (by decide) ?_
  refine R_aload_n dX8_mend_248 rfl ?_
  refine R_getR dX8_mend_249 lg_RX8_19 (by decide) rfl rfl ?_
  refine R_bipush (v := nI 101) dX8_mend_252 rfl ?_
  refine R_ialdN dX8_mend_254 (by decide) rfl (by omega) (by decide) ?_
  refine R_top (y := nI ((sG s).length + 1)) (by rw [qIs_eq]) ?_
  refine R_ireturn dX8_mend_255 rfl rfl ?_
  refine ⟨rfl, MI_ch (x := (3, c, t, z)) (s' := chM s c t z) hI hs hN rfl rfl ?_ hI.1.1 ?_ ⟨by rw [qIs_eq]; show _ = nI (sG s ++ [(nI c, nI t, z)]).length; rw [List.length_append]; rfl, fun j y hy k hk => m_mdL (K := K) (by rw [hE 9 (by decide), hN.1 9 (by decide) (by decide)]; exact hI.2.1.2) hy hk⟩ (fun o h1 h2 => ?_)⟩
  · show (shV (shV (sD s) c t z) c t (-z), (sG s ++ [(nI c, nI t, z)]).dropLast) = (sD s, sG s); rw [shV_back, List.dropLast_concat]
  · exact ⟨fun a b ha hb => by have ha2 : a < dK (sD s) := ha; have hb2 : b < dY (sD s) := hb; rw [qIs_nk (by omega), qIs_no (by decide), qIs_no (by decide), qIs_no (by decide)]; exact hR.2.1 a b ha hb, by rw [qIs_nk (by decide), qIs_no (by decide), qIs_no (by decide), qIs_no (by decide)]; exact hR.2.2.1, fun k hk => by rw [qIs_nk (by omega), qIs_no (by decide), qIs_no (by decide), qIs_no (by decide)]; exact hR.2.2.2 k hk⟩
  · rw [qIs_no h1, qIs_no h2, qIs_no h2, qIs_no h2]; exact hE o h1
