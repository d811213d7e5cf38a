/-! THE CLAIM OUT OF ONE WALK OF THE LAW'S BODY. Your part is whole_start (and what it stands on); all else here is the same for every law, but numbers. -/
def R_law : String := "ShiftMenderLaw"
def lw_P (b : Addr) (xs : List Int32) (args : Array Value) (s : State) : Prop := args = #[.ref b] ∧ s.IntsAt b xs ∧ xs.length ≤ 2560 ∧ (Jvm.Cond.and given_1 narrow_1).before args s = true
def lw_Q (_ : Array Value) (s : State) (o : Outcome) (t : State) : Prop := o = .returned (some (.int 1)) ∧ Framed s o t [] 600000 7302250
def lw_Z (below : List Frame) (a : Array Value) (s : State) : State → Prop := fun t => ∃ o, t.status = .running ∧ Ended t below o ∧ lw_Q a s o t
/-- the law's own end, with 1 on the stack, nothing written that was there before, its room as the claim has it -/
theorem lw_ret {p : Program} {l : Launch} {e : Env} {s : State} {m : MethodId} {below : List Frame} {meth : Method} {c : Code} {b : Nat} (hx : p.tables.exec = Jvm.exec) (hb : c.code = code) (hr : meth.sig.returnType = ret) (hlocks : meth.locks = false) {pc : Nat} {H : Heap} {ls : Array Slot} (hdg : decode code pc = .ok (.ireturn, 1)) : W p l e room_1 s m #[Value.ref b] below meth c H [] 600000 7302250 (lw_Z below #[Value.ref b] s) (F0 m pc ls [.int 1]) := by
  intro T hT X
  obtain ⟨fs, hret, hrun, hended, hW, hframe⟩ := X.leave (v := some (.int 1)) (hlocks := hlocks) (fun h => by rw [hr] at h; cases h)
  have hmeth' : T.vm.method? m = some meth := X.method'
  refine ⟨T.setFrames fs, ?_, .returned (some (.int 1)), hrun, hended, rfl, ⟨_, rfl⟩, hW, hframe⟩
  jvm_step X.here [X.here.top, hx, hb, hdg, hmeth', hr, ret, narrow_b1]
  (try refine ⟨rfl, ?_⟩); (try refine ⟨rfl, ?_⟩)
  first | (intro acts; rw [hret _ acts rfl rfl rfl]) | rw [hret _ _ rfl rfl rfl]
  exact Steps.refl _
/-- what holds at the law's entry: the machine, the code, the tables' words (any of lw_tbl by 'hts w (by decide +kernel)'), the script of L ints xs at the cell b, what the Statement gives of the start (any of its parts by flat_of_before) -/
def lw_At (p : Program) (s : State) (m : MethodId) (meth : Method) (c : Code) (b L : Nat) (xs : Nat → Int32) : Prop :=
  p.tables.exec = Jvm.exec ∧ c.code = code ∧ meth.sig.returnType = ret ∧ c.maxLocals = 4 ∧ s.vm.findClass R_law = some m.cls ∧ (∀ w ∈ lw_tbl, w.before #[Value.ref b] s = true) ∧ va_X b L xs s s.heap ∧ b < s.heap.size ∧ meth.locks = false ∧ (Jvm.Cond.and given_1 narrow_1).before #[Value.ref b] s = true

set_option maxRecDepth 100000 in
set_option maxHeartbeats 8000000 in
theorem law_loop {w : qWT} {a1 a2 : Nat → Nat} {p : Program} {e : Env} {s : State} {m : MethodId} {below : List Frame} {meth : Method} {c : Code} {b L : Nat} {xs : Nat → Int32} {cells slots : Nat} (hcs : cells ≤ room_1.cells ∧ slots ≤ room_1.slots) (C1 : gCx (wA w a1) (lA s) RL cL_law 4 p s m #[Value.ref b] c) (C2 : gCx (wA w a2) (lA s) RL cL_law 4 p s m #[Value.ref b] c) (hX : va_X b L xs s s.heap) (hbl : b < s.heap.size) (hr : meth.sig.returnType = ret) (hlocks : meth.locks = false) (hL : L ≤ 2560) : ∀ (fu i vb : Nat) (st : sT) (M1 M2 : qMem) (H : Heap) (locs : List Loc) (ls : Array Slot), L + 10 - i < fu → i ≤ L → vb ≤ 5 + 4 * i → XI vb M1 st → MI M2 st → va_P (q_D w) vwCl (qws 0 (wA w a1) M1 ++ qws 1 (wA w a2) M2) H → va_D (lA s) (qws 0 (wA w a1) M1 ++ qws 1 (wA w a2) M2) → va_S (lA s) s.heap H locs → lv_has ls 4 [(3, .int (nI i)), (2, .ref (a2 0)), (1, .ref (a1 0)), (0, .ref b)] → W p (q_l w) e room_1 s m #[Value.ref b] below meth c H locs cells slots (lw_Z below #[Value.ref b] s) (F0 m 18 ls []) := by
  intro fu
  induction fu with
  | zero => intro i vb st M1 M2 H locs ls hn; exact absurd hn (Nat.not_lt_zero _)
  | succ fu ih =>
    intro i vb st M1 M2 H locs ls hn hi hvb hI hM hP hD hS hl
    have hx := C1.1
    have hb := C1.2.1
    have hbA : ¬ lA s b := Nat.not_le.mpr hbl
    refine lv_iload_n hx hb dL_law_18 rfl (lv_at hl 0 rfl) ?_
    refine lv_aload_n hx hb dL_law_19 rfl (lv_at hl 3 rfl) ?_
    refine va_slen hx hb hX hbl hbA hS dL_law_20 ?_
    refine lv_iconst (v := nI 5) hx hb dL_law_21 rfl ?_
    refine lv_isub hx hb dL_law_22 ?_
    refine lv_icmp_gt (tgt := 1107) hx hb dL_law_23 (by decide) (fun z => ?_) (fun z => ?_)
    · refine va_forget (fun q hq => hS.2.2 q hq) ?_
      refine W.widen (k := 600000) (n := 7302250) hcs.1 hcs.2 ?_
      refine lv_iconst (v := 1) hx hb dL_law_1107 rfl ?_
      exact lw_ret hx hb hr hlocks dL_law_1108
    · have hi5 : i + 5 ≤ L := by
        have eL : (Int32.ofNat L).toInt = (L : Int) := nI_toInt (by omega)
        rw [Int32.lt_iff_toInt_lt, nI_toInt (by omega), Int32.toInt_sub, eL, nI_toInt (by omega), Int.bmod_eq_of_le (by omega) (by omega)] at z
        omega
      refine lv_aload_n hx hb dL_law_26 rfl (lv_at hl 3 rfl) ?_
      refine lv_iload_n hx hb dL_law_27 rfl (lv_at hl 0 rfl) ?_
      refine va_sld hx hb hX hbl hbA hS (vp_in_nI (show i < L by omega) (by omega)) dL_law_28 ?_
      refine lv_bipush (v := nI 31) hx hb dL_law_29 rfl ?_
      refine lv_iand hx hb dL_law_31 ?_
      obtain ⟨j, hj, ej⟩ := pk_andE (xs (nI i).toNatClampNeg) (m := nI 31) 5 (by decide)
      rw [ej]
      have hj : j < 32 := hj
      have kk : ∀ (vb2 : Nat) (st2 : sT) (N1 N2 : qMem) (H2 : Heap) (locs2 : List Loc), vb2 ≤ vb + 20 → XI vb2 N1 st2 → MI N2 st2 → va_P (q_D w) vwCl (qws 0 (wA w a1) N1 ++ qws 1 (wA w a2) N2) H2 → va_D (lA s) (qws 0 (wA w a1) N1 ++ qws 1 (wA w a2) N2) → va_S (lA s) s.heap H2 locs2 → W p (q_l w) e room_1 s m #[Value.ref b] below meth c H2 locs2 cells slots (lw_Z below #[Value.ref b] s) (F0 m 1101 ls []) := fun vb2 st2 N1 N2 H2 locs2 h1 h2 h3 hP hD hS => by
        refine lv_iinc (v := nI (i + 5)) (lv' := [(3, .int (nI (i + 5))), (2, .ref (a2 0)), (1, .ref (a1 0)), (0, .ref b)]) hx hb dL_law_1101 hl (k := 0) rfl (q_inc i 5) (by decide) rfl (fun ls hl => ?_)
        refine lv_goto (tgt := 18) hx hb dL_law_1104 (by decide) ?_
        exact ih (i + 5) vb2 st2 N1 N2 H2 locs2 ls (by omega) (by omega) (by omega) h2 h3 hP hD hS hl
      have hjc : j = 0 ∨ j = 1 ∨ j = 2 ∨ j = 3 ∨ j = 4 ∨ j = 5 ∨ j = 6 ∨ j = 7 ∨ j = 8 ∨ j = 9 ∨ j = 10 ∨ j = 11 ∨ j = 12 ∨ j = 13 ∨ j = 14 ∨ j = 15 ∨ j = 16 ∨ j = 17 ∨ j = 18 ∨ j = 19 ∨ j = 20 ∨ j = 21 ∨ j = 22 ∨ j = 23 ∨ j = 24 ∨ j = 25 ∨ j = 26 ∨ j = 27 ∨ j = 28 ∨ j = 29 ∨ j = 30 ∨ j = 31 := by omega
      rcases hjc with rfl | rfl | rfl | rfl | rfl | rfl | rfl | rfl | rfl | rfl | rfl | rfl | rfl | rfl | rfl | rfl | rfl | rfl | rfl | rfl | rfl | rfl | rfl | rfl | rfl | rfl | rfl | rfl | rfl | rfl | rfl | rfl
      · refine lv_tableIn (off := 136) (tgt := 168) hx hb dL_law_32 (by decide) (by decide) rfl (by decide) ?_
        exact lc_0 hcs C1 C2 hX hbl hi5 hL (by omega) hI hM hP hD hS hl kk
      · refine lv_tableIn (off := 159) (tgt := 191) hx hb dL_law_32 (by decide) (by decide) rfl (by decide) ?_
        exact lc_1 hcs C1 C2 hX hbl hi5 hL (by omega) hI hM hP hD hS hl kk
      · refine lv_tableIn (off := 172) (tgt := 204) hx hb dL_law_32 (by decide) (by decide) rfl (by decide) ?_
        exact lc_2 hcs C1 C2 hX hbl hi5 hL (by omega) hI hM hP hD hS hl kk
      · refine lv_tableIn (off := 185) (tgt := 217) hx hb dL_law_32 (by decide) (by decide) rfl (by decide) ?_
        exact lc_3 hcs C1 C2 hX hbl hi5 hL (by omega) hI hM hP hD hS hl kk
      · refine lv_tableIn (off := 198) (tgt := 230) hx hb dL_law_32 (by decide) (by decide) rfl (by decide) ?_
        exact lc_4 hcs C1 C2 hX hbl hi5 hL (by omega) hI hM hP hD hS hl kk
      · refine lv_tableIn (off := 231) (tgt := 263) hx hb dL_law_32 (by decide) (by decide) rfl (by decide) ?_
        exact lc_5 hcs C1 C2 hX hbl hi5 hL (by omega) hI hM hP hD hS hl kk
      · refine lv_tableIn (off := 274) (tgt := 306) hx hb dL_law_32 (by decide) (by decide) rfl (by decide) ?_
        exact lc_6 hcs C1 C2 hX hbl hi5 hL (by omega) hI hM hP hD hS hl kk
      · refine lv_tableIn (off := 307) (tgt := 339) hx hb dL_law_32 (by decide) (by decide) rfl (by decide) ?_
        exact lc_7 hcs C1 C2 hX hbl hi5 hL (by omega) hI hM hP hD hS hl kk
      · refine lv_tableIn (off := 330) (tgt := 362) hx hb dL_law_32 (by decide) (by decide) rfl (by decide) ?_
        exact lc_8 hcs C1 C2 hX hbl hi5 hL (by omega) hI hM hP hD hS hl kk
      · refine lv_tableIn (off := 363) (tgt := 395) hx hb dL_law_32 (by decide) (by decide) rfl (by decide) ?_
        exact lc_9 hcs C1 C2 hX hbl hi5 hL (by omega) hI hM hP hD hS hl kk
      · refine lv_tableIn (off := 376) (tgt := 408) hx hb dL_law_32 (by decide) (by decide) rfl (by decide) ?_
        exact lc_10 hcs C1 C2 hX hbl hi5 hL (by omega) hI hM hP hD hS hl kk
      · refine lv_tableIn (off := 409) (tgt := 441) hx hb dL_law_32 (by decide) (by decide) rfl (by decide) ?_
        exact lc_11 hcs C1 C2 hX hbl hi5 hL (by omega) hI hM hP hD hS hl kk
      · refine lv_tableIn (off := 442) (tgt := 474) hx hb dL_law_32 (by decide) (by decide) rfl (by decide) ?_
        exact lc_12 hcs C1 C2 hX hbl hi5 hL (by omega) hI hM hP hD hS hl kk
      · refine lv_tableIn (off := 475) (tgt := 507) hx hb dL_law_32 (by decide) (by decide) rfl (by decide) ?_
        exact lc_13 hcs C1 C2 hX hbl hi5 hL (by omega) hI hM hP hD hS hl kk
      · refine lv_tableIn (off := 518) (tgt := 550) hx hb dL_law_32 (by decide) (by decide) rfl (by decide) ?_
        exact lc_14 hcs C1 C2 hX hbl hi5 hL (by omega) hI hM hP hD hS hl kk
      · refine lv_tableIn (off := 561) (tgt := 593) hx hb dL_law_32 (by decide) (by decide) rfl (by decide) ?_
        exact lc_15 hcs C1 C2 hX hbl hi5 hL (by omega) hI hM hP hD hS hl kk
      · refine lv_tableIn (off := 615) (tgt := 647) hx hb dL_law_32 (by decide) (by decide) rfl (by decide) ?_
        exact lc_16 hcs C1 C2 hX hbl hi5 hL (by omega) hI hM hP hD hS hl kk
      · refine lv_tableIn (off := 658) (tgt := 690) hx hb dL_law_32 (by decide) (by decide) rfl (by decide) ?_
        exact lc_17 hcs C1 C2 hX hbl hi5 hL (by omega) hI hM hP hD hS hl kk
      · refine lv_tableIn (off := 692) (tgt := 724) hx hb dL_law_32 (by decide) (by decide) rfl (by decide) ?_
        exact lc_18 hcs C1 C2 hX hbl hi5 hL (by omega) hI hM hP hD hS hl kk
      · refine lv_tableIn (off := 736) (tgt := 768) hx hb dL_law_32 (by decide) (by decide) rfl (by decide) ?_
        exact lc_19 hcs C1 C2 hX hbl hi5 hL (by omega) hI hM hP hD hS hl kk
      · refine lv_tableIn (off := 779) (tgt := 811) hx hb dL_law_32 (by decide) (by decide) rfl (by decide) ?_
        exact lc_20 hcs C1 C2 hX hbl hi5 hL (by omega) hI hM hP hD hS hl kk
      · refine lv_tableIn (off := 822) (tgt := 854) hx hb dL_law_32 (by decide) (by decide) rfl (by decide) ?_
        exact lc_21 hcs C1 C2 hX hbl hi5 hL (by omega) hI hM hP hD hS hl kk
      · refine lv_tableIn (off := 855) (tgt := 887) hx hb dL_law_32 (by decide) (by decide) rfl (by decide) ?_
        exact lc_22 hcs C1 C2 hX hbl hi5 hL (by omega) hI hM hP hD hS hl kk
      · refine lv_tableIn (off := 888) (tgt := 920) hx hb dL_law_32 (by decide) (by decide) rfl (by decide) ?_
        exact lc_23 hcs C1 C2 hX hbl hi5 hL (by omega) hI hM hP hD hS hl kk
      · refine lv_tableIn (off := 911) (tgt := 943) hx hb dL_law_32 (by decide) (by decide) rfl (by decide) ?_
        exact lc_24 hcs C1 C2 hX hbl hi5 hL (by omega) hI hM hP hD hS hl kk
      · refine lv_tableIn (off := 924) (tgt := 956) hx hb dL_law_32 (by decide) (by decide) rfl (by decide) ?_
        exact lc_25 hcs C1 C2 hX hbl hi5 hL (by omega) hI hM hP hD hS hl kk
      · refine lv_tableIn (off := 957) (tgt := 989) hx hb dL_law_32 (by decide) (by decide) rfl (by decide) ?_
        exact lc_26 hcs C1 C2 hX hbl hi5 hL (by omega) hI hM hP hD hS hl kk
      · refine lv_tableIn (off := 990) (tgt := 1022) hx hb dL_law_32 (by decide) (by decide) rfl (by decide) ?_
        exact lc_27 hcs C1 C2 hX hbl hi5 hL (by omega) hI hM hP hD hS hl kk
      · refine lv_tableIn (off := 1023) (tgt := 1055) hx hb dL_law_32 (by decide) (by decide) rfl (by decide) ?_
        exact lc_28 hcs C1 C2 hX hbl hi5 hL (by omega) hI hM hP hD hS hl kk
      · refine lv_tableIn (off := 1046) (tgt := 1078) hx hb dL_law_32 (by decide) (by decide) rfl (by decide) ?_
        exact lc_29 hcs C1 C2 hX hbl hi5 hL (by omega) hI hM hP hD hS hl kk
      · refine lv_tableOut (tgt := 1101) hx hb dL_law_32 (Or.inr (by decide)) (by decide) ?_
        exact kk vb st M1 M2 H locs (by omega) hI hM hP hD hS
      · refine lv_tableOut (tgt := 1101) hx hb dL_law_32 (Or.inr (by decide)) (by decide) ?_
        exact kk vb st M1 M2 H locs (by omega) hI hM hP hD hS

theorem ev_st : ∀ k : Fin 3, ∀ j : Fin 4, Cond.eq (Term.elem (Term.static "ShiftMender" (qtn k.val) "[I") (.int (Int32.ofNat j.val))) (.int (qtab k.val j.val)) ∈ flatC (Jvm.Cond.and given_1 narrow_1) := by decide +kernel
theorem ev_sa : ∀ k : Fin 3, Cond.arrayOf (Term.static "ShiftMender" (qtn k.val) "[I") .int ∈ flatC (Jvm.Cond.and given_1 narrow_1) ∧ Cond.eq (Term.length (Term.static "ShiftMender" (qtn k.val) "[I")) (.int 4) ∈ flatC (Jvm.Cond.and given_1 narrow_1) ∧ Cond.laysStatic "ShiftMender" (qtn k.val) "[I" ∈ lw_tbl := by decide +kernel
theorem ev_tx : ∀ j : Fin 103, Cond.eq (Term.elem (Term.field (Term.string "ShiftMender" 58) "java/lang/String" "value" "[B") (.int (Int32.ofNat j.val))) (.int (FBy.getD j.val 0)) ∈ flatC (Jvm.Cond.and given_1 narrow_1) := by decide +kernel
set_option maxRecDepth 100000 in
set_option maxHeartbeats 8000000 in
theorem law_env {s : State} {b : Nat} (l : Launch) (hts : ∀ w ∈ lw_tbl, w.before #[Value.ref b] s = true) (hgv : (Jvm.Cond.and given_1 narrow_1).before #[Value.ref b] s = true) : ∃ w : qWT, q_l w = l ∧ va_K (q_D w) vwCl (qtys w) s ∧ eCt w (lA s) s := by
  have hq : ∀ z ∈ qW, z.before #[Value.ref b] s = true := fun z hz => hts z (List.mem_filter.mp hz).1
  have hA : ∀ a : Nat, a < s.heap.size → ¬ lA s a := fun a h => Nat.not_le.mpr h
  have hn := flat_of_before _ hgv
  have hc : ∀ c : Nat, ∃ x : ClassId × (Nat → Nat), ∀ q, vwCl[c]? = some q → u_Kn s q.1 q.2.1 q.2.2 x.1 x.2 := by
    intro c
    have hcc : c = 0 ∨ c = 1 ∨ c = 2 ∨ c = 3 ∨ c = 4 ∨ c = 5 ∨ c = 6 ∨ c = 7 ∨ c = 8 ∨ 9 ≤ c := by omega
    rcases hcc with rfl | rfl | rfl | rfl | rfl | rfl | rfl | rfl | rfl | h9
    · obtain ⟨cC, iS, h⟩ := u_known hq ck_0.2.1 (hq (.instantiable RX0 11) (qW_t (i := 127) (by decide +kernel) rfl))
      exact ⟨(cC, iS), fun q hq => by cases hq; exact h⟩
    · obtain ⟨cC, iS, h⟩ := u_known hq ck_1.2.1 (hq (.instantiable RX1 3) (qW_t (i := 172) (by decide +kernel) rfl))
      exact ⟨(cC, iS), fun q hq => by cases hq; exact h⟩
    · obtain ⟨cC, iS, h⟩ := u_known hq ck_2.2.1 (hq (.instantiable RX2 2) (qW_t (i := 189) (by decide +kernel) rfl))
      exact ⟨(cC, iS), fun q hq => by cases hq; exact h⟩
    · obtain ⟨cC, iS, h⟩ := u_known hq ck_3.2.1 (hq (.instantiable RX3 8) (qW_t (i := 30) (by decide +kernel) rfl))
      exact ⟨(cC, iS), fun q hq => by cases hq; exact h⟩
    · obtain ⟨cC, iS, h⟩ := u_known hq ck_4.2.1 (hq (.instantiable RX4 3) (qW_t (i := 24) (by decide +kernel) rfl))
      exact ⟨(cC, iS), fun q hq => by cases hq; exact h⟩
    · obtain ⟨cC, iS, h⟩ := u_known hq ck_5.2.1 (hq (.instantiable RX5 6) (qW_t (i := 100) (by decide +kernel) rfl))
      exact ⟨(cC, iS), fun q hq => by cases hq; exact h⟩
    · obtain ⟨cC, iS, h⟩ := u_known hq ck_6.2.1 (hq (.instantiable RX6 5) (qW_t (i := 77) (by decide +kernel) rfl))
      exact ⟨(cC, iS), fun q hq => by cases hq; exact h⟩
    · obtain ⟨cC, iS, h⟩ := u_known hq ck_7.2.1 (hq (.instantiable RX7 7) (qW_t (i := 16) (by decide +kernel) rfl))
      exact ⟨(cC, iS), fun q hq => by cases hq; exact h⟩
    · obtain ⟨cC, iS, h⟩ := u_known hq ck_8.2.1 (hq (.instantiable RX8 31) (qW_t (i := 799) (by decide +kernel) rfl))
      exact ⟨(cC, iS), fun q hq => by cases hq; exact h⟩
    · exact ⟨(0, fun _ => 0), fun q hq => by rw [List.getElem?_eq_none (show vwCl.length ≤ c from h9)] at hq; cases hq⟩
  obtain ⟨f, hf⟩ := Classical.axiomOfChoice hc
  obtain ⟨cI, kI, pI, i1, i2, i3⟩ := Cond.arrayClass_spec (hq _ hw_ai)
  obtain ⟨cC, kC, pC, c1, c2, c3⟩ := Cond.arrayClass_spec (hq _ hw_ac)
  obtain ⟨cL, kL, pL, l1, l2, l3⟩ := Cond.arrayClass_spec (hq _ hw_al)
  have hoI : (Cond.arrayOver (.array .int)).before #[Value.ref b] s = true := (hts _ (List.mem_append_right _ (List.mem_of_getElem? (i := 36) (by decide +kernel))))
  have hoL : (Cond.arrayOver (.array .long)).before #[Value.ref b] s = true := (hts _ (List.mem_append_right _ (List.mem_of_getElem? (i := 136) (by decide +kernel))))
  obtain ⟨pII, cII, kII, -, j2, j3, j4⟩ := Cond.arrayOver_specA hoI
  obtain ⟨pLL, cLL, kLL, -, m2, m3, m4⟩ := Cond.arrayOver_specA hoL
  have hst : ∀ k : Nat, ∃ tk : Nat, k < 3 → (Term.static "ShiftMender" (qtn k) "[I").eval #[Value.ref b] s none [] s = some (.ref tk) ∧ va_T .int tk 4 (fun j => .int (qtab k j)) (lA s) s s.heap := fun k => by
    by_cases hk : k < 3
    · have h1 := ev_sa ⟨k, hk⟩
      obtain ⟨tk, g1, g2⟩ := va_Tof (N := 4) (f := fun j => .int (qtab k j)) (by decide) (hn _ h1.1) (va_eqt (hn _ h1.2.1)) (fun j hj => va_eqt (hn _ (ev_st ⟨k, hk⟩ ⟨j, hj⟩))) hA
      exact ⟨tk, fun _ => ⟨g1, g2⟩⟩
    · exact ⟨0, fun h => absurd h hk⟩
  obtain ⟨ft, hft⟩ := Classical.axiomOfChoice hst
  obtain ⟨adK, adV, hS, hSe⟩ := vk_Sof (args := #[Value.ref b]) (s := s) (N := 1) (tm := fun _ => Term.string "ShiftMender" 58) (len := [103]) (byt := [FBy]) (A := lA s) (fun i hi => by rw [show i = 0 by omega]; decide) (fun i hi => hn _ (show Cond.exactly (Term.string "ShiftMender" 58) "java/lang/String" ∈ _ by decide +kernel)) (fun i hi => hn _ (show Cond.eq (.field (Term.string "ShiftMender" 58) "java/lang/String" "coder" "B") (.int 0) ∈ _ by decide +kernel)) (fun i hi => hn _ (show Cond.arrayOf (.field (Term.string "ShiftMender" 58) "java/lang/String" "value" "[B") .byte ∈ _ by decide +kernel)) (fun i hi => by
      rw [show i = 0 by omega]; exact hn _ (show Cond.eq (.length (.field (Term.string "ShiftMender" 58) "java/lang/String" "value" "[B")) (.int (Int32.ofNat 103)) ∈ _ by decide +kernel)) (fun i hi j hj => by
      have e : i = 0 := by omega
      subst e; exact hn _ (ev_tx ⟨j, hj⟩)) (fun i j hi hj hne => absurd (show i = j by omega) hne) hA
  refine ⟨(l, (fun c => (f c).1, fun c => (f c).2), fun o => if o < 1003 then ft (o - 1000) else if o = 2000 then adK 0 else adV 0, fun k => match k with
    | 0 => cI
    | 1 => cC
    | 2 => cL
    | 3 => cII
    | _ => cLL), rfl, ⟨fun c q hq => hf c q hq, fun k q hk => ?_⟩, va_AOA.of hoI, va_AOA.of hoL, ⟨va_Nw.of rfl (hts _ (List.mem_append_right _ (List.mem_of_getElem? (i := 25) (by decide +kernel)))), va_Nw.of rfl (hts _ (List.mem_append_right _ (List.mem_of_getElem? (i := 31) (by decide +kernel)))), va_Nw.of rfl (hts _ (List.mem_append_right _ (List.mem_of_getElem? (i := 75) (by decide +kernel)))), va_Nw.of rfl (hts _ (List.mem_append_right _ (List.mem_of_getElem? (i := 78) (by decide +kernel)))), va_Nw.of rfl (hts _ (List.mem_append_right _ (List.mem_of_getElem? (i := 101) (by decide +kernel)))), va_Nw.of rfl (hts _ (List.mem_append_right _ (List.mem_of_getElem? (i := 106) (by decide +kernel)))), va_Nw.of rfl (hts _ (List.mem_append_right _ (List.mem_of_getElem? (i := 128) (by decide +kernel)))), va_Nw.of rfl (hts _ (List.mem_append_right _ (List.mem_of_getElem? (i := 133) (by decide +kernel)))), va_Nw.of rfl (hts _ (List.mem_append_right _ (List.mem_of_getElem? (i := 173) (by decide +kernel)))), va_Nw.of rfl (hts _ (List.mem_append_right _ (List.mem_of_getElem? (i := 190) (by decide +kernel))))⟩, ⟨va_Nw.of rfl (hts _ (List.mem_append_right _ (List.mem_of_getElem? (i := 322) (by decide +kernel)))), va_Nw.of rfl (hts _ (List.mem_append_right _ (List.mem_of_getElem? (i := 691) (by decide +kernel)))), va_Nw.of rfl (hts _ (List.mem_append_right _ (List.mem_of_getElem? (i := 741) (by decide +kernel)))), va_Nw.of rfl (hts _ (List.mem_append_right _ (List.mem_of_getElem? (i := 267) (by decide +kernel))))⟩, fun k hk => ⟨?_, ?_⟩, ⟨⟨fun i hi => ?_, fun i j hi hj _ => by omega⟩, ?_, ?_⟩, ?_⟩
  · have hk5 : k < 5 := (List.getElem?_eq_some_iff.mp hk).1
    have hkc : k = 0 ∨ k = 1 ∨ k = 2 ∨ k = 3 ∨ k = 4 := by omega
    rcases hkc with rfl | rfl | rfl | rfl | rfl
    · cases hk; exact ⟨fun n z => ⟨fun k h => (by cases h), kI, i2, pI, i3⟩, i1⟩
    · cases hk; exact ⟨fun n z => ⟨fun k h => (by cases h), kC, c2, pC, c3⟩, c1⟩
    · cases hk; exact ⟨fun n z => ⟨fun k h => (by cases h), kL, l2, pL, l3⟩, l1⟩
    · cases hk; exact ⟨fun n z => ⟨fun k h => (by cases h), kII, j2, pII, j3⟩, j4⟩
    · cases hk; exact ⟨fun n z => ⟨fun k h => (by cases h), kLL, m2, pLL, m3⟩, m4⟩
  · show va_Z "ShiftMender" (qtn k) "[I" (.ref (if 1000 + k < 1003 then ft (1000 + k - 1000) else if 1000 + k = 2000 then adK 0 else adV 0)) (lA s) s s.heap
    rw [if_pos (by omega), Nat.add_sub_cancel_left]
    exact va_Zref (hts _ (ev_sa ⟨k, hk⟩).2.2) (hts _ (List.mem_append_right _ (List.mem_of_getElem? (i := 1) (by decide +kernel)))) (hft k hk).1 hA
  · show va_T .int (if 1000 + k < 1003 then ft (1000 + k - 1000) else if 1000 + k = 2000 then adK 0 else adV 0) 4 (fun j => .int (qtab k j)) (lA s) s s.heap
    rw [if_pos (by omega), Nat.add_sub_cancel_left]
    exact (hft k hk).2
  · have e : i = 0 := by omega
    subst e; exact hS.1 0 (by decide)
  · exact va_Zof (hts _ (List.mem_append_right _ (List.mem_of_getElem? (i := 212) (by decide +kernel)))) (hts _ (List.mem_append_right _ (List.mem_of_getElem? (i := 9) (by decide +kernel)))) (va_eqt (hn (Cond.eq (Term.static "java/lang/String" "COMPACT_STRINGS" "Z") (.int 1)) (by decide +kernel))) hA
  · exact va_Zqof (hts _ (List.mem_append_right _ (List.mem_of_getElem? (i := 228) (by decide +kernel)))) (hts _ (List.mem_append_right _ (List.mem_of_getElem? (i := 11) (by decide +kernel)))) (hn _ (show Cond.isRef (Term.static "jdk/internal/util/Preconditions" "SIOOBE_FORMATTER" "Ljava/util/function/BiFunction;") ∈ _ by decide +kernel)) hA
  · exact vk_R.of (A := #[Value.ref b]) (hts _ (List.mem_append_right _ (List.mem_of_getElem? (i := 202) (by decide +kernel)))) (hSe 0 (by decide))
