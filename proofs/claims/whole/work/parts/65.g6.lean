
-- ===== the object under test is made =====
def qCn (U : State) : Prop := va_Nw (.methodLinkNest RX7 11 yX4_init "ShiftMender") U ∧ va_Nw (.methodLinkNest RX4 17 yX3_init "ShiftMender") U ∧ va_Nw (.methodLinkNest RX7 18 yX3_init "ShiftMender") U ∧ va_Nw (.methodLinkNest RX7 25 yX6_init "ShiftMender") U ∧ va_Nw (.methodLinkNest RX7 32 yX5_init "ShiftMender") U ∧ va_Nw (.methodLinkNest RX5 11 yX6_init "ShiftMender") U ∧ va_Nw (.methodLinkNest RX7 39 yX0_init "ShiftMender") U ∧ va_Nw (.methodLinkNest RX0 11 yX5_init "ShiftMender") U ∧ va_Nw (.methodLinkNest RX7 46 yX1_init "ShiftMender") U ∧ va_Nw (.methodLinkNest RX7 53 yX2_init "ShiftMender") U
def eCt (w : qWT) : (Nat → Prop) → State → Prop := fun A U => va_AOA .int U ∧ va_AOA .long U ∧ qCn U ∧ qNest U ∧ qStat w A U U.heap ∧ jE w A U ∧ vk_R RX7 58 "ye;s00567567cbcdbcdc;s02678678767b9aba;s30456.565456.565;s3378978987897898;sss22233322233322;p12;l2321;" (q_a w 2000) U
theorem qCn_same {u U : State} (hv : u.vm = U.vm) (h : qCn u) : qCn U := ⟨va_Nw.same rfl hv h.1, va_Nw.same rfl hv h.2.1, va_Nw.same rfl hv h.2.2.1, va_Nw.same rfl hv h.2.2.2.1, va_Nw.same rfl hv h.2.2.2.2.1, va_Nw.same rfl hv h.2.2.2.2.2.1, va_Nw.same rfl hv h.2.2.2.2.2.2.1, va_Nw.same rfl hv h.2.2.2.2.2.2.2.1, va_Nw.same rfl hv h.2.2.2.2.2.2.2.2.1, va_Nw.same rfl hv h.2.2.2.2.2.2.2.2.2⟩
theorem qCn_warm {u U : State} (hW : u.WarmedH U.vm) (h : qCn u) : qCn U := ⟨va_Nw.warmM hW h.1, va_Nw.warmM hW h.2.1, va_Nw.warmM hW h.2.2.1, va_Nw.warmM hW h.2.2.2.1, va_Nw.warmM hW h.2.2.2.2.1, va_Nw.warmM hW h.2.2.2.2.2.1, va_Nw.warmM hW h.2.2.2.2.2.2.1, va_Nw.warmM hW h.2.2.2.2.2.2.2.1, va_Nw.warmM hW h.2.2.2.2.2.2.2.2.1, va_Nw.warmM hW h.2.2.2.2.2.2.2.2.2⟩
theorem qEnv_Ct (w : qWT) : qEnv (eCt w) := ⟨fun A U g mk a h => ⟨AOA_vm (u := U) (U := U.calling g mk a) rfl h.1, AOA_vm (u := U) (U := U.calling g mk a) rfl h.2.1, qCn_same (u := U) (U := U.calling g mk a) rfl h.2.2.1, qNest_same (u := U) (U := U.calling g mk a) rfl h.2.2.2.1, qStat_moved (u := U) (U := U.calling g mk a) (Vm.Alike.refl U.vm) h.2.2.2.2.1, (qEnv_J w).1 _ _ _ _ _ h.2.2.2.2.2.1, vk_R.same (u := U) (U := U.calling g mk a) rfl h.2.2.2.2.2.2⟩,
  fun A B s U h hk hW hBA => ⟨AOA_keep h.1 hW, AOA_keep h.2.1 hW, qCn_warm hW h.2.2.1, qNest_moved hW h.2.2.2.1, qStat_narrow (qStat_kept (qStat_moved hW.alike h.2.2.2.2.1) hk) hBA, (qEnv_J w).2 A B s U h.2.2.2.2.2.1 hk hW hBA, vk_R.warm hW h.2.2.2.2.2.2⟩⟩
theorem G_getR {p : Program} {e : Env} {R : Room} {s : State} {m : MethodId} {args : Array Value} {below : List Frame} {meth : Method} {c : Code} {H : Heap} {locs : List Loc} {cells slots pc : Nat} {ls : Array Slot} {Q : State → Prop} {rest : List Value} {cc : ByteArray} {nl : Nat} {own : String} {A : Nat → Prop} {w : qWT} {g : Nat} {wr : va_W} {M : qMem} {idx ci k r o : Nat} {fl : List (Option Nat)}
    (C : gCx w A own cc nl p s m args c) (lk : qLG own idx ci k) (hP : va_P (q_D w) vwCl (qws g w M ++ wr) H) (ho : o < qN g) (hs : qsh g o = .inl (ci, fl)) (hf : fl[k]? = some (some r)) (hd : decode cc pc = .ok (.getfield idx, 3)) (kk : W p (q_l w) e R s m args below meth c H locs cells slots Q (F0 m (pc + 3) ls (.ref (q_a w r) :: rest))) : W p (q_l w) e R s m args below meth c H locs cells slots Q (F0 m pc ls (.ref (q_a w o) :: rest)) := by
  obtain ⟨CC, T, N, ty, ⟨h1, h2, h3, h4⟩, h5, h6, h7⟩ := lk
  have he := g_left (wr := wr) (qws_at (w := w) (M := M) ho)
  rw [hs] at he
  exact va_get (D := q_D w) (ci := ci) (v := .ref (q_a w r)) (C := CC) (T := T) (N := N) C.1 C.2.1 C.2.2.2.2.1 h2 C.2.2.2.1 C.2.2.2.2.2.1 hP o he h1 k h5 (C.2.2.2.2.1 _ h6) (by rw [h7]; exact fun _ z => z) (by rw [qfl_get hf]) hd kk
def rm7 : Room := ({ frames := 5, cells := 116, slots := 2069, locals := 113 } : Room)
theorem tx0_take : ∀ i : Fin 103, tx0.take (i.val + 1) = tx0.take i.val ++ [lt tx0 i.val] := by decide +kernel
theorem nar_d : ∀ c : Fin 127, vp_nar .char (nI c.val) = nI c.val := by decide +kernel
set_option maxRecDepth 100000 in
set_option maxHeartbeats 8000000 in
theorem x7_loop {w : qWT} {a : Nat → Nat} {A : Nat → Prop} {p : Program} {e : Env} {s : State} {m : MethodId} {args : Array Value} {below : List Frame} {meth : Method} {c : Code} {Q : State → Prop} (C : gCx (wA w a) A RX7 cX7_init 2 p s m args c) (hE : eCt w A s)
    (kk : ∀ (N : qMem) H locs ls, (∀ o, o ≠ 1 → o ≠ 2 → N.1 o = qM0.1 o) → N.2 = qM0.2 → XT N tx0 → va_P (q_D w) vwCl (qws 0 (wA w a) N ++ []) H → va_D A (qws 0 (wA w a) N ++ []) → va_S A s.heap H locs → lv_has ls 2 [(0, .ref (a 0))] → W p (q_l w) e rm7 s m args below meth c H locs 116 2069 Q (F0 m 112 ls [])) :
    ∀ (fu i : Nat) (M : qMem) H locs ls, 104 - i < fu → i ≤ 103 → (∀ o, o ≠ 1 → o ≠ 2 → M.1 o = qM0.1 o) → M.2 = qM0.2 → XT M (tx0.take i) → va_P (q_D w) vwCl (qws 0 (wA w a) M ++ []) H → va_D A (qws 0 (wA w a) M ++ []) → va_S A s.heap H locs → lv_has ls 2 [(1, .int (nI i)), (0, .ref (a 0))] → W p (q_l w) e rm7 s m args below meth c H locs 116 2069 Q (F0 m 83 ls []) := by
  intro fu
  induction fu with
  | zero => intro i M H locs ls hn; exact absurd hn (Nat.not_lt_zero _)
  | succ fu ih =>
    intro i M H locs ls hn hi hM hM2 hT hP hD hS hl
    have hj := hE.2.2.2.2.2.1
    have hv := hE.2.2.2.2.2.2
    refine lv_iload_n C.1 C.2.1 dX7_init_83 rfl (lv_at hl 0 rfl) ?_
    refine va_ldcS C.1 C.2.1 C.2.2.2.1 hv dX7_init_84 ?_
    refine J_callV (w := w) (As := []) C.1 C.2.1 C.2.2.1 C.2.2.2.1 C.2.2.2.2.1 hj hS hl.1 (j_length w) mv_J0_length_8abf5 rfl (qW_t (i := 203) (by decide +kernel) rfl) ⟨(Nat.le_of_ble_eq_true rfl), (Nat.le_of_ble_eq_true rfl)⟩ dX7_init_86 rfl rfl (Nat.le_of_ble_eq_true rfl) ⟨(Nat.le_of_ble_eq_true rfl), (Nat.le_of_ble_eq_true rfl)⟩ (fun H locs hz hk hS => ?_)
    have hP := hP.kept (fun k q hq => hk q.1 ((hP k q hq).lt))
    refine lv_icmp_ge (tgt := 112) C.1 C.2.1 dX7_init_89 (by decide) (fun z => ?_) (fun z => ?_)
    · have z2 := (nI_leI (by omega) (by omega)).mp z
      have e1 : i = 103 := by omega
      subst e1
      exact kk M H locs ls hM hM2 hT hP hD hS (lv_sub hl [1] rfl)
    · have hi2 : i < 103 := by
        rcases Nat.lt_or_ge i 103 with h | h
        · exact h
        · exact absurd ((nI_leI (by omega) (by omega)).mpr h) z
      have hby := txB_0.2 i (by show i < 103; exact hi2)
      refine lv_aload_n C.1 C.2.1 dX7_init_92 rfl (lv_at hl 1 rfl) ?_
      refine G_getR (w := wA w a) (g := 0) (o := 0) (k := 0) (r := 1) C lg_RX7_12 hP (by decide) rfl rfl dX7_init_93 ?_
      refine va_ldcS C.1 C.2.1 C.2.2.2.1 hv dX7_init_96 ?_
      refine lv_iload_n C.1 C.2.1 dX7_init_98 rfl (lv_at hl 0 rfl) ?_
      refine J_callV (w := w) (As := [.int (nI i)]) C.1 C.2.1 C.2.2.1 C.2.2.2.1 C.2.2.2.2.1 hj hS hl.1 (j_charAt w hi2) mv_J0_charAt_5068e rfl (qW_t (i := 213) (by decide +kernel) rfl) ⟨(Nat.le_of_ble_eq_true rfl), (Nat.le_of_ble_eq_true rfl)⟩ dX7_init_99 rfl rfl (Nat.le_of_ble_eq_true rfl) ⟨(Nat.le_of_ble_eq_true rfl), (Nat.le_of_ble_eq_true rfl)⟩ (fun H locs hz hk hS => ?_)
      have hP := hP.kept (fun k q hq => hk q.1 ((hP k q hq).lt))
      refine G_callV (w := wA w a) (g := 0) (wr := []) (mc := mX4_append) (As := [.int (nI (lt tx0 i))]) (r := 1) (rest := []) C hP hD hS hl.1 dX7_init_102 lm_RX7_70 mv_X4_append ⟨(Nat.le_of_ble_eq_true rfl), (Nat.le_of_ble_eq_true rfl)⟩ (by decide) rfl rfl rfl rfl (by decide) ⟨(Nat.le_of_ble_eq_true rfl), (Nat.le_of_ble_eq_true rfl)⟩ (c_append hT (txB_take txB_0 i) (nar_d ⟨lt tx0 i, by omega⟩)) ?_
      intro v N H locs hq hP hD hS
      have hlen : (tx0.take i).length = i := by rw [List.length_take]; exact Nat.min_eq_left (by show i ≤ 103; omega)
      rcases hq with ⟨-, rfl, rfl⟩ | ⟨h200, -, -⟩
      · refine lv_pop C.1 C.2.1 dX7_init_105 rfl ?_
        refine lv_iinc (v := nI (i + 1)) (lv' := [(1, .int (nI (i + 1))), (0, .ref (a 0))]) C.1 C.2.1 dX7_init_106 hl (k := 0) rfl (q_inc i 1) (by decide) rfl (fun ls hl => ?_)
        refine lv_goto (tgt := 83) C.1 C.2.1 dX7_init_109 (by decide) ?_
        have hT2 := XT_app (c := lt tx0 i) hT
        rw [← tx0_take ⟨i, hi2⟩] at hT2
        exact ih (i + 1) (qIs (qIs M 2 (tx0.take i).length (nI (lt tx0 i))) 1 1 (nI ((tx0.take i).length + 1))) H locs ls (by omega) (by omega) (fun o h1 h2 => by rw [qIs_no h1, qIs_no h2]; exact hM o h1 h2) hM2 hT2 hP hD hS hl
      · omega
set_option maxRecDepth 100000 in
set_option maxHeartbeats 8000000 in
theorem k_X7 (w : qWT) (h0 : Nat) : kSem yX7_init cX7_init 2 rm7 w [.ref h0] [(h0, .inr (7, [.null, .null, .null, .null, .null, .null, .null]))] (eCt w) (fun u : (Nat → Nat) × qMem => u.1 0 = h0 ∧ (∀ o, 1000 ≤ o → u.1 o = q_a w o) ∧ XI 5 u.2 s0) (fun u => qws 0 (wA w u.1) u.2) 116 2069 := by
  refine kSem.of (by decide +kernel) rfl (Nat.le_of_ble_eq_true rfl) (fun p e s m args below meth c A ls C hE hP hD hl => ?_)
  have hl : lv_has ls 2 [(0, .ref h0)] := hl
  have hS : va_S A s.heap s.heap [] := va_S.rf
  refine lv_aload_n C.1 C.2.1 dX7_init_0 rfl (lv_at hl 0 rfl) ?_
  refine K_obj C (qW_t (i := 20) (by decide +kernel) rfl) hw_i hw_c hl.1 dX7_init_1 (Nat.le_of_ble_eq_true rfl) (Nat.le_of_ble_eq_true rfl) (by decide) ?_
  refine lv_aload_n C.1 C.2.1 dX7_init_4 rfl (lv_at hl 0 rfl) ?_
  refine K_newo (ci := 4) (fs := [.null, .int 0, .null]) C ck_4 (qW_t (i := 23) (by decide +kernel) rfl) (qW_t (i := 24) (by decide +kernel) rfl) (qW_t (i := 2) (by decide +kernel) rfl) hP hD hS (fun j hj => by rcases (show j = 0 ∨ j = 1 ∨ j = 2 by omega) with rfl | rfl | rfl <;> rfl) (Nat.le_of_ble_eq_true rfl) (Nat.le_of_ble_eq_true rfl) dX7_init_5 (fun q5 H hP hD hS => ?_)
  have hP : va_P (q_D w) vwCl [(h0, .inr (7, [.null, .null, .null, .null, .null, .null, .null])), (q5, .inr (4, [.null, .int 0, .null]))] H := hP
  have hD : va_D A [(h0, .inr (7, [.null, .null, .null, .null, .null, .null, .null])), (q5, .inr (4, [.null, .int 0, .null]))] := hD
  refine W.widen (k := 1) (n := 3) (by omega) (by omega) ?_
  refine lv_dup C.1 C.2.1 dX7_init_8 rfl ?_
  refine G_callI (wr := [(h0, .inr (7, [.null, .null, .null, .null, .null, .null, .null]))]) (q := q5) (e0 := .inr (4, [.null, .int 0, .null])) (As := []) C.1 C.2.1 C.2.2.1 C.2.2.2.1 C.2.2.2.2.1 C.2.2.2.2.2.1 C.2.2.2.2.2.2.1 hP hD hS qEnv_Sc ⟨hE.1, hE.2.2.1.2.1⟩ (k_X4 w q5) ki_X4_init (Or.inr ⟨_, hE.2.2.1.1⟩) ⟨(Nat.le_of_ble_eq_true rfl), (Nat.le_of_ble_eq_true rfl)⟩ ⟨rfl, rfl⟩ dX7_init_9 hl.1 rfl (Nat.le_of_ble_eq_true rfl) ⟨(Nat.le_of_ble_eq_true rfl), (Nat.le_of_ble_eq_true rfl)⟩ rfl (fun u9 H locs huu9 hP9 hD9 hS => ?_)
  obtain rfl := huu9
  have hP : va_P (q_D w) vwCl (([(h0, .inr (7, [.null, .null, .null, .null, .null, .null, .null]))] ++ blk w u9 1 13)) H := hP9
  have hD : va_D A (([(h0, .inr (7, [.null, .null, .null, .null, .null, .null, .null]))] ++ blk w u9 1 13)) := hD9
  refine W.widen (k := 13) (n := 329) (by omega) (by omega) ?_
  refine K_putF (ci := 7) (k := 0) (q0 := 0) C ck_7 (by decide) (qW_t (i := 354) (by decide +kernel) rfl) rfl rfl rfl hP hD hS rfl rfl rfl (Nat.le_of_ble_eq_true rfl) dX7_init_12 (fun H locs hP hD hS => ?_)
  have hP : va_P (q_D w) vwCl (([(h0, .inr (7, [.ref (u9 1), .null, .null, .null, .null, .null, .null]))] ++ blk w u9 1 13)) H := hP
  have hD : va_D A (([(h0, .inr (7, [.ref (u9 1), .null, .null, .null, .null, .null, .null]))] ++ blk w u9 1 13)) := hD
  refine lv_aload_n C.1 C.2.1 dX7_init_15 rfl (lv_at hl 0 rfl) ?_
  refine K_newo (ci := 3) (fs := [.int 0, .int 0, .null, .null, .null, .int 0, .null, .int 0]) C ck_3 (qW_t (i := 74) (by decide +kernel) rfl) (qW_t (i := 30) (by decide +kernel) rfl) (qW_t (i := 3) (by decide +kernel) rfl) hP hD hS (fun j hj => by rcases (show j = 0 ∨ j = 1 ∨ j = 2 ∨ j = 3 ∨ j = 4 ∨ j = 5 ∨ j = 6 ∨ j = 7 by omega) with rfl | rfl | rfl | rfl | rfl | rfl | rfl | rfl <;> rfl) (Nat.le_of_ble_eq_true rfl) (Nat.le_of_ble_eq_true rfl) dX7_init_16 (fun q16 H hP hD hS => ?_)
  have hP : va_P (q_D w) vwCl ((([(h0, .inr (7, [.ref (u9 1), .null, .null, .null, .null, .null, .null]))] ++ blk w u9 1 13) ++ [(q16, .inr (3, [.int 0, .int 0, .null, .null, .null, .int 0, .null, .int 0]))])) H := hP
  have hD : va_D A ((([(h0, .inr (7, [.ref (u9 1), .null, .null, .null, .null, .null, .null]))] ++ blk w u9 1 13) ++ [(q16, .inr (3, [.int 0, .int 0, .null, .null, .null, .int 0, .null, .int 0]))])) := hD
  refine W.widen (k := 14) (n := 337) (by omega) (by omega) ?_
  refine lv_dup C.1 C.2.1 dX7_init_19 rfl ?_
  refine G_callI (wr := ([(h0, .inr (7, [.ref (u9 1), .null, .null, .null, .null, .null, .null]))] ++ blk w u9 1 13)) (q := q16) (e0 := .inr (3, [.int 0, .int 0, .null, .null, .null, .int 0, .null, .int 0])) (As := []) C.1 C.2.1 C.2.2.1 C.2.2.2.1 C.2.2.2.2.1 C.2.2.2.2.2.1 C.2.2.2.2.2.2.1 hP hD hS qEnv_AI hE.1 (k_X3_14 w q16) ki_X3_init (Or.inr ⟨_, hE.2.2.1.2.2.1⟩) ⟨(Nat.le_of_ble_eq_true rfl), (Nat.le_of_ble_eq_true rfl)⟩ ⟨rfl, rfl⟩ dX7_init_20 hl.1 rfl (Nat.le_of_ble_eq_true rfl) ⟨(Nat.le_of_ble_eq_true rfl), (Nat.le_of_ble_eq_true rfl)⟩ rfl (fun u20 H locs huu20 hP9 hD9 hS => ?_)
  obtain rfl := huu20
  have hP : va_P (q_D w) vwCl ((([(h0, .inr (7, [.ref (u9 1), .null, .null, .null, .null, .null, .null]))] ++ blk w u9 1 13) ++ blk w u20 14 11)) H := hP9
  have hD : va_D A ((([(h0, .inr (7, [.ref (u9 1), .null, .null, .null, .null, .null, .null]))] ++ blk w u9 1 13) ++ blk w u20 14 11)) := hD9
  refine W.widen (k := 24) (n := 455) (by omega) (by omega) ?_
  refine K_putF (ci := 7) (k := 1) (q0 := 0) C ck_7 (by decide) (qW_t (i := 355) (by decide +kernel) rfl) rfl rfl rfl hP hD hS rfl rfl rfl (Nat.le_of_ble_eq_true rfl) dX7_init_23 (fun H locs hP hD hS => ?_)
  have hP : va_P (q_D w) vwCl ((([(h0, .inr (7, [.ref (u9 1), .ref (u20 14), .null, .null, .null, .null, .null]))] ++ blk w u9 1 13) ++ blk w u20 14 11)) H := hP
  have hD : va_D A ((([(h0, .inr (7, [.ref (u9 1), .ref (u20 14), .null, .null, .null, .null, .null]))] ++ blk w u9 1 13) ++ blk w u20 14 11)) := hD
  refine lv_aload_n C.1 C.2.1 dX7_init_26 rfl (lv_at hl 0 rfl) ?_
  refine K_newo (ci := 6) (fs := [.int 0, .null, .null, .null, .null]) C ck_6 (qW_t (i := 76) (by decide +kernel) rfl) (qW_t (i := 77) (by decide +kernel) rfl) (qW_t (i := 4) (by decide +kernel) rfl) hP hD hS (fun j hj => by rcases (show j = 0 ∨ j = 1 ∨ j = 2 ∨ j = 3 ∨ j = 4 by omega) with rfl | rfl | rfl | rfl | rfl <;> rfl) (Nat.le_of_ble_eq_true rfl) (Nat.le_of_ble_eq_true rfl) dX7_init_27 (fun q27 H hP hD hS => ?_)
  have hP : va_P (q_D w) vwCl (((([(h0, .inr (7, [.ref (u9 1), .ref (u20 14), .null, .null, .null, .null, .null]))] ++ blk w u9 1 13) ++ blk w u20 14 11) ++ [(q27, .inr (6, [.int 0, .null, .null, .null, .null]))])) H := hP
  have hD : va_D A (((([(h0, .inr (7, [.ref (u9 1), .ref (u20 14), .null, .null, .null, .null, .null]))] ++ blk w u9 1 13) ++ blk w u20 14 11) ++ [(q27, .inr (6, [.int 0, .null, .null, .null, .null]))])) := hD
  refine W.widen (k := 25) (n := 460) (by omega) (by omega) ?_
  refine lv_dup C.1 C.2.1 dX7_init_30 rfl ?_
  refine G_callI (wr := (([(h0, .inr (7, [.ref (u9 1), .ref (u20 14), .null, .null, .null, .null, .null]))] ++ blk w u9 1 13) ++ blk w u20 14 11)) (q := q27) (e0 := .inr (6, [.int 0, .null, .null, .null, .null])) (As := []) C.1 C.2.1 C.2.2.1 C.2.2.2.1 C.2.2.2.2.1 C.2.2.2.2.2.1 C.2.2.2.2.2.2.1 hP hD hS qEnv_T trivial (k_X6_101 w q27) ki_X6_init (Or.inr ⟨_, hE.2.2.1.2.2.2.1⟩) ⟨(Nat.le_of_ble_eq_true rfl), (Nat.le_of_ble_eq_true rfl)⟩ ⟨rfl, rfl⟩ dX7_init_31 hl.1 rfl (Nat.le_of_ble_eq_true rfl) ⟨(Nat.le_of_ble_eq_true rfl), (Nat.le_of_ble_eq_true rfl)⟩ rfl (fun u31 H locs huu31 hP9 hD9 hS => ?_)
  obtain rfl := huu31
  have hP : va_P (q_D w) vwCl (((([(h0, .inr (7, [.ref (u9 1), .ref (u20 14), .null, .null, .null, .null, .null]))] ++ blk w u9 1 13) ++ blk w u20 14 11) ++ blk w u31 101 5)) H := hP9
  have hD : va_D A (((([(h0, .inr (7, [.ref (u9 1), .ref (u20 14), .null, .null, .null, .null, .null]))] ++ blk w u9 1 13) ++ blk w u20 14 11) ++ blk w u31 101 5)) := hD9
  refine W.widen (k := 29) (n := 526) (by omega) (by omega) ?_
  refine K_putF (ci := 7) (k := 2) (q0 := 0) C ck_7 (by decide) (qW_t (i := 356) (by decide +kernel) rfl) rfl rfl rfl hP hD hS rfl rfl rfl (Nat.le_of_ble_eq_true rfl) dX7_init_34 (fun H locs hP hD hS => ?_)
  have hP : va_P (q_D w) vwCl (((([(h0, .inr (7, [.ref (u9 1), .ref (u20 14), .ref (u31 101), .null, .null, .null, .null]))] ++ blk w u9 1 13) ++ blk w u20 14 11) ++ blk w u31 101 5)) H := hP
  have hD : va_D A (((([(h0, .inr (7, [.ref (u9 1), .ref (u20 14), .ref (u31 101), .null, .null, .null, .null]))] ++ blk w u9 1 13) ++ blk w u20 14 11) ++ blk w u31 101 5)) := hD
  refine lv_aload_n C.1 C.2.1 dX7_init_37 rfl (lv_at hl 0 rfl) ?_
  refine K_newo (ci := 5) (fs := [.null, .null, .null, .null, .null, .null]) C ck_5 (qW_t (i := 99) (by decide +kernel) rfl) (qW_t (i := 100) (by decide +kernel) rfl) (qW_t (i := 5) (by decide +kernel) rfl) hP hD hS (fun j hj => by rcases (show j = 0 ∨ j = 1 ∨ j = 2 ∨ j = 3 ∨ j = 4 ∨ j = 5 by omega) with rfl | rfl | rfl | rfl | rfl | rfl <;> rfl) (Nat.le_of_ble_eq_true rfl) (Nat.le_of_ble_eq_true rfl) dX7_init_38 (fun q38 H hP hD hS => ?_)
  have hP : va_P (q_D w) vwCl ((((([(h0, .inr (7, [.ref (u9 1), .ref (u20 14), .ref (u31 101), .null, .null, .null, .null]))] ++ blk w u9 1 13) ++ blk w u20 14 11) ++ blk w u31 101 5) ++ [(q38, .inr (5, [.null, .null, .null, .null, .null, .null]))])) H := hP
  have hD : va_D A ((((([(h0, .inr (7, [.ref (u9 1), .ref (u20 14), .ref (u31 101), .null, .null, .null, .null]))] ++ blk w u9 1 13) ++ blk w u20 14 11) ++ blk w u31 101 5) ++ [(q38, .inr (5, [.null, .null, .null, .null, .null, .null]))])) := hD
  refine W.widen (k := 30) (n := 532) (by omega) (by omega) ?_
  refine lv_dup C.1 C.2.1 dX7_init_41 rfl ?_
  refine G_callI (wr := ((([(h0, .inr (7, [.ref (u9 1), .ref (u20 14), .ref (u31 101), .null, .null, .null, .null]))] ++ blk w u9 1 13) ++ blk w u20 14 11) ++ blk w u31 101 5)) (q := q38) (e0 := .inr (5, [.null, .null, .null, .null, .null, .null])) (As := []) C.1 C.2.1 C.2.2.1 C.2.2.2.1 C.2.2.2.2.1 C.2.2.2.2.2.1 C.2.2.2.2.2.2.1 hP hD hS qEnv_Sg hE.2.2.1.2.2.2.2.2.1 (k_X5_25 w q38) ki_X5_init (Or.inr ⟨_, hE.2.2.1.2.2.2.2.1⟩) ⟨(Nat.le_of_ble_eq_true rfl), (Nat.le_of_ble_eq_true rfl)⟩ ⟨rfl, rfl⟩ dX7_init_42 hl.1 rfl (Nat.le_of_ble_eq_true rfl) ⟨(Nat.le_of_ble_eq_true rfl), (Nat.le_of_ble_eq_true rfl)⟩ rfl (fun u42 H locs huu42 hP9 hD9 hS => ?_)
  obtain rfl := huu42
  have hP : va_P (q_D w) vwCl ((((([(h0, .inr (7, [.ref (u9 1), .ref (u20 14), .ref (u31 101), .null, .null, .null, .null]))] ++ blk w u9 1 13) ++ blk w u20 14 11) ++ blk w u31 101 5) ++ blk w u42 25 11)) H := hP9
  have hD : va_D A ((((([(h0, .inr (7, [.ref (u9 1), .ref (u20 14), .ref (u31 101), .null, .null, .null, .null]))] ++ blk w u9 1 13) ++ blk w u20 14 11) ++ blk w u31 101 5) ++ blk w u42 25 11)) := hD9
  refine W.widen (k := 40) (n := 689) (by omega) (by omega) ?_
  refine K_putF (ci := 7) (k := 3) (q0 := 0) C ck_7 (by decide) (qW_t (i := 357) (by decide +kernel) rfl) rfl rfl rfl hP hD hS rfl rfl rfl (Nat.le_of_ble_eq_true rfl) dX7_init_45 (fun H locs hP hD hS => ?_)
  have hP : va_P (q_D w) vwCl ((((([(h0, .inr (7, [.ref (u9 1), .ref (u20 14), .ref (u31 101), .ref (u42 30), .null, .null, .null]))] ++ blk w u9 1 13) ++ blk w u20 14 11) ++ blk w u31 101 5) ++ blk w u42 25 11)) H := hP
  have hD : va_D A ((((([(h0, .inr (7, [.ref (u9 1), .ref (u20 14), .ref (u31 101), .ref (u42 30), .null, .null, .null]))] ++ blk w u9 1 13) ++ blk w u20 14 11) ++ blk w u31 101 5) ++ blk w u42 25 11)) := hD
  refine lv_aload_n C.1 C.2.1 dX7_init_48 rfl (lv_at hl 0 rfl) ?_
  refine K_newo (ci := 0) (fs := [.null, .int 0, .int 0, .null, .null, .null, .null, .null, .null, .int 0, .null]) C ck_0 (qW_t (i := 126) (by decide +kernel) rfl) (qW_t (i := 127) (by decide +kernel) rfl) (qW_t (i := 6) (by decide +kernel) rfl) hP hD hS (fun j hj => by rcases (show j = 0 ∨ j = 1 ∨ j = 2 ∨ j = 3 ∨ j = 4 ∨ j = 5 ∨ j = 6 ∨ j = 7 ∨ j = 8 ∨ j = 9 ∨ j = 10 by omega) with rfl | rfl | rfl | rfl | rfl | rfl | rfl | rfl | rfl | rfl | rfl <;> rfl) (Nat.le_of_ble_eq_true rfl) (Nat.le_of_ble_eq_true rfl) dX7_init_49 (fun q49 H hP hD hS => ?_)
  have hP : va_P (q_D w) vwCl (((((([(h0, .inr (7, [.ref (u9 1), .ref (u20 14), .ref (u31 101), .ref (u42 30), .null, .null, .null]))] ++ blk w u9 1 13) ++ blk w u20 14 11) ++ blk w u31 101 5) ++ blk w u42 25 11) ++ [(q49, .inr (0, [.null, .int 0, .int 0, .null, .null, .null, .null, .null, .null, .int 0, .null]))])) H := hP
  have hD : va_D A (((((([(h0, .inr (7, [.ref (u9 1), .ref (u20 14), .ref (u31 101), .ref (u42 30), .null, .null, .null]))] ++ blk w u9 1 13) ++ blk w u20 14 11) ++ blk w u31 101 5) ++ blk w u42 25 11) ++ [(q49, .inr (0, [.null, .int 0, .int 0, .null, .null, .null, .null, .null, .null, .int 0, .null]))])) := hD
  refine W.widen (k := 41) (n := 700) (by omega) (by omega) ?_
  refine lv_dup C.1 C.2.1 dX7_init_52 rfl ?_
  refine G_callI (wr := (((([(h0, .inr (7, [.ref (u9 1), .ref (u20 14), .ref (u31 101), .ref (u42 30), .null, .null, .null]))] ++ blk w u9 1 13) ++ blk w u20 14 11) ++ blk w u31 101 5) ++ blk w u42 25 11)) (q := q49) (e0 := .inr (0, [.null, .int 0, .int 0, .null, .null, .null, .null, .null, .null, .int 0, .null])) (As := []) C.1 C.2.1 C.2.2.1 C.2.2.2.1 C.2.2.2.2.1 C.2.2.2.2.2.1 C.2.2.2.2.2.2.1 hP hD hS qEnv_Cu ⟨hE.1, hE.2.1, hE.2.2.1.2.2.2.2.2.2.2.1, hE.2.2.1.2.2.2.2.2.1⟩ (k_X0 w q49) ki_X0_init (Or.inr ⟨_, hE.2.2.1.2.2.2.2.2.2.1⟩) ⟨(Nat.le_of_ble_eq_true rfl), (Nat.le_of_ble_eq_true rfl)⟩ ⟨rfl, rfl⟩ dX7_init_53 hl.1 rfl (Nat.le_of_ble_eq_true rfl) ⟨(Nat.le_of_ble_eq_true rfl), (Nat.le_of_ble_eq_true rfl)⟩ rfl (fun u53 H locs huu53 hP9 hD9 hS => ?_)
  obtain rfl := huu53
  have hP : va_P (q_D w) vwCl (((((([(h0, .inr (7, [.ref (u9 1), .ref (u20 14), .ref (u31 101), .ref (u42 30), .null, .null, .null]))] ++ blk w u9 1 13) ++ blk w u20 14 11) ++ blk w u31 101 5) ++ blk w u42 25 11) ++ (blk w u53 36 54 ++ blk w u53 106 11))) H := hP9
  have hD : va_D A (((((([(h0, .inr (7, [.ref (u9 1), .ref (u20 14), .ref (u31 101), .ref (u42 30), .null, .null, .null]))] ++ blk w u9 1 13) ++ blk w u20 14 11) ++ blk w u31 101 5) ++ blk w u42 25 11) ++ (blk w u53 36 54 ++ blk w u53 106 11))) := hD9
  refine W.widen (k := 105) (n := 1995) (by omega) (by omega) ?_
  refine K_putF (ci := 7) (k := 4) (q0 := 0) C ck_7 (by decide) (qW_t (i := 358) (by decide +kernel) rfl) rfl rfl rfl hP hD hS rfl rfl rfl (Nat.le_of_ble_eq_true rfl) dX7_init_56 (fun H locs hP hD hS => ?_)
  have hP : va_P (q_D w) vwCl (((((([(h0, .inr (7, [.ref (u9 1), .ref (u20 14), .ref (u31 101), .ref (u42 30), .ref (u53 36), .null, .null]))] ++ blk w u9 1 13) ++ blk w u20 14 11) ++ blk w u31 101 5) ++ blk w u42 25 11) ++ (blk w u53 36 54 ++ blk w u53 106 11))) H := hP
  have hD : va_D A (((((([(h0, .inr (7, [.ref (u9 1), .ref (u20 14), .ref (u31 101), .ref (u42 30), .ref (u53 36), .null, .null]))] ++ blk w u9 1 13) ++ blk w u20 14 11) ++ blk w u31 101 5) ++ blk w u42 25 11) ++ (blk w u53 36 54 ++ blk w u53 106 11))) := hD
  refine lv_aload_n C.1 C.2.1 dX7_init_59 rfl (lv_at hl 0 rfl) ?_
  refine K_newo (ci := 1) (fs := [.null, .int 0, .int 0]) C ck_1 (qW_t (i := 171) (by decide +kernel) rfl) (qW_t (i := 172) (by decide +kernel) rfl) (qW_t (i := 7) (by decide +kernel) rfl) hP hD hS (fun j hj => by rcases (show j = 0 ∨ j = 1 ∨ j = 2 by omega) with rfl | rfl | rfl <;> rfl) (Nat.le_of_ble_eq_true rfl) (Nat.le_of_ble_eq_true rfl) dX7_init_60 (fun q60 H hP hD hS => ?_)
  have hP : va_P (q_D w) vwCl ((((((([(h0, .inr (7, [.ref (u9 1), .ref (u20 14), .ref (u31 101), .ref (u42 30), .ref (u53 36), .null, .null]))] ++ blk w u9 1 13) ++ blk w u20 14 11) ++ blk w u31 101 5) ++ blk w u42 25 11) ++ (blk w u53 36 54 ++ blk w u53 106 11)) ++ [(q60, .inr (1, [.null, .int 0, .int 0]))])) H := hP
  have hD : va_D A ((((((([(h0, .inr (7, [.ref (u9 1), .ref (u20 14), .ref (u31 101), .ref (u42 30), .ref (u53 36), .null, .null]))] ++ blk w u9 1 13) ++ blk w u20 14 11) ++ blk w u31 101 5) ++ blk w u42 25 11) ++ (blk w u53 36 54 ++ blk w u53 106 11)) ++ [(q60, .inr (1, [.null, .int 0, .int 0]))])) := hD
  refine W.widen (k := 106) (n := 1998) (by omega) (by omega) ?_
  refine lv_dup C.1 C.2.1 dX7_init_63 rfl ?_
  refine G_callI (wr := ((((([(h0, .inr (7, [.ref (u9 1), .ref (u20 14), .ref (u31 101), .ref (u42 30), .ref (u53 36), .null, .null]))] ++ blk w u9 1 13) ++ blk w u20 14 11) ++ blk w u31 101 5) ++ blk w u42 25 11) ++ (blk w u53 36 54 ++ blk w u53 106 11))) (q := q60) (e0 := .inr (1, [.null, .int 0, .int 0])) (As := []) C.1 C.2.1 C.2.2.1 C.2.2.2.1 C.2.2.2.2.1 C.2.2.2.2.2.1 C.2.2.2.2.2.2.1 hP hD hS qEnv_AI hE.1 (k_X1 w q60) ki_X1_init (Or.inr ⟨_, hE.2.2.1.2.2.2.2.2.2.2.2.1⟩) ⟨(Nat.le_of_ble_eq_true rfl), (Nat.le_of_ble_eq_true rfl)⟩ ⟨rfl, rfl⟩ dX7_init_64 hl.1 rfl (Nat.le_of_ble_eq_true rfl) ⟨(Nat.le_of_ble_eq_true rfl), (Nat.le_of_ble_eq_true rfl)⟩ rfl (fun u64 H locs huu64 hP9 hD9 hS => ?_)
  obtain rfl := huu64
  have hP : va_P (q_D w) vwCl ((((((([(h0, .inr (7, [.ref (u9 1), .ref (u20 14), .ref (u31 101), .ref (u42 30), .ref (u53 36), .null, .null]))] ++ blk w u9 1 13) ++ blk w u20 14 11) ++ blk w u31 101 5) ++ blk w u42 25 11) ++ (blk w u53 36 54 ++ blk w u53 106 11)) ++ blk w u64 90 6)) H := hP9
  have hD : va_D A ((((((([(h0, .inr (7, [.ref (u9 1), .ref (u20 14), .ref (u31 101), .ref (u42 30), .ref (u53 36), .null, .null]))] ++ blk w u9 1 13) ++ blk w u20 14 11) ++ blk w u31 101 5) ++ blk w u42 25 11) ++ (blk w u53 36 54 ++ blk w u53 106 11)) ++ blk w u64 90 6)) := hD9
  refine W.widen (k := 111) (n := 2034) (by omega) (by omega) ?_
  refine K_putF (ci := 7) (k := 5) (q0 := 0) C ck_7 (by decide) (qW_t (i := 359) (by decide +kernel) rfl) rfl rfl rfl hP hD hS rfl rfl rfl (Nat.le_of_ble_eq_true rfl) dX7_init_67 (fun H locs hP hD hS => ?_)
  have hP : va_P (q_D w) vwCl ((((((([(h0, .inr (7, [.ref (u9 1), .ref (u20 14), .ref (u31 101), .ref (u42 30), .ref (u53 36), .ref (u64 90), .null]))] ++ blk w u9 1 13) ++ blk w u20 14 11) ++ blk w u31 101 5) ++ blk w u42 25 11) ++ (blk w u53 36 54 ++ blk w u53 106 11)) ++ blk w u64 90 6)) H := hP
  have hD : va_D A ((((((([(h0, .inr (7, [.ref (u9 1), .ref (u20 14), .ref (u31 101), .ref (u42 30), .ref (u53 36), .ref (u64 90), .null]))] ++ blk w u9 1 13) ++ blk w u20 14 11) ++ blk w u31 101 5) ++ blk w u42 25 11) ++ (blk w u53 36 54 ++ blk w u53 106 11)) ++ blk w u64 90 6)) := hD
  refine lv_aload_n C.1 C.2.1 dX7_init_70 rfl (lv_at hl 0 rfl) ?_
  refine K_newo (ci := 2) (fs := [.null, .int 0]) C ck_2 (qW_t (i := 188) (by decide +kernel) rfl) (qW_t (i := 189) (by decide +kernel) rfl) (qW_t (i := 8) (by decide +kernel) rfl) hP hD hS (fun j hj => by rcases (show j = 0 ∨ j = 1 by omega) with rfl | rfl <;> rfl) (Nat.le_of_ble_eq_true rfl) (Nat.le_of_ble_eq_true rfl) dX7_init_71 (fun q71 H hP hD hS => ?_)
  have hP : va_P (q_D w) vwCl (((((((([(h0, .inr (7, [.ref (u9 1), .ref (u20 14), .ref (u31 101), .ref (u42 30), .ref (u53 36), .ref (u64 90), .null]))] ++ blk w u9 1 13) ++ blk w u20 14 11) ++ blk w u31 101 5) ++ blk w u42 25 11) ++ (blk w u53 36 54 ++ blk w u53 106 11)) ++ blk w u64 90 6) ++ [(q71, .inr (2, [.null, .int 0]))])) H := hP
  have hD : va_D A (((((((([(h0, .inr (7, [.ref (u9 1), .ref (u20 14), .ref (u31 101), .ref (u42 30), .ref (u53 36), .ref (u64 90), .null]))] ++ blk w u9 1 13) ++ blk w u20 14 11) ++ blk w u31 101 5) ++ blk w u42 25 11) ++ (blk w u53 36 54 ++ blk w u53 106 11)) ++ blk w u64 90 6) ++ [(q71, .inr (2, [.null, .int 0]))])) := hD
  refine W.widen (k := 112) (n := 2036) (by omega) (by omega) ?_
  refine lv_dup C.1 C.2.1 dX7_init_74 rfl ?_
  refine G_callI (wr := (((((([(h0, .inr (7, [.ref (u9 1), .ref (u20 14), .ref (u31 101), .ref (u42 30), .ref (u53 36), .ref (u64 90), .null]))] ++ blk w u9 1 13) ++ blk w u20 14 11) ++ blk w u31 101 5) ++ blk w u42 25 11) ++ (blk w u53 36 54 ++ blk w u53 106 11)) ++ blk w u64 90 6)) (q := q71) (e0 := .inr (2, [.null, .int 0])) (As := []) C.1 C.2.1 C.2.2.1 C.2.2.2.1 C.2.2.2.2.1 C.2.2.2.2.2.1 C.2.2.2.2.2.2.1 hP hD hS qEnv_AI hE.1 (k_X2 w q71) ki_X2_init (Or.inr ⟨_, hE.2.2.1.2.2.2.2.2.2.2.2.2⟩) ⟨(Nat.le_of_ble_eq_true rfl), (Nat.le_of_ble_eq_true rfl)⟩ ⟨rfl, rfl⟩ dX7_init_75 hl.1 rfl (Nat.le_of_ble_eq_true rfl) ⟨(Nat.le_of_ble_eq_true rfl), (Nat.le_of_ble_eq_true rfl)⟩ rfl (fun u75 H locs huu75 hP9 hD9 hS => ?_)
  obtain rfl := huu75
  have hP : va_P (q_D w) vwCl (((((((([(h0, .inr (7, [.ref (u9 1), .ref (u20 14), .ref (u31 101), .ref (u42 30), .ref (u53 36), .ref (u64 90), .null]))] ++ blk w u9 1 13) ++ blk w u20 14 11) ++ blk w u31 101 5) ++ blk w u42 25 11) ++ (blk w u53 36 54 ++ blk w u53 106 11)) ++ blk w u64 90 6) ++ blk w u75 96 5)) H := hP9
  have hD : va_D A (((((((([(h0, .inr (7, [.ref (u9 1), .ref (u20 14), .ref (u31 101), .ref (u42 30), .ref (u53 36), .ref (u64 90), .null]))] ++ blk w u9 1 13) ++ blk w u20 14 11) ++ blk w u31 101 5) ++ blk w u42 25 11) ++ (blk w u53 36 54 ++ blk w u53 106 11)) ++ blk w u64 90 6) ++ blk w u75 96 5)) := hD9
  refine W.widen (k := 116) (n := 2069) (by omega) (by omega) ?_
  refine K_putF (ci := 7) (k := 6) (q0 := 0) C ck_7 (by decide) (qW_t (i := 360) (by decide +kernel) rfl) rfl rfl rfl hP hD hS rfl rfl rfl (Nat.le_of_ble_eq_true rfl) dX7_init_78 (fun H locs hP hD hS => ?_)
  have hP : va_P (q_D w) vwCl (((((((([(h0, .inr (7, [.ref (u9 1), .ref (u20 14), .ref (u31 101), .ref (u42 30), .ref (u53 36), .ref (u64 90), .ref (u75 96)]))] ++ blk w u9 1 13) ++ blk w u20 14 11) ++ blk w u31 101 5) ++ blk w u42 25 11) ++ (blk w u53 36 54 ++ blk w u53 106 11)) ++ blk w u64 90 6) ++ blk w u75 96 5)) H := hP
  have hD : va_D A (((((((([(h0, .inr (7, [.ref (u9 1), .ref (u20 14), .ref (u31 101), .ref (u42 30), .ref (u53 36), .ref (u64 90), .ref (u75 96)]))] ++ blk w u9 1 13) ++ blk w u20 14 11) ++ blk w u31 101 5) ++ blk w u42 25 11) ++ (blk w u53 36 54 ++ blk w u53 106 11)) ++ blk w u64 90 6) ++ blk w u75 96 5)) := hD
  have hP := glueX hP
  have hD := glueXD hD
  obtain ⟨a, hae⟩ : ∃ a, a = (aX w h0 u9 u20 u31 u42 u53 u64 u75) := ⟨_, rfl⟩
  have ha0 : a 0 = h0 := by rw [hae]; rfl
  have ha : ∀ o, 1000 ≤ o → a o = q_a w o := fun o h => by rw [hae]; exact aX_hi h
  rw [← hae] at hP hD
  have hP : va_P (q_D w) vwCl (qws 0 (wA w a) qM0 ++ []) H := by rw [List.append_nil]; exact hP
  have hD : va_D A (qws 0 (wA w a) qM0 ++ []) := by rw [List.append_nil]; exact hD
  have C2 : gCx (wA w a) A RX7 cX7_init 2 p s m args c := ⟨C.1, C.2.1, C.2.2.1, C.2.2.2.1, C.2.2.2.2.1, C.2.2.2.2.2.1, hE.2.2.2.1, fun k hk => (by
    have h := hE.2.2.2.2.1 k hk
    rw [show q_a (wA w a) (1000 + k) = q_a w (1000 + k) from ha _ (by omega)]; exact h), C.2.2.2.2.2.2.1⟩
  rw [← ha0] at hl
  refine lv_iconst (v := nI 0) C.1 C.2.1 dX7_init_81 rfl ?_
  refine lv_istore_n (lv' := [(1, .int (nI 0)), (0, .ref (a 0))]) C.1 C.2.1 dX7_init_82 rfl hl (by decide) rfl (fun ls hl => ?_)
  refine x7_loop C2 hE (fun N H locs ls hM hM2 hT hP hD hS hl => ?_) 105 0 qM0 H _ ls (by omega) (by omega) (fun _ _ _ => rfl) rfl ⟨rfl, fun i hi => absurd hi (Nat.not_lt_zero i)⟩ hP hD hS hl
  refine lv_aload_n C.1 C.2.1 dX7_init_112 rfl (lv_at hl 0 rfl) ?_
  refine G_callV (w := wA w a) (g := 0) (wr := []) (mc := mX7_layScript) (As := []) (r := 0) (rest := []) C2 hP hD hS hl.1 dX7_init_113 lm_RX7_74 mv_X7_layScript ⟨(Nat.le_of_ble_eq_true rfl), (Nat.le_of_ble_eq_true rfl)⟩ (by decide) rfl rfl rfl rfl (by decide) ⟨(Nat.le_of_ble_eq_true rfl), (Nat.le_of_ble_eq_true rfl)⟩ (c_lay9 hT txB_0 rd_tx0.1 (XH_0 (by rw [hM 90 (by decide) (by decide)]; rfl) (by rw [hM 90 (by decide) (by decide)]; rfl)) (by rw [rd_tx0.2.1]; decide)) ?_
  rintro v K H locs ⟨rfl, hR, hH, hL, he, h7⟩ hP hD hS
  refine lv_pop C.1 C.2.1 dX7_init_116 rfl ?_
  refine lv_aload_n C.1 C.2.1 dX7_init_117 rfl (lv_at hl 0 rfl) ?_
  refine G_getR (w := wA w a) (g := 0) (o := 0) (k := 0) (r := 1) C2 lg_RX7_12 hP (by decide) rfl rfl dX7_init_118 ?_
  refine G_callV (w := wA w a) (g := 0) (wr := []) (mc := mX4_clear) (As := []) (r := 1) (rest := []) C2 hP hD hS hl.1 dX7_init_121 lm_RX7_77 mv_X4_clear ⟨(Nat.le_of_ble_eq_true rfl), (Nat.le_of_ble_eq_true rfl)⟩ (by decide) rfl rfl rfl rfl (by decide) ⟨(Nat.le_of_ble_eq_true rfl), (Nat.le_of_ble_eq_true rfl)⟩ c_xclear ?_
  rintro v K2 H locs ⟨rfl, rfl⟩ hP hD hS
  rw [List.append_nil] at hP hD
  exact K_ret (u := (a, qIs K 1 1 (nI 0))) C ⟨ha0, ha, XI_0 hM hM2 hR hH hL he h7⟩ hP hD hS (by omega) (by omega) dX7_init_124
theorem ki_X7_init : qKI yX7_init cX7_init 2 0 := ⟨(qW_t (i := 19) (by decide +kernel) rfl), (qW_t (i := 1) (by decide +kernel) rfl), (qW_t (i := 18) (by decide +kernel) rfl), ⟨by decide +kernel, by decide +kernel⟩, by decide +kernel, rfl⟩
