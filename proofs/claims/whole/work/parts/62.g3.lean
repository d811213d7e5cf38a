
-- ===== the constructor of the text =====
set_option maxRecDepth 100000 in
set_option maxHeartbeats 8000000 in
theorem k_X4 (w : qWT) (h0 : Nat) : kSem yX4_init cX4_init 1 { frames := 2, cells := 12, slots := 326, locals := 40 } w [.ref h0] [(h0, .inr (4, [.null, .int 0, .null]))] eSc (fun a : Nat → Nat => a 1 = h0) (fun a => blk w a 1 13) 12 326 := by
  refine kSem.of (by decide +kernel) rfl (Nat.le_of_ble_eq_true rfl) (fun p e s m args below meth c A ls C hE hP hD hl => ?_)
  have hl : lv_has ls 1 [(0, .ref h0)] := hl
  have hS : va_S A s.heap s.heap [] := va_S.rf
  refine lv_aload_n C.1 C.2.1 dX4_init_0 rfl (lv_at hl 0 rfl) ?_
  refine K_obj C (qW_t (i := 28) (by decide +kernel) rfl) hw_i hw_c hl.1 dX4_init_1 (Nat.le_of_ble_eq_true rfl) (Nat.le_of_ble_eq_true rfl) (by decide) ?_
  refine lv_aload_n C.1 C.2.1 dX4_init_4 rfl (lv_at hl 0 rfl) ?_
  refine lv_sipush (v := nI 200) C.1 C.2.1 dX4_init_5 rfl ?_
  refine K_newc (N := 200) C hw_ac hP hD hS (by omega) (Nat.le_of_ble_eq_true rfl) (Nat.le_of_ble_eq_true rfl) dX4_init_8 (fun q8 H hP hD hS => ?_)
  have hP : va_P (q_D w) vwCl [(h0, .inr (4, [.null, .int 0, .null])), (q8, .inl (q_k w 1, 200, .inl (fun _ => 0)))] H := hP
  have hD : va_D A [(h0, .inr (4, [.null, .int 0, .null])), (q8, .inl (q_k w 1, 200, .inl (fun _ => 0)))] := hD
  refine W.widen (k := 1) (n := 200) (by omega) (by omega) ?_
  refine K_putF (ci := 4) (k := 0) (q0 := 0) C ck_4 (by decide) (qW_t (i := 64) (by decide +kernel) rfl) rfl rfl rfl hP hD hS rfl rfl rfl (Nat.le_of_ble_eq_true rfl) dX4_init_10 (fun H locs hP hD hS => ?_)
  have hP : va_P (q_D w) vwCl [(h0, .inr (4, [.ref q8, .int 0, .null])), (q8, .inl (q_k w 1, 200, .inl (fun _ => 0)))] H := hP
  have hD : va_D A [(h0, .inr (4, [.ref q8, .int 0, .null])), (q8, .inl (q_k w 1, 200, .inl (fun _ => 0)))] := hD
  refine lv_aload_n C.1 C.2.1 dX4_init_13 rfl (lv_at hl 0 rfl) ?_
  refine K_newo (ci := 3) (fs := [.int 0, .int 0, .null, .null, .null, .int 0, .null, .int 0]) C ck_3 (qW_t (i := 29) (by decide +kernel) rfl) (qW_t (i := 30) (by decide +kernel) rfl) (qW_t (i := 3) (by decide +kernel) rfl) hP hD hS (fun j hj => by rcases (show j = 0 ∨ j = 1 ∨ j = 2 ∨ j = 3 ∨ j = 4 ∨ j = 5 ∨ j = 6 ∨ j = 7 by omega) with rfl | rfl | rfl | rfl | rfl | rfl | rfl | rfl <;> rfl) (Nat.le_of_ble_eq_true rfl) (Nat.le_of_ble_eq_true rfl) dX4_init_14 (fun q14 H hP hD hS => ?_)
  have hP : va_P (q_D w) vwCl [(h0, .inr (4, [.ref q8, .int 0, .null])), (q8, .inl (q_k w 1, 200, .inl (fun _ => 0))), (q14, .inr (3, [.int 0, .int 0, .null, .null, .null, .int 0, .null, .int 0]))] H := hP
  have hD : va_D A [(h0, .inr (4, [.ref q8, .int 0, .null])), (q8, .inl (q_k w 1, 200, .inl (fun _ => 0))), (q14, .inr (3, [.int 0, .int 0, .null, .null, .null, .int 0, .null, .int 0]))] := hD
  refine W.widen (k := 2) (n := 208) (by omega) (by omega) ?_
  refine lv_dup C.1 C.2.1 dX4_init_17 rfl ?_
  refine G_callI (wr := [(h0, .inr (4, [.ref q8, .int 0, .null])), (q8, .inl (q_k w 1, 200, .inl (fun _ => 0)))]) (q := q14) (e0 := .inr (3, [.int 0, .int 0, .null, .null, .null, .int 0, .null, .int 0])) (As := []) C.1 C.2.1 C.2.2.1 C.2.2.2.1 C.2.2.2.2.1 C.2.2.2.2.2.1 C.2.2.2.2.2.2.1 hP hD hS qEnv_AI hE.1 (k_X3_3 w q14) ki_X3_init (Or.inr ⟨_, hE.2⟩) ⟨(Nat.le_of_ble_eq_true rfl), (Nat.le_of_ble_eq_true rfl)⟩ ⟨rfl, rfl⟩ dX4_init_18 hl.1 rfl (Nat.le_of_ble_eq_true rfl) ⟨(Nat.le_of_ble_eq_true rfl), (Nat.le_of_ble_eq_true rfl)⟩ rfl (fun u18 H locs huu18 hP9 hD9 hS => ?_)
  obtain rfl := huu18
  have hP : va_P (q_D w) vwCl (([(h0, .inr (4, [.ref q8, .int 0, .null])), (q8, .inl (q_k w 1, 200, .inl (fun _ => 0)))] ++ blk w u18 3 11)) H := hP9
  have hD : va_D A (([(h0, .inr (4, [.ref q8, .int 0, .null])), (q8, .inl (q_k w 1, 200, .inl (fun _ => 0)))] ++ blk w u18 3 11)) := hD9
  refine W.widen (k := 12) (n := 326) (by omega) (by omega) ?_
  refine K_putF (ci := 4) (k := 2) (q0 := 0) C ck_4 (by decide) (qW_t (i := 66) (by decide +kernel) rfl) rfl rfl rfl hP hD hS rfl rfl rfl (Nat.le_of_ble_eq_true rfl) dX4_init_21 (fun H locs hP hD hS => ?_)
  have hP : va_P (q_D w) vwCl (([(h0, .inr (4, [.ref q8, .int 0, .ref (u18 3)])), (q8, .inl (q_k w 1, 200, .inl (fun _ => 0)))] ++ blk w u18 3 11)) H := hP
  have hD : va_D A (([(h0, .inr (4, [.ref q8, .int 0, .ref (u18 3)])), (q8, .inl (q_k w 1, 200, .inl (fun _ => 0)))] ++ blk w u18 3 11)) := hD
  have hfn : ∀ j, j < 6 → some (u18 (8 + j)) = some ((fun o => if o < 3 then [h0, q8].getD (o - 1) 0 else u18 o) (8 + j)) := fun j hj => by
    show some (u18 (8 + j)) = some (if 8 + j < 3 then _ else u18 (8 + j))
    rw [if_neg (show ¬ 8 + j < 3 by omega)]
  have hP := g_fn hP 5 (x := u18 6) (c := q_k w 3) rfl hfn
  have hD := hD.set (p := 5) (a := u18 6) (e := .inl (q_k w 3, 6, .inr (.inr (.inr (.inr (fun j => some ((fun o => if o < 3 then [h0, q8].getD (o - 1) 0 else u18 o) (8 + j)))))))) rfl
  exact K_ret (u := (fun o => if o < 3 then [h0, q8].getD (o - 1) 0 else u18 o)) C rfl (hP.sub (ws' := blk w (fun o => if o < 3 then [h0, q8].getD (o - 1) 0 else u18 o) 1 13) [0, 1, 2, 3, 4, 5, 6, 7, 8, 9, 10, 11, 12] rfl) (hD.sub (ws' := blk w (fun o => if o < 3 then [h0, q8].getD (o - 1) 0 else u18 o) 1 13) [0, 1, 2, 3, 4, 5, 6, 7, 8, 9, 10, 11, 12] (by decide) rfl) hS (by omega) (by omega) dX4_init_24
theorem ki_X4_init : qKI yX4_init cX4_init 1 0 := ⟨(qW_t (i := 27) (by decide +kernel) rfl), (qW_t (i := 2) (by decide +kernel) rfl), (qW_t (i := 26) (by decide +kernel) rfl), ⟨by decide +kernel, by decide +kernel⟩, by decide +kernel, rfl⟩
