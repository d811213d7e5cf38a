set_option maxRecDepth 100000 in
set_option maxHeartbeats 8000000 in
/-- from the entry, for every script of at most 2560 ints, the law comes to its end with true -/
theorem whole_start {p : Program} {e : Env} {s : State} {m : MethodId} {below : List Frame} {meth : Method} {c : Code} (l : Launch) (hflags : l.flags = flags0) {b L : Nat} {xs : Nat → Int32} (hL : L ≤ 2560) (C0 : lw_At p s m meth c b L xs) : W p l e room_1 s m #[Value.ref b] below meth c s.heap [] 0 0 (lw_Z below #[Value.ref b] s) (entryFrame m ([Value.ref b] : List Value).toArray 4) := by
  obtain ⟨hx, hb, hr, hml, hown, hts, hX, hbl, hlocks, hgv⟩ := C0
  obtain ⟨w, hwl, hK, hE⟩ := law_env l hts hgv
  subst hwl
  have hq : ∀ z ∈ qW, z.before #[Value.ref b] s = true := fun z hz => hts z (List.mem_filter.mp hz).1
  rw [lg_entry_eq]
  have hl := lv_entry ([.ref b]) (n := 4) (Nat.le_of_ble_eq_true rfl)
  generalize (lg_sl ([.ref b]) ++ List.replicate (4 - (lg_sl ([.ref b])).length) Slot.unset).toArray = ls at hl ⊢
  have hl : lv_has ls 4 [(0, .ref b)] := hl
  have hS : va_S (lA s) s.heap s.heap [] := va_S.rf
  have hP : va_P (q_D w) vwCl [] s.heap := fun k q hk => by cases hk
  have hD : va_D (lA s) [] := ⟨fun i j a b hi => (by cases hi), fun k q hk => (by cases hk)⟩
  have hA : ∀ q, s.heap.size ≤ q → lA s q := fun q h => h
  refine va_new (ci := 7) (fs := [.null, .null, .null, .null, .null, .null, .null]) (C := RX7) (T := TX7) (N := 7) hx hb hq ck_7.2.1 tyX7 ck_7.2.2.1 hown (hq _ (qW_t (i := 15) (by decide +kernel) rfl)) (hq _ (qW_t (i := 16) (by decide +kernel) rfl)) (hq _ (qW_t (i := 1) (by decide +kernel) rfl)) hK hP hD hS hA ck_7.1 (fun j hj => by rcases (show j = 0 ∨ j = 1 ∨ j = 2 ∨ j = 3 ∨ j = 4 ∨ j = 5 ∨ j = 6 by omega) with rfl | rfl | rfl | rfl | rfl | rfl | rfl <;> rfl) (Nat.le_of_ble_eq_true rfl) (Nat.le_of_ble_eq_true rfl) dL_law_0 (fun q0 H hP hD hS => ?_)
  refine W.widen (k := 1) (n := 7) (by omega) (by omega) ?_
  refine lv_dup hx hb dL_law_3 rfl ?_
  refine G_callI (wr := []) (q := q0) (e0 := .inr (7, [.null, .null, .null, .null, .null, .null, .null])) (As := []) hx hb hml hown hq hK hA hP hD hS (qEnv_Ct w) hE (k_X7 w q0) ki_X7_init (Or.inl (qW_t (i := 17) (by decide +kernel) rfl)) ⟨(Nat.le_of_ble_eq_true rfl), (Nat.le_of_ble_eq_true rfl)⟩ ⟨rfl, rfl⟩ dL_law_4 hl.1 rfl (Nat.le_of_ble_eq_true rfl) ⟨(Nat.le_of_ble_eq_true rfl), (Nat.le_of_ble_eq_true rfl)⟩ rfl (fun u H locs hu hP9 hD9 hS9 => ?_)
  obtain ⟨a1, M1⟩ := u
  obtain ⟨ha1, has1, hI⟩ := hu
  have ha1 : a1 0 = q0 := ha1
  subst ha1
  have hP : va_P (q_D w) vwCl (qws 0 (wA w a1) M1) H := hP9
  have hD : va_D (lA s) (qws 0 (wA w a1) M1) := hD9
  have hS := hS9
  refine W.widen (k := 117) (n := 2076) (by omega) (by omega) ?_
  refine lv_astore_n (lv' := [(1, .ref (a1 0)), (0, .ref b)]) hx hb dL_law_7 rfl hl (by decide) rfl (fun ls hl => ?_)
  refine va_new (ci := 8) (fs := [.int 0, .null, .int 0, .int 0, .null, .null, .null, .int 0, .int 0, .null, .null, .null, .null, .int 0, .null, .int 0, .int 0, .null, .null, .null, .int 0, .null, .int 0, .null, .null, .int 0, .null, .null, .null, .null, .int 0]) (C := RX8) (T := TX8) (N := 31) hx hb hq ck_8.2.1 tyX8 ck_8.2.2.1 hown (hq _ (qW_t (i := 798) (by decide +kernel) rfl)) (hq _ (qW_t (i := 799) (by decide +kernel) rfl)) (hq _ (qW_t (i := 13) (by decide +kernel) rfl)) hK hP hD hS hA ck_8.1 (fun j hj => by rcases (show j = 0 ∨ j = 1 ∨ j = 2 ∨ j = 3 ∨ j = 4 ∨ j = 5 ∨ j = 6 ∨ j = 7 ∨ j = 8 ∨ j = 9 ∨ j = 10 ∨ j = 11 ∨ j = 12 ∨ j = 13 ∨ j = 14 ∨ j = 15 ∨ j = 16 ∨ j = 17 ∨ j = 18 ∨ j = 19 ∨ j = 20 ∨ j = 21 ∨ j = 22 ∨ j = 23 ∨ j = 24 ∨ j = 25 ∨ j = 26 ∨ j = 27 ∨ j = 28 ∨ j = 29 ∨ j = 30 by omega) with rfl | rfl | rfl | rfl | rfl | rfl | rfl | rfl | rfl | rfl | rfl | rfl | rfl | rfl | rfl | rfl | rfl | rfl | rfl | rfl | rfl | rfl | rfl | rfl | rfl | rfl | rfl | rfl | rfl | rfl | rfl <;> rfl) (Nat.le_of_ble_eq_true rfl) (Nat.le_of_ble_eq_true rfl) dL_law_8 (fun q8 H hP hD hS => ?_)
  refine W.widen (k := 118) (n := 2107) (by omega) (by omega) ?_
  refine lv_dup hx hb dL_law_11 rfl ?_
  refine G_callI (wr := qws 0 (wA w a1) M1) (q := q8) (e0 := .inr (8, [.int 0, .null, .int 0, .int 0, .null, .null, .null, .int 0, .int 0, .null, .null, .null, .null, .int 0, .null, .int 0, .int 0, .null, .null, .null, .int 0, .null, .int 0, .null, .null, .int 0, .null, .null, .null, .null, .int 0])) (As := []) hx hb hml hown hq hK hA hP hD hS (qEnv_Cm w) ⟨hE.2.2.2.1, hE.2.2.2.2.1⟩ (k_X8 w q8) ki_X8_init (Or.inl (qW_t (i := 800) (by decide +kernel) rfl)) ⟨(Nat.le_of_ble_eq_true rfl), (Nat.le_of_ble_eq_true rfl)⟩ ⟨rfl, rfl⟩ dL_law_12 hl.1 rfl (Nat.le_of_ble_eq_true rfl) ⟨(Nat.le_of_ble_eq_true rfl), (Nat.le_of_ble_eq_true rfl)⟩ rfl (fun u H locs hu hP9 hD9 hS9 => ?_)
  obtain ⟨a2, M2⟩ := u
  obtain ⟨ha2, has2, hM⟩ := hu
  have ha2 : a2 0 = q8 := ha2
  subst ha2
  have hP : va_P (q_D w) vwCl (qws 0 (wA w a1) M1 ++ qws 1 (wA w a2) M2) H := hP9
  have hD : va_D (lA s) (qws 0 (wA w a1) M1 ++ qws 1 (wA w a2) M2) := hD9
  have hS := hS9
  refine W.widen (k := 137) (n := 4157) (by omega) (by omega) ?_
  refine lv_astore_n (lv' := [(2, .ref (a2 0)), (1, .ref (a1 0)), (0, .ref b)]) hx hb dL_law_15 rfl hl (by decide) rfl (fun ls hl => ?_)
  refine lv_iconst (v := nI 0) hx hb dL_law_16 rfl ?_
  refine lv_istore_n (lv' := [(3, .int (nI 0)), (2, .ref (a2 0)), (1, .ref (a1 0)), (0, .ref b)]) hx hb dL_law_17 rfl hl (by decide) rfl (fun ls hl => ?_)
  have hst : ∀ a : Nat → Nat, (∀ o, 1000 ≤ o → a o = q_a w o) → gCx (wA w a) (lA s) RL cL_law 4 p s m #[Value.ref b] c := fun a has => ⟨hx, hb, hml, hown, hq, hK, hE.2.2.2.1, fun k hk => (by
    have h := hE.2.2.2.2.1 k hk
    rw [show q_a (wA w a) (1000 + k) = q_a w (1000 + k) from has _ (by omega)]; exact h), hA⟩
  exact law_loop ⟨(Nat.le_of_ble_eq_true rfl), (Nat.le_of_ble_eq_true rfl)⟩ (hst a1 has1) (hst a2 has2) hX hbl hr hlocks hL (L + 11) 0 5 s0 M1 M2 H locs ls (by omega) (Nat.zero_le _) (by omega) hI hM hP hD hS hl
