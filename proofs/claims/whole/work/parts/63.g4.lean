
-- ===== the JDK's text =====
def tx0 : List Nat := [121, 101, 59, 115, 48, 48, 53, 54, 55, 53, 54, 55, 99, 98, 99, 100, 98, 99, 100, 99, 59, 115, 48, 50, 54, 55, 56, 54, 55, 56, 55, 54, 55, 98, 57, 97, 98, 97, 59, 115, 51, 48, 52, 53, 54, 46, 53, 54, 53, 52, 53, 54, 46, 53, 54, 53, 59, 115, 51, 51, 55, 56, 57, 55, 56, 57, 56, 55, 56, 57, 55, 56, 57, 56, 59, 115, 115, 115, 50, 50, 50, 51, 51, 51, 50, 50, 50, 51, 51, 51, 50, 50, 59, 112, 49, 50, 59, 108, 50, 51, 50, 49, 59]
def FBy : List Int32 := tx0.map nI
def jE (w : qWT) : (Nat → Prop) → State → Prop := fun A U => vk_S 1 [103] [FBy] (fun _ => q_a w 2000) (fun _ => q_a w 2001) A U U.heap ∧ va_Z "java/lang/String" "COMPACT_STRINGS" "Z" (.int 1) A U U.heap ∧ va_Zq "jdk/internal/util/Preconditions" "SIOOBE_FORMATTER" "Ljava/util/function/BiFunction;" A U U.heap
theorem qEnv_J (w : qWT) : qEnv (jE w) := ⟨fun A U g mk a h => ⟨vk_S.moved (u := U) (U := U.calling g mk a) (Vm.Alike.refl U.vm) h.1, va_Z.moved (u := U) (U := U.calling g mk a) (Vm.Alike.refl U.vm) h.2.1, va_Zq.moved (u := U) (U := U.calling g mk a) (Vm.Alike.refl U.vm) h.2.2⟩, fun A B s U h hk hW hBA => ⟨((vk_S.moved hW.alike h.1).kept hk).narrow hBA, ((va_Z.moved hW.alike h.2.1).kept hk).narrow hBA, ((va_Zq.moved hW.alike h.2.2).kept hk).narrow hBA⟩⟩
def jQ (r : Option Value) : Array Value → State → Outcome → State → Prop := fun _ st oc t => oc = .returned r ∧ va_F (fun _ => False) st t
def jSem (w : qWT) (mc : qMT) (av : List Value) (r : Option Value) : Prop := Met (q_l w) (m_y mc) (Cond.code (m_y mc) (m_b mc) (m_n mc) (m_r mc) :: qW) (m_rm mc) (va_Pc av (jE w (fun _ => False))) (jQ r) 0 0 (fun _ => False)
def jCx (w : qWT) (mt : qMT) (p : Program) (s : State) (m : MethodId) (args : Array Value) (meth : Method) (c : Code) : Prop :=
  p.tables.exec = Jvm.exec ∧ c.code = m_b mt ∧ c.maxLocals = m_n mt ∧ s.vm.findClass (m_y mt).cls = some m.cls ∧ (∀ z ∈ qW, z.before args s = true) ∧ meth.sig.returnType = m_r mt ∧ meth.locks = false ∧ jE w (fun _ => False) s
theorem jSem.of {w : qWT} {mt : qMT} {av : List Value} {r : Option Value} (hp : plainFor (m_y mt) = true) (hn : (lg_sl av).length ≤ m_n mt)
    (h : ∀ (p : Program) (e : Env) (s : State) (m : MethodId) (args : Array Value) (below : List Frame) (meth : Method) (c : Code) (ls : Array Slot), jCx w mt p s m args meth c → lv_has ls (m_n mt) (lv_args 0 av) → W p (q_l w) e (m_rm mt) s m args below meth c s.heap [] 0 0 (MQ below (jQ r) args s 0 0 (fun _ => False)) (F0 m 0 ls [])) : jSem w mt av r := by
  refine Met.ofWF (cc := m_b mt) (maxL := m_n mt) (ret := m_r mt) hp rfl ?_
  intro p e s m args below meth c s₁ B hml hv
  obtain ⟨rfl, hE⟩ := hv
  have hts := atoms_spec (ws := Cond.code (m_y mt) (m_b mt) (m_n mt) (m_r mt) :: qW) B.pre
  rw [lg_entry_eq]
  have hl := lv_entry av (n := m_n mt) hn
  exact h p e s m _ below meth c _ ⟨B.exec, B.bytes, hml, findClass_of_methodNamed B.named, fun z hz => hts z (List.mem_cons_of_mem _ hz), B.returns, B.notSynchronized, hE⟩ hl
theorem J_ret {p : Program} {e : Env} {R : Room} {s : State} {m : MethodId} {args : Array Value} {below : List Frame} {meth : Method} {c : Code} {H : Heap} {locs : List Loc} {pc : Nat} {ls : Array Slot} {w : qWT} {mt : qMT} {ty : FieldType} {v : Int32} (C : jCx w mt p s m args meth c) (hS : va_S (fun _ => False) s.heap H locs) (hr : m_r mt = some ty) (hn : narrow ty (.int v) = .int v) (hd : decode (m_b mt) pc = .ok (.ireturn, 1)) : W p (q_l w) e R s m args below meth c H locs 0 0 (MQ below (jQ (some (.int v))) args s 0 0 (fun _ => False)) (F0 m pc ls [.int v]) :=
  W.zret C.1 C.2.1 (C.2.2.2.2.2.1.trans hr) hn (fun t ht hW => ⟨rfl, hS.F ht⟩) hS.2.2 hd C.2.2.2.2.2.2.1
theorem J_vret {p : Program} {e : Env} {R : Room} {s : State} {m : MethodId} {args : Array Value} {below : List Frame} {meth : Method} {c : Code} {H : Heap} {locs : List Loc} {pc : Nat} {ls : Array Slot} {w : qWT} {mt : qMT} (C : jCx w mt p s m args meth c) (hS : va_S (fun _ => False) s.heap H locs) (hr : m_r mt = none) (hd : decode (m_b mt) pc = .ok (.return_, 1)) : W p (q_l w) e R s m args below meth c H locs 0 0 (MQ below (jQ none) args s 0 0 (fun _ => False)) (F0 m pc ls []) :=
  W.vret C.1 C.2.1 (C.2.2.2.2.2.1.trans hr) (fun t ht hW => ⟨rfl, hS.F ht⟩) hS.2.2 hd C.2.2.2.2.2.2.1
theorem J_back {p : Program} {l : Launch} {e : Env} {R : Room} {s : State} {m : MethodId} {args : Array Value} {below : List Frame} {meth : Method} {c : Code} {H : Heap} {locs : List Loc} {cells slots pc : Nat} {ls : Array Slot} {Q : State → Prop} {rest st0 : List Value} {A : Nat → Prop} {r : Option Value} {a : Array Value} (hr : va_Run p l e R s m args below meth c H locs cells slots 0 0 (F0 m pc ls st0) rest (jQ r a) (fun _ => False)) (hS : va_S A s.heap H locs)
    (kk : ∀ H1 locs1, H.size ≤ H1.size → (∀ q, q < H.size → H1[q]? = H[q]?) → va_S A s.heap H1 locs1 → W p l e R s m args below meth c H1 locs1 cells slots Q (F0 m (pc + 3) ls (r.toList ++ rest))) : W p l e R s m args below meth c H locs cells slots Q (F0 m pc ls st0) := by
  intro T hT X
  obtain ⟨v, st₀, t, T', LL, h0, X', hLL, e1, e2, ⟨hv, hz, hk⟩, stp⟩ := hr T hT X
  have hv' : v = r := by cases hv; rfl
  subst hv'
  rw [h0] at hz hk
  have hk2 : ∀ q, q < H.size → T'.heap[q]? = H[q]? := fun q h1 => by rw [e1]; exact hk q h1 (fun z => z)
  obtain ⟨t2, a1, b1⟩ := kk T'.heap (locs ++ LL) (by rw [e1]; exact hz) hk2 ⟨Nat.le_trans hS.1 (by rw [e1]; exact hz), fun q h1 h2 => by rw [hk2 q (Nat.lt_of_lt_of_le h1 hS.1)]; exact hS.2.1 q h1 h2, fun q hq => by
      rcases List.mem_append.mp hq with h | h
      · exact hS.2.2 q h
      · exact (hLL q h).elim⟩ T' rfl X'
  exact ⟨t2, stp t2 a1, b1⟩
theorem j_blind {w : qWT} {av : List Value} : FrameBlind (va_Pc av (jE w (fun _ => False))) := fun a U g mk z => ⟨z.1, (qEnv_J w).1 _ _ _ _ _ z.2⟩
theorem J_callV {p : Program} {e : Env} {R : Room} {s : State} {m : MethodId} {args : Array Value} {below : List Frame} {meth : Method} {c : Code} {H : Heap} {locs : List Loc} {cells slots pc : Nat} {ls : Array Slot} {Q : State → Prop} {rest : List Value} {cc : ByteArray} {nl : Nat} {own : String} {A : Nat → Prop} {w : qWT} {mc : qMT} {n idx : Nat} {As stk : List Value} {r : Option Value} (hx : p.tables.exec = Jvm.exec) (hb : c.code = cc) (hml : c.maxLocals = nl) (hown : s.vm.findClass own = some m.cls) (hts : ∀ z ∈ qW, z.before args s = true) (hE : jE w A s) (hS : va_S A s.heap H locs) (hsz : ls.size = nl) (hM : jSem w mc (.ref (q_a w 2000) :: As) r) (hm : qMV mc n) (hcls : (m_y mc).cls = "java/lang/String") (hl : Cond.methodLink own idx (m_y mc) ∈ qW) (hR : (m_rm mc).frames + 1 ≤ R.frames ∧ 8 + (m_n mc + 11) + (m_rm mc).locals ≤ R.locals) (hd : decode cc pc = .ok (.invokevirtual idx, 3)) (hn : As.length = n) (hst : stk = As.reverse ++ .ref (q_a w 2000) :: rest) (hcat : (rest.map fun v => v.category).sum ≤ 8) (hf : cells ≤ R.cells ∧ slots ≤ R.slots)
    (kk : ∀ H1 locs1, H.size ≤ H1.size → (∀ q, q < H.size → H1[q]? = H[q]?) → va_S A s.heap H1 locs1 → W p (q_l w) e R s m args below meth c H1 locs1 cells slots Q (F0 m (pc + 3) ls (r.toList ++ rest))) : W p (q_l w) e R s m args below meth c H locs cells slots Q (F0 m pc ls stk) := by
  subst hst
  have hrec := vk_recv (i := 0) hE.1 (by decide) hS
  rw [← hcls] at hrec
  exact J_back (va_runV (As := As) (C := (m_y mc).cls) (n := n) (Ts := qW) (own := own) (index := idx) (Pc := va_Pc (.ref (q_a w 2000) :: As) (jE w (fun _ => False))) ⟨hx, hb, hml, hown, hts⟩ hM ⟨G_cb hts hm.1 hl hR, hts _ hm.2.1, hts _ hm.2.2⟩ ⟨j_blind, hrec, fun U hU hW => ⟨rfl, (qEnv_J w).2 A _ s U hE (fun a h1 h2 => by rw [hU]; exact hS.2.1 a h1 h2) hW (fun _ h => h.elim)⟩⟩ rfl hn hsz rfl (lv_room hcat) hd hf) hS kk
theorem J_callS {p : Program} {e : Env} {R : Room} {s : State} {m : MethodId} {args : Array Value} {below : List Frame} {meth : Method} {c : Code} {H : Heap} {locs : List Loc} {cells slots pc : Nat} {ls : Array Slot} {Q : State → Prop} {rest : List Value} {cc : ByteArray} {nl : Nat} {own : String} {A : Nat → Prop} {w : qWT} {mc : qMT} {n idx : Nat} {As stk : List Value} {r : Option Value} (hx : p.tables.exec = Jvm.exec) (hb : c.code = cc) (hml : c.maxLocals = nl) (hown : s.vm.findClass own = some m.cls) (hts : ∀ z ∈ qW, z.before args s = true) (hE : jE w A s) (hS : va_S A s.heap H locs) (hsz : ls.size = nl) (hM : jSem w mc As r) (hm : qMS mc n) (hl : Cond.methodLink own idx (m_y mc) ∈ qW) (hR : (m_rm mc).frames + 1 ≤ R.frames ∧ 8 + (m_n mc + 11) + (m_rm mc).locals ≤ R.locals) (hd : decode cc pc = .ok (.invokestatic idx, 3)) (hn : As.length = n) (hst : stk = As.reverse ++ rest) (hcat : (rest.map fun v => v.category).sum ≤ 8) (hf : cells ≤ R.cells ∧ slots ≤ R.slots)
    (kk : ∀ H1 locs1, H.size ≤ H1.size → (∀ q, q < H.size → H1[q]? = H[q]?) → va_S A s.heap H1 locs1 → W p (q_l w) e R s m args below meth c H1 locs1 cells slots Q (F0 m (pc + 3) ls (r.toList ++ rest))) : W p (q_l w) e R s m args below meth c H locs cells slots Q (F0 m pc ls stk) := by
  subst hst
  exact J_back (va_runS (As := As) (n := n) (Ts := qW) (own := own) (index := idx) (Pc := va_Pc As (jE w (fun _ => False))) ⟨hx, hb, hml, hown, hts⟩ hM ⟨G_cb hts hm.1 hl hR, hts _ hm.2⟩ ⟨j_blind, fun U hU hW => ⟨rfl, (qEnv_J w).2 A _ s U hE (fun a h1 h2 => by rw [hU]; exact hS.2.1 a h1 h2) hW (fun _ h => h.elim)⟩⟩ rfl hn hsz rfl (lv_room hcat) hd hf) hS kk
def mJ0_coder_7d493 : qMT := (yJ0_coder_7d493, cJ0_coder_7d493, 1, some .byte, 0, 0)
theorem mv_J0_coder_7d493 : qMV mJ0_coder_7d493 0 := ⟨⟨(qW_t (i := 210) (by decide +kernel) rfl), (qW_t (i := 9) (by decide +kernel) rfl), ⟨by decide +kernel, by decide +kernel⟩, by decide +kernel⟩, (qW_t (i := 208) (by decide +kernel) rfl), (qW_t (i := 209) (by decide +kernel) rfl)⟩
def mJ0_isLatin1_aae02 : qMT := (yJ0_isLatin1_aae02, cJ0_isLatin1_aae02, 1, some .boolean, 0, 0)
theorem mv_J0_isLatin1_aae02 : qMV mJ0_isLatin1_aae02 0 := ⟨⟨(qW_t (i := 220) (by decide +kernel) rfl), (qW_t (i := 9) (by decide +kernel) rfl), ⟨by decide +kernel, by decide +kernel⟩, by decide +kernel⟩, (qW_t (i := 218) (by decide +kernel) rfl), (qW_t (i := 219) (by decide +kernel) rfl)⟩
def mJ0_length_8abf5 : qMT := (yJ0_length_8abf5, cJ0_length_8abf5, 1, some .int, 1, 20)
theorem mv_J0_length_8abf5 : qMV mJ0_length_8abf5 0 := ⟨⟨(qW_t (i := 206) (by decide +kernel) rfl), (qW_t (i := 9) (by decide +kernel) rfl), ⟨by decide +kernel, by decide +kernel⟩, by decide +kernel⟩, (qW_t (i := 204) (by decide +kernel) rfl), (qW_t (i := 205) (by decide +kernel) rfl)⟩
def mJ3_checkIndex_8e157 : qMT := (yJ3_checkIndex_8e157, cJ3_checkIndex_8e157, 3, some .int, 0, 0)
theorem mv_J3_checkIndex_8e157 : qMS mJ3_checkIndex_8e157 3 := ⟨⟨(qW_t (i := 231) (by decide +kernel) rfl), (qW_t (i := 11) (by decide +kernel) rfl), ⟨by decide +kernel, by decide +kernel⟩, by decide +kernel⟩, (qW_t (i := 230) (by decide +kernel) rfl)⟩
def mJ0_checkIndex_df160 : qMT := (yJ0_checkIndex_df160, cJ0_checkIndex_df160, 2, none, 1, 22)
theorem mv_J0_checkIndex_df160 : qMS mJ0_checkIndex_df160 2 := ⟨⟨(qW_t (i := 226) (by decide +kernel) rfl), (qW_t (i := 9) (by decide +kernel) rfl), ⟨by decide +kernel, by decide +kernel⟩, by decide +kernel⟩, (qW_t (i := 225) (by decide +kernel) rfl)⟩
def mJ1_charAt_3b067 : qMT := (yJ1_charAt_3b067, cJ1_charAt_3b067, 2, some .char, 2, 43)
theorem mv_J1_charAt_3b067 : qMS mJ1_charAt_3b067 2 := ⟨⟨(qW_t (i := 223) (by decide +kernel) rfl), (qW_t (i := 10) (by decide +kernel) rfl), ⟨by decide +kernel, by decide +kernel⟩, by decide +kernel⟩, (qW_t (i := 222) (by decide +kernel) rfl)⟩
def mJ0_charAt_5068e : qMT := (yJ0_charAt_5068e, cJ0_charAt_5068e, 2, some .char, 3, 64)
theorem mv_J0_charAt_5068e : qMV mJ0_charAt_5068e 1 := ⟨⟨(qW_t (i := 216) (by decide +kernel) rfl), (qW_t (i := 9) (by decide +kernel) rfl), ⟨by decide +kernel, by decide +kernel⟩, by decide +kernel⟩, (qW_t (i := 214) (by decide +kernel) rfl), (qW_t (i := 215) (by decide +kernel) rfl)⟩
set_option maxRecDepth 100000 in
set_option maxHeartbeats 4000000 in
theorem j_coder (w : qWT) : jSem w mJ0_coder_7d493 [.ref (q_a w 2000)] (some (.int 0)) := by
  refine jSem.of (by decide +kernel) (Nat.le_of_ble_eq_true rfl) (fun p e s m args below meth c ls C hl => ?_)
  have hl : lv_has ls (m_n mJ0_coder_7d493) [(0, .ref (q_a w 2000))] := hl
  have hS : va_S (fun _ => False) s.heap s.heap [] := va_S.rf
  have hE := C.2.2.2.2.2.2.2
  have hv := hE.1.1 0 (by decide)
  refine va_gets C.1 C.2.1 hE.2.1 hS C.2.2.2.1 (C.2.2.2.2.1 _ (qW_t (i := 211) (by decide +kernel) rfl)) (fun _ z => z) dJ0_coder_7d493_0 ?_
  refine lv_if_eq (tgt := 13) C.1 C.2.1 dJ0_coder_7d493_3 (by decide) (fun z => absurd z (by decide)) (fun _ => ?_)
  refine lv_aload_n C.1 C.2.1 dJ0_coder_7d493_6 rfl (lv_at hl 0 rfl) ?_
  refine vk_getf C.1 C.2.1 hv.2.1 hS C.2.2.2.1 (C.2.2.2.2.1 _ (qW_t (i := 1215) (by decide +kernel) rfl)) (fun _ z => z) dJ0_coder_7d493_7 ?_
  refine lv_goto (tgt := 14) C.1 C.2.1 dJ0_coder_7d493_10 (by decide) ?_
  exact J_ret C hS rfl rfl dJ0_coder_7d493_14
set_option maxRecDepth 100000 in
set_option maxHeartbeats 4000000 in
theorem j_latin (w : qWT) : jSem w mJ0_isLatin1_aae02 [.ref (q_a w 2000)] (some (.int 1)) := by
  refine jSem.of (by decide +kernel) (Nat.le_of_ble_eq_true rfl) (fun p e s m args below meth c ls C hl => ?_)
  have hl : lv_has ls (m_n mJ0_isLatin1_aae02) [(0, .ref (q_a w 2000))] := hl
  have hS : va_S (fun _ => False) s.heap s.heap [] := va_S.rf
  have hE := C.2.2.2.2.2.2.2
  have hv := hE.1.1 0 (by decide)
  refine va_gets C.1 C.2.1 hE.2.1 hS C.2.2.2.1 (C.2.2.2.2.1 _ (qW_t (i := 211) (by decide +kernel) rfl)) (fun _ z => z) dJ0_isLatin1_aae02_0 ?_
  refine lv_if_eq (tgt := 17) C.1 C.2.1 dJ0_isLatin1_aae02_3 (by decide) (fun z => absurd z (by decide)) (fun _ => ?_)
  refine lv_aload_n C.1 C.2.1 dJ0_isLatin1_aae02_6 rfl (lv_at hl 0 rfl) ?_
  refine vk_getf C.1 C.2.1 hv.2.1 hS C.2.2.2.1 (C.2.2.2.2.1 _ (qW_t (i := 1215) (by decide +kernel) rfl)) (fun _ z => z) dJ0_isLatin1_aae02_7 ?_
  refine lv_if_ne (tgt := 17) C.1 C.2.1 dJ0_isLatin1_aae02_10 (by decide) (fun z => absurd rfl z) (fun _ => ?_)
  refine lv_iconst (v := 1) C.1 C.2.1 dJ0_isLatin1_aae02_13 rfl ?_
  refine lv_goto (tgt := 18) C.1 C.2.1 dJ0_isLatin1_aae02_14 (by decide) ?_
  exact J_ret C hS rfl rfl dJ0_isLatin1_aae02_18
set_option maxRecDepth 100000 in
set_option maxHeartbeats 4000000 in
theorem j_length (w : qWT) : jSem w mJ0_length_8abf5 [.ref (q_a w 2000)] (some (.int (nI 103))) := by
  refine jSem.of (by decide +kernel) (Nat.le_of_ble_eq_true rfl) (fun p e s m args below meth c ls C hl => ?_)
  have hl : lv_has ls (m_n mJ0_length_8abf5) [(0, .ref (q_a w 2000))] := hl
  have hS : va_S (fun _ => False) s.heap s.heap [] := va_S.rf
  have hE := C.2.2.2.2.2.2.2
  have hv := hE.1.1 0 (by decide)
  refine lv_aload_n C.1 C.2.1 dJ0_length_8abf5_0 rfl (lv_at hl 0 rfl) ?_
  refine vk_getf C.1 C.2.1 hv.2.2.1 hS C.2.2.2.1 (C.2.2.2.2.1 _ (qW_t (i := 1214) (by decide +kernel) rfl)) (fun _ z => z) dJ0_length_8abf5_1 ?_
  refine va_tlen (v := nI 103) C.1 C.2.1 hv.2.2.2 hS rfl dJ0_length_8abf5_4 ?_
  refine lv_aload_n C.1 C.2.1 dJ0_length_8abf5_5 rfl (lv_at hl 0 rfl) ?_
  refine J_callV C.1 C.2.1 C.2.2.1 C.2.2.2.1 C.2.2.2.2.1 hE hS hl.1 (j_coder w) mv_J0_coder_7d493 rfl (qW_t (i := 207) (by decide +kernel) rfl) ⟨(Nat.le_of_ble_eq_true rfl), (Nat.le_of_ble_eq_true rfl)⟩ dJ0_length_8abf5_6 rfl rfl (Nat.le_of_ble_eq_true rfl) ⟨Nat.zero_le _, Nat.zero_le _⟩ (fun H locs hz hk hS => ?_)
  refine lv_ishr C.1 C.2.1 dJ0_length_8abf5_9 ?_
  rw [show (nI 103 >>> ((0 : Int32) &&& 31)) = nI 103 from by decide]
  exact J_ret C hS rfl rfl dJ0_length_8abf5_10
set_option maxRecDepth 100000 in
set_option maxHeartbeats 4000000 in
theorem j_pchkN (w : qWT) {i : Nat} (hi : i < 103) : jSem w mJ3_checkIndex_8e157 [.int (nI i), .int (nI 103), .null] (some (.int (nI i))) := by
  refine jSem.of (by decide +kernel) (Nat.le_of_ble_eq_true rfl) (fun p e s m args below meth c ls C hl => ?_)
  have hl : lv_has ls (m_n mJ3_checkIndex_8e157) [(0, .int (nI i)), (1, .int (nI 103)), (2, .null)] := hl
  have hS : va_S (fun _ => False) s.heap s.heap [] := va_S.rf
  have hE := C.2.2.2.2.2.2.2
  have hv := hE.1.1 0 (by decide)
  refine lv_iload_n C.1 C.2.1 dJ3_checkIndex_8e157_0 rfl (lv_at hl 0 rfl) ?_
  refine lv_if_lt (tgt := 9) C.1 C.2.1 dJ3_checkIndex_8e157_1 (by decide) (fun z => absurd z (nI_pos (by omega))) (fun _ => ?_)
  refine lv_iload_n C.1 C.2.1 dJ3_checkIndex_8e157_4 rfl (lv_at hl 0 rfl) ?_
  refine lv_iload_n C.1 C.2.1 dJ3_checkIndex_8e157_5 rfl (lv_at hl 1 rfl) ?_
  refine lv_icmp_lt (tgt := 16) C.1 C.2.1 dJ3_checkIndex_8e157_6 (by decide) (fun _ => ?_) (fun z => absurd (nI_lt hi (by omega)) z)
  refine lv_iload_n C.1 C.2.1 dJ3_checkIndex_8e157_16 rfl (lv_at hl 0 rfl) ?_
  exact J_ret C hS rfl rfl dJ3_checkIndex_8e157_17
set_option maxRecDepth 100000 in
set_option maxHeartbeats 4000000 in
theorem j_pchkR (w : qWT) {i : Nat} (hi : i < 103) {q : Nat} : jSem w mJ3_checkIndex_8e157 [.int (nI i), .int (nI 103), .ref q] (some (.int (nI i))) := by
  refine jSem.of (by decide +kernel) (Nat.le_of_ble_eq_true rfl) (fun p e s m args below meth c ls C hl => ?_)
  have hl : lv_has ls (m_n mJ3_checkIndex_8e157) [(0, .int (nI i)), (1, .int (nI 103)), (2, .ref q)] := hl
  have hS : va_S (fun _ => False) s.heap s.heap [] := va_S.rf
  have hE := C.2.2.2.2.2.2.2
  have hv := hE.1.1 0 (by decide)
  refine lv_iload_n C.1 C.2.1 dJ3_checkIndex_8e157_0 rfl (lv_at hl 0 rfl) ?_
  refine lv_if_lt (tgt := 9) C.1 C.2.1 dJ3_checkIndex_8e157_1 (by decide) (fun z => absurd z (nI_pos (by omega))) (fun _ => ?_)
  refine lv_iload_n C.1 C.2.1 dJ3_checkIndex_8e157_4 rfl (lv_at hl 0 rfl) ?_
  refine lv_iload_n C.1 C.2.1 dJ3_checkIndex_8e157_5 rfl (lv_at hl 1 rfl) ?_
  refine lv_icmp_lt (tgt := 16) C.1 C.2.1 dJ3_checkIndex_8e157_6 (by decide) (fun _ => ?_) (fun z => absurd (nI_lt hi (by omega)) z)
  refine lv_iload_n C.1 C.2.1 dJ3_checkIndex_8e157_16 rfl (lv_at hl 0 rfl) ?_
  exact J_ret C hS rfl rfl dJ3_checkIndex_8e157_17
set_option maxRecDepth 100000 in
set_option maxHeartbeats 4000000 in
theorem j_chk (w : qWT) {i : Nat} (hi : i < 103) : jSem w mJ0_checkIndex_df160 [.int (nI i), .int (nI 103)] (none) := by
  refine jSem.of (by decide +kernel) (Nat.le_of_ble_eq_true rfl) (fun p e s m args below meth c ls C hl => ?_)
  have hl : lv_has ls (m_n mJ0_checkIndex_df160) [(0, .int (nI i)), (1, .int (nI 103))] := hl
  have hS : va_S (fun _ => False) s.heap s.heap [] := va_S.rf
  have hE := C.2.2.2.2.2.2.2
  have hv := hE.1.1 0 (by decide)
  refine lv_iload_n C.1 C.2.1 dJ0_checkIndex_df160_0 rfl (lv_at hl 0 rfl) ?_
  refine lv_iload_n C.1 C.2.1 dJ0_checkIndex_df160_1 rfl (lv_at hl 1 rfl) ?_
  rcases hE.2.2 with hq | ⟨q, hq⟩
  · refine va_gets C.1 C.2.1 hq hS C.2.2.2.1 (C.2.2.2.2.1 _ (qW_t (i := 227) (by decide +kernel) rfl)) (fun _ z => z) dJ0_checkIndex_df160_2 ?_
    refine J_callS (As := [.int (nI i), .int (nI 103), .null]) C.1 C.2.1 C.2.2.1 C.2.2.2.1 C.2.2.2.2.1 hE hS hl.1 (j_pchkN w hi) mv_J3_checkIndex_8e157 (qW_t (i := 229) (by decide +kernel) rfl) ⟨(Nat.le_of_ble_eq_true rfl), (Nat.le_of_ble_eq_true rfl)⟩ dJ0_checkIndex_df160_5 rfl rfl (Nat.le_of_ble_eq_true rfl) ⟨Nat.zero_le _, Nat.zero_le _⟩ (fun H locs hz hk hS => ?_)
    refine lv_pop C.1 C.2.1 dJ0_checkIndex_df160_8 rfl ?_
    exact J_vret C hS rfl dJ0_checkIndex_df160_9
  · refine va_gets C.1 C.2.1 hq hS C.2.2.2.1 (C.2.2.2.2.1 _ (qW_t (i := 227) (by decide +kernel) rfl)) (fun _ z => z) dJ0_checkIndex_df160_2 ?_
    refine J_callS (As := [.int (nI i), .int (nI 103), .ref q]) C.1 C.2.1 C.2.2.1 C.2.2.2.1 C.2.2.2.2.1 hE hS hl.1 (j_pchkR w hi) mv_J3_checkIndex_8e157 (qW_t (i := 229) (by decide +kernel) rfl) ⟨(Nat.le_of_ble_eq_true rfl), (Nat.le_of_ble_eq_true rfl)⟩ dJ0_checkIndex_df160_5 rfl rfl (Nat.le_of_ble_eq_true rfl) ⟨Nat.zero_le _, Nat.zero_le _⟩ (fun H locs hz hk hS => ?_)
    refine lv_pop C.1 C.2.1 dJ0_checkIndex_df160_8 rfl ?_
    exact J_vret C hS rfl dJ0_checkIndex_df160_9
theorem j_byte : ∀ i : Fin 103, ((FBy.getD i.val 0 &&& (nI 255)).toUInt32 % 65536).toInt32 = nI (lt tx0 i.val) ∧ narrow .char (.int (nI (lt tx0 i.val))) = .int (nI (lt tx0 i.val)) := by decide +kernel
set_option maxRecDepth 100000 in
set_option maxHeartbeats 4000000 in
theorem j_lcharAt (w : qWT) {i : Nat} (hi : i < 103) : jSem w mJ1_charAt_3b067 [.ref (q_a w 2001), .int (nI i)] (some (.int (nI (lt tx0 i)))) := by
  refine jSem.of (by decide +kernel) (Nat.le_of_ble_eq_true rfl) (fun p e s m args below meth c ls C hl => ?_)
  have hl : lv_has ls (m_n mJ1_charAt_3b067) [(0, .ref (q_a w 2001)), (1, .int (nI i))] := hl
  have hS : va_S (fun _ => False) s.heap s.heap [] := va_S.rf
  have hE := C.2.2.2.2.2.2.2
  have hv := hE.1.1 0 (by decide)
  have hby := j_byte ⟨i, hi⟩
  refine lv_iload_n C.1 C.2.1 dJ1_charAt_3b067_0 rfl (lv_at hl 1 rfl) ?_
  refine lv_aload_n C.1 C.2.1 dJ1_charAt_3b067_1 rfl (lv_at hl 0 rfl) ?_
  refine va_tlen (v := nI 103) C.1 C.2.1 hv.2.2.2 hS rfl dJ1_charAt_3b067_2 ?_
  refine J_callS (As := [.int (nI i), .int (nI 103)]) C.1 C.2.1 C.2.2.1 C.2.2.2.1 C.2.2.2.2.1 hE hS hl.1 (j_chk w hi) mv_J0_checkIndex_df160 (qW_t (i := 224) (by decide +kernel) rfl) ⟨(Nat.le_of_ble_eq_true rfl), (Nat.le_of_ble_eq_true rfl)⟩ dJ1_charAt_3b067_3 rfl rfl (Nat.le_of_ble_eq_true rfl) ⟨Nat.zero_le _, Nat.zero_le _⟩ (fun H locs hz hk hS => ?_)
  refine lv_aload_n C.1 C.2.1 dJ1_charAt_3b067_6 rfl (lv_at hl 0 rfl) ?_
  refine lv_iload_n C.1 C.2.1 dJ1_charAt_3b067_7 rfl (lv_at hl 1 rfl) ?_
  refine va_tb (v := .int (FBy.getD i 0)) C.1 C.2.1 hv.2.2.2 hS (vp_in_nI hi (by decide)) (by rw [nI_clamp (by omega)]; rfl) dJ1_charAt_3b067_8 ?_
  refine lv_sipush (v := nI 255) C.1 C.2.1 dJ1_charAt_3b067_9 rfl ?_
  refine lv_iand C.1 C.2.1 dJ1_charAt_3b067_12 ?_
  refine lv_i2c C.1 C.2.1 dJ1_charAt_3b067_13 hby.1 ?_
  exact J_ret C hS rfl hby.2 dJ1_charAt_3b067_14
set_option maxRecDepth 100000 in
set_option maxHeartbeats 4000000 in
theorem j_charAt (w : qWT) {i : Nat} (hi : i < 103) : jSem w mJ0_charAt_5068e [.ref (q_a w 2000), .int (nI i)] (some (.int (nI (lt tx0 i)))) := by
  refine jSem.of (by decide +kernel) (Nat.le_of_ble_eq_true rfl) (fun p e s m args below meth c ls C hl => ?_)
  have hl : lv_has ls (m_n mJ0_charAt_5068e) [(0, .ref (q_a w 2000)), (1, .int (nI i))] := hl
  have hS : va_S (fun _ => False) s.heap s.heap [] := va_S.rf
  have hE := C.2.2.2.2.2.2.2
  have hv := hE.1.1 0 (by decide)
  have hby := j_byte ⟨i, hi⟩
  refine lv_aload_n C.1 C.2.1 dJ0_charAt_5068e_0 rfl (lv_at hl 0 rfl) ?_
  refine J_callV C.1 C.2.1 C.2.2.1 C.2.2.2.1 C.2.2.2.2.1 hE hS hl.1 (j_latin w) mv_J0_isLatin1_aae02 rfl (qW_t (i := 217) (by decide +kernel) rfl) ⟨(Nat.le_of_ble_eq_true rfl), (Nat.le_of_ble_eq_true rfl)⟩ dJ0_charAt_5068e_1 rfl rfl (Nat.le_of_ble_eq_true rfl) ⟨Nat.zero_le _, Nat.zero_le _⟩ (fun H locs hz hk hS => ?_)
  refine lv_if_eq (tgt := 16) C.1 C.2.1 dJ0_charAt_5068e_4 (by decide) (fun z => absurd z (by decide)) (fun _ => ?_)
  refine lv_aload_n C.1 C.2.1 dJ0_charAt_5068e_7 rfl (lv_at hl 0 rfl) ?_
  refine vk_getf C.1 C.2.1 hv.2.2.1 hS C.2.2.2.1 (C.2.2.2.2.1 _ (qW_t (i := 1214) (by decide +kernel) rfl)) (fun _ z => z) dJ0_charAt_5068e_8 ?_
  refine lv_iload_n C.1 C.2.1 dJ0_charAt_5068e_11 rfl (lv_at hl 1 rfl) ?_
  refine J_callS (As := [.ref (q_a w 2001), .int (nI i)]) C.1 C.2.1 C.2.2.1 C.2.2.2.1 C.2.2.2.2.1 hE hS hl.1 (j_lcharAt w hi) mv_J1_charAt_3b067 (qW_t (i := 221) (by decide +kernel) rfl) ⟨(Nat.le_of_ble_eq_true rfl), (Nat.le_of_ble_eq_true rfl)⟩ dJ0_charAt_5068e_12 rfl rfl (Nat.le_of_ble_eq_true rfl) ⟨Nat.zero_le _, Nat.zero_le _⟩ (fun H locs hz hk hS => ?_)
  exact J_ret C hS rfl hby.2 dJ0_charAt_5068e_15
