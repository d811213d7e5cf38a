
-- ===== calls in any room, beside other cells =====
theorem va_D.fst {A : Nat → Prop} {ws ws' : va_W} (h : va_D A ws) (e : ws'.map (fun q => q.1) = ws.map (fun q => q.1)) : va_D A ws' := by
  have key : ∀ (k : Nat) (q : Nat × va_E), ws'[k]? = some q → ∃ x, ws[k]? = some (q.1, x) := fun k q hk => by
    have h1 : (ws.map (fun q => q.1))[k]? = some q.1 := by rw [← e, List.getElem?_map, hk]; rfl
    rw [List.getElem?_map] at h1
    cases hw : ws[k]? with
    | none => rw [hw] at h1; cases h1
    | some y =>
      rw [hw] at h1
      obtain ⟨a, b⟩ := y
      have h2 : some a = some q.1 := h1
      cases h2
      exact ⟨b, rfl⟩
  refine ⟨fun i j x y hi hj hxy => ?_, fun k q hk => ?_⟩
  · obtain ⟨a, ha⟩ := key i x hi
    obtain ⟨b, hb⟩ := key j y hj
    exact h.1 i j _ _ ha hb hxy
  · obtain ⟨a, ha⟩ := key k q hk
    exact h.2 k (q.1, a) ha
theorem qws_fst {g : Nat} {w : qWT} {M : qMem} : (qws g w M).map (fun q => q.1) = (List.range (qN g)).map (q_a w) := by unfold qws; rw [List.map_map]; rfl
theorem g_left {ws wr : va_W} {k : Nat} {q : Nat × va_E} (h : ws[k]? = some q) : (ws ++ wr)[k]? = some q := by rw [List.getElem?_append_left (List.getElem?_eq_some_iff.mp h).1]; exact h
theorem g_right {ws wr : va_W} {k : Nat} {q : Nat × va_E} (h : wr[k]? = some q) : (ws ++ wr)[ws.length + k]? = some q := by rw [List.getElem?_append_right (by omega), Nat.add_sub_cancel_left]; exact h
def gCx (w : qWT) (A : Nat → Prop) (own : String) (cc : ByteArray) (nl : Nat) (p : Program) (s : State) (m : MethodId) (args : Array Value) (c : Code) : Prop :=
  p.tables.exec = Jvm.exec ∧ c.code = cc ∧ c.maxLocals = nl ∧ s.vm.findClass own = some m.cls ∧ (∀ z ∈ qW, z.before args s = true) ∧ va_K (q_D w) vwCl (qtys w) s ∧ qNest s ∧ qStat w A s s.heap ∧ ∀ q, s.heap.size ≤ q → A q
theorem G_cb {mc : qMT} {n idx : Nat} {R : Room} {s : State} {args : Array Value} {own : String} (hts : ∀ z ∈ qW, z.before args s = true) (hm : qMI mc n) (hl : Cond.methodLink own idx (m_y mc) ∈ qW) (hR : (m_rm mc).frames + 1 ≤ R.frames ∧ 8 + (m_n mc + 11) + (m_rm mc).locals ≤ R.locals) :
    CallB R s args own idx (m_y mc) (m_b mc) (m_n mc) (m_r mc) (Cond.code (m_y mc) (m_b mc) (m_n mc) (m_r mc) :: qW) (m_rm mc) 0 0 n := by
  obtain ⟨h1, h2, h3, h4⟩ := hm
  have hG : GoodIn qW (Cond.code (m_y mc) (m_b mc) (m_n mc) (m_r mc) :: qW) := fun z hz => by
    rcases List.mem_cons.mp hz with rfl | hz
    · exact qW_good _ h1
    · exact qW_good z hz
  refine ⟨rfl, rfl, hR.1, hR.2, pay_in hts hG, List.mem_cons_self, hts _ h1, hts _ h2, h3, fun sig h => ?_, hts _ hl⟩
  rw [h] at h4
  exact (Option.some.inj h4).symm
theorem G_callV {p : Program} {e : Env} {R : Room} {s : State} {m : MethodId} {args : Array Value} {below : List Frame} {meth : Method} {c : Code} {H : Heap} {locs : List Loc} {cells slots pc : Nat} {ls : Array Slot} {Q : State → Prop} {rest : List Value} {cc : ByteArray} {nl : Nat} {own : String} {A : Nat → Prop} {w : qWT} {g : Nat} {wr : va_W} {M : qMem} {mc : qMT} {n idx r ci : Nat} {fl : List (Option Nat)} {As : List Value} {Qc : qQ} {stk : List Value}
    (C : gCx w A own cc nl p s m args c) (hP : va_P (q_D w) vwCl (qws g w M ++ wr) H) (hD : va_D A (qws g w M ++ wr)) (hS : va_S A s.heap H locs) (hsz : ls.size = nl)
    (hd : decode cc pc = .ok (.invokevirtual idx, 3)) (hl : Cond.methodLink own idx (m_y mc) ∈ qW) (hm : qMV mc n) (hR : (m_rm mc).frames + 1 ≤ R.frames ∧ 8 + (m_n mc + 11) + (m_rm mc).locals ≤ R.locals) (ho : r < qN g) (hs : qsh g r = .inl (ci, fl)) (hci : vwCl[ci]?.map (fun q => q.1) = some (m_y mc).cls) (hst : stk = (As.map (qcv w)).reverse ++ .ref (q_a w r) :: rest) (hn : As.length = n) (hcat : (rest.map fun v => v.category).sum ≤ 8) (hf : cells ≤ R.cells ∧ slots ≤ R.slots) (hM : qSem g mc (.ref r :: As) M Qc)
    (kk : ∀ v N H1 locs1, Qc v N → va_P (q_D w) vwCl (qws g w N ++ wr) H1 → va_D A (qws g w N ++ wr) → va_S A s.heap H1 locs1 → W p (q_l w) e R s m args below meth c H1 locs1 cells slots Q (F0 m (pc + 3) ls ((v.map (qcv w)).toList ++ rest))) :
    W p (q_l w) e R s m args below meth c H locs cells slots Q (F0 m pc ls stk) := by
  subst hst
  obtain ⟨hx, hb, hml, hown, hts, hK, hNs, hSt, hA⟩ := C
  have hat : ∀ o, o < qN g → (qws g w M ++ wr)[o]? = some (q_a w o, qcell w M o (qsh g o)) := fun o ho => g_left (qws_at ho)
  have hPg : va_P (q_D w) vwCl (qws g w M) H := fun k q hk => hP k q (g_left hk)
  have he := qws_at (w := w) (M := M) ho
  rw [hs] at he
  obtain ⟨q, hq, hqe⟩ : ∃ q, vwCl[ci]? = some q ∧ q.1 = (m_y mc).cls := by
    cases hq : vwCl[ci]? with
    | none => rw [hq] at hci; cases hci
    | some q => rw [hq] at hci; exact ⟨q, rfl, Option.some.inj hci⟩
  have hrec := va_recv hK hPg hq he
  rw [hqe] at hrec
  have hAq : ∀ x, qA g w H.size x → A x := fun x hx => by
    rcases hx with ⟨o, ho, rfl⟩ | hx
    · exact hD.2 o _ (hat o ho)
    · exact hA x (Nat.le_trans hS.1 hx)
  have hDg : va_D (fun _ => True) (qws g w M) := ⟨fun i j a b hi hj hab => hD.1 i j a b (g_left hi) (g_left hj) hab, fun _ _ _ => trivial⟩
  have hpre : ∀ U : State, U.heap = H → s.WarmedH U.vm → qPre g w H.size M U := fun U hU hW => ⟨by rw [hU], by rw [hU]; exact hPg, va_K.moved hW.alike hK, hDg, qNest_moved hW hNs, by rw [hU]; exact qStat_narrow (qStat_moved hW.alike (qStat_kept hSt (fun a h1 h2 => hS.2.1 a h1 h2))) hAq⟩
  have hr := va_runV (R := R) (e := e) (below := below) (meth := meth) (H := H) (locs := locs) (cells := cells) (slots := slots) (rest := rest) (g := F0 m pc ls ((As.map (qcv w)).reverse ++ .ref (q_a w r) :: rest)) (b := q_a w r) (As := As.map (qcv w)) (C := (m_y mc).cls) (n := n) (Pc := va_Pc ((Value.ref r :: As).map (qcv w)) (qPre g w H.size M)) (Ts := qW) (own := own) (index := idx) ⟨hx, hb, hml, hown, hts⟩ (hM w H.size) ⟨G_cb hts hm.1 hl hR, hts _ hm.2.1, hts _ hm.2.2⟩ ⟨q_fits, hrec, fun U hU hW => ⟨rfl, hpre U hU hW⟩⟩ rfl (by rw [List.length_map]; exact hn) hsz rfl (lv_room hcat) hd ⟨hf.1, hf.2⟩
  intro T hT X
  obtain ⟨v, st₀, t, T', LL, h0, X', hLL, e1, e2, ⟨⟨u, N, hv, hq, hP1, hD1⟩, hz, hk⟩, stp⟩ := hr T hT X
  have hv' : v = u.map (qcv w) := by cases hv; rfl
  subst hv'
  rw [h0] at hz hk
  have hwr : ∀ (k : Nat) (q : Nat × va_E), wr[k]? = some q → T'.heap[q.1]? = H[q.1]? := fun k q hk2 => by
    have hk3 := g_right (ws := qws g w M) hk2
    have hlt := (hP _ _ hk3).lt
    rw [e1]
    refine hk q.1 hlt (fun z => ?_)
    rcases z with ⟨o, ho, e⟩ | z
    · have := hD.1 _ o q _ hk3 (hat o ho) e
      rw [qws_len] at this; omega
    · omega
  have hP2 : va_P (q_D w) vwCl (qws g w N ++ wr) T'.heap := va_P.app (by rw [e1]; exact hP1) (va_P.kept (fun k q hk2 => hP _ q (g_right (ws := qws g w M) hk2)) hwr)
  have hD2 : va_D A (qws g w N ++ wr) := hD.fst (by rw [List.map_append, List.map_append, qws_fst, qws_fst])
  have K := kk u N T'.heap (locs ++ LL) hq hP2 hD2 ⟨Nat.le_trans hS.1 (by rw [e1]; exact hz), fun q h1 h2 => by rw [e1, hk q (Nat.lt_of_lt_of_le h1 hS.1) (fun z => h2 (hAq q z))]; exact hS.2.1 q h1 h2, fun q hq => by
      rcases List.mem_append.mp hq with h | h
      · exact hS.2.2 q h
      · exact hAq _ (hLL q h)⟩
  obtain ⟨t2, a1, b1⟩ := K T' rfl X'
  exact ⟨t2, stp t2 a1, b1⟩
-- ===== constructors =====
def kSem (y : MethodName) (cc : ByteArray) (nl : Nat) (rm : Room) (w : qWT) (av : List Value) (ws0 : va_W) (E : (Nat → Prop) → State → Prop) {S : Type} (post : S → Prop) (ws1 : S → va_W) (mc ms : Nat) : Prop := ∀ sz : Nat, Met (q_l w) y (Cond.code y cc nl none :: qW) rm (va_Pc av (fun U => U.heap.size = sz ∧ va_P (q_D w) vwCl ws0 U.heap ∧ va_K (q_D w) vwCl (qtys w) U ∧ va_D (fun _ => True) ws0 ∧ E (va_A ws0 sz) U)) (va_Qv post (fun u t => va_P (q_D w) vwCl (ws1 u) t.heap ∧ va_D (va_A ws0 sz) (ws1 u)) (va_A ws0 sz)) mc ms (va_A ws0 sz)
def qKI (y : MethodName) (cc : ByteArray) (nl n : Nat) : Prop := Cond.code y cc nl none ∈ qW ∧ Cond.initialized y.cls ∈ qW ∧ Cond.instanceMethod y ∈ qW ∧ (y.cls ≠ "java/lang/invoke/MethodHandle" ∧ y.cls ≠ "java/lang/invoke/VarHandle") ∧ (parseMethodDescriptor y.desc).map (fun d => d.parameters.length) = some n ∧ y.name = "<init>"
/-- an environment: what a constructor takes as given beside its cells -/
def qEnv (E : (Nat → Prop) → State → Prop) : Prop := (∀ A U g mk a, E A U → E A (State.calling U g mk a)) ∧ ∀ A B s U, E A s → (∀ a : Nat, a < s.heap.size → ¬ A a → U.heap[a]? = s.heap[a]?) → s.WarmedH U.vm → (∀ q, B q → A q) → E B U
theorem qEnv_T : qEnv (fun _ _ => True) := ⟨fun _ _ _ _ _ _ => trivial, fun _ _ _ _ _ _ _ _ => trivial⟩
def qLn (own : String) (idx : Nat) (y : MethodName) (s : State) : Prop := Cond.methodLink own idx y ∈ qW ∨ ∃ host, va_Nw (.methodLinkNest own idx y host) s
theorem G_callI {p : Program} {e : Env} {R : Room} {s : State} {m : MethodId} {args : Array Value} {below : List Frame} {meth : Method} {c : Code} {H : Heap} {locs : List Loc} {cells slots pc : Nat} {ls : Array Slot} {Q : State → Prop} {rest : List Value} {cc : ByteArray} {nl : Nat} {own : String} {A : Nat → Prop} {w : qWT} {wr : va_W} {q : Nat} {e0 : va_E} {y : MethodName} {bytes : ByteArray} {maxL n idx mc ms : Nat} {rm : Room} {As : List Value} {E : (Nat → Prop) → State → Prop} {S : Type} {post : S → Prop} {ws1 : S → va_W}
    (hx : p.tables.exec = Jvm.exec) (hb : c.code = cc) (hml : c.maxLocals = nl) (hown : s.vm.findClass own = some m.cls) (hts : ∀ z ∈ qW, z.before args s = true) (hK : va_K (q_D w) vwCl (qtys w) s) (hA : ∀ x, s.heap.size ≤ x → A x)
    (hP : va_P (q_D w) vwCl (wr ++ [(q, e0)]) H) (hD : va_D A (wr ++ [(q, e0)])) (hS : va_S A s.heap H locs) (hE : qEnv E) (hEs : E A s) (hM : kSem y bytes maxL rm w (.ref q :: As) [(q, e0)] E post ws1 mc ms) (hm : qKI y bytes maxL n) (hl : qLn own idx y s) (hR : rm.frames + 1 ≤ R.frames ∧ 8 + (maxL + 11) + rm.locals ≤ R.locals) (hrm : rm.cells = mc ∧ rm.slots = ms) (hd : decode cc pc = .ok (.invokespecial idx, 3)) (hsz : ls.size = nl) (hn : As.length = n) (hcat : (rest.map fun v => v.category).sum ≤ 8) (hf : cells + mc ≤ R.cells ∧ slots + ms ≤ R.slots) {stk : List Value} (hst : stk = As.reverse ++ .ref q :: rest)
    (kk : ∀ (u : S) H1 locs1, post u → va_P (q_D w) vwCl (wr ++ ws1 u) H1 → va_D A (wr ++ ws1 u) → va_S A s.heap H1 locs1 → W p (q_l w) e R s m args below meth c H1 locs1 (cells + mc) (slots + ms) Q (F0 m (pc + 3) ls rest)) :
    W p (q_l w) e R s m args below meth c H locs cells slots Q (F0 m pc ls stk) := by
  subst hst
  obtain ⟨m1, m2, m3, m4, m5, m6⟩ := hm
  have hG : GoodIn qW (Cond.code y bytes maxL none :: qW) := fun z hz => by
    rcases List.mem_cons.mp hz with rfl | hz
    · exact qW_good _ m1
    · exact qW_good z hz
  have hql : (wr ++ [(q, e0)])[wr.length + 0]? = some (q, e0) := g_right rfl
  have hAq : ∀ x, va_A [(q, e0)] H.size x → A x := fun x hx => by
    rcases hx with ⟨k, e', hk⟩ | hx
    · have hk0 : k < 1 := (List.getElem?_eq_some_iff.mp hk).1
      rw [show k = 0 by omega] at hk
      cases hk
      exact hD.2 _ _ hql
    · exact hA x (Nat.le_trans hS.1 hx)
  have hP0 : va_P (q_D w) vwCl [(q, e0)] H := fun k z hk => hP _ z (g_right hk)
  have hD0 : va_D (fun _ => True) [(q, e0)] := ⟨fun i j a b hi hj hab => by
    have h1 : i < 1 := (List.getElem?_eq_some_iff.mp hi).1
    have h2 : j < 1 := (List.getElem?_eq_some_iff.mp hj).1
    omega, fun _ _ _ => trivial⟩
  have hpre : ∀ U : State, U.heap = H → s.WarmedH U.vm → va_Pc (.ref q :: As) (fun U => U.heap.size = H.size ∧ va_P (q_D w) vwCl [(q, e0)] U.heap ∧ va_K (q_D w) vwCl (qtys w) U ∧ va_D (fun _ => True) [(q, e0)] ∧ E (va_A [(q, e0)] H.size) U) (Value.ref q :: As).toArray U := fun U hU hW => ⟨rfl, by rw [hU], by rw [hU]; exact hP0, va_K.moved hW.alike hK, hD0, hE.2 A _ s U hEs (fun a h1 h2 => by rw [hU]; exact hS.2.1 a h1 h2) hW hAq⟩
  have hblind : FrameBlind (va_Pc (.ref q :: As) (fun U => U.heap.size = H.size ∧ va_P (q_D w) vwCl [(q, e0)] U.heap ∧ va_K (q_D w) vwCl (qtys w) U ∧ va_D (fun _ => True) [(q, e0)] ∧ E (va_A [(q, e0)] H.size) U)) := fun a U gg mk z => by
    obtain ⟨q0, q1, q2, q3, q4, q5⟩ := z
    exact ⟨q0, q1, q2, va_K.moved (u := U) (U := U.calling gg mk a) (Vm.Alike.refl U.vm) q3, q4, hE.1 _ _ _ _ _ q5⟩
  have hr : va_Run p (q_l w) e R s m args below meth c H locs cells slots mc ms (F0 m pc ls (As.reverse ++ .ref q :: rest)) rest ((va_Qv post (fun u t => va_P (q_D w) vwCl (ws1 u) t.heap ∧ va_D (va_A [(q, e0)] H.size) (ws1 u)) (va_A [(q, e0)] H.size)) (Value.ref q :: As).toArray) (va_A [(q, e0)] H.size) := by
    rcases hl with hl | ⟨host, hl⟩
    · exact va_runI (As := As) (Ts := qW) (own := own) (n := n) ⟨hx, hb, hml, hown, hts⟩ (hM H.size) (cwI n hts hG rfl hrm.1 hrm.2 (hts _ m2) (hts _ hl) (hts _ m3) m6 ⟨m4.1, m4.2, m5⟩ hR) ⟨hblind, hpre⟩ rfl hn hsz rfl (lv_room hcat) hd hf
    · exact va_runIN (As := As) (Ts := qW) (own := own) (host := host) (n := n) ⟨hx, hb, hml, hown, hts⟩ (hM H.size) ⟨va_cnB n hts hG rfl hrm.1 hrm.2 hl (hts _ m2) ⟨m4.1, m4.2, m5⟩ hR, m6, hts _ m3⟩ ⟨hblind, hpre⟩ rfl hn hsz rfl (lv_room hcat) hd hf
  refine va_callv hr hS (fun x _ h => hAq x h) hAq (fun u t H1 locs1 ht hvm hpu hB hz hk hS1 => ?_)
  obtain ⟨hP1, hD1⟩ := hB
  rw [ht] at hP1
  have hwr : ∀ (k : Nat) (z : Nat × va_E), wr[k]? = some z → z.1 < H.size ∧ ¬ va_A [(q, e0)] H.size z.1 := fun k z hk2 => by
    have hk3 := g_left (wr := [(q, e0)]) hk2
    have hlt := (hP _ _ hk3).lt
    refine ⟨hlt, fun h => ?_⟩
    rcases h with ⟨i, e', hi⟩ | h
    · have h1 : i < 1 := (List.getElem?_eq_some_iff.mp hi).1
      rw [show i = 0 by omega] at hi
      have e2 : q = z.1 := by have := congrArg (fun o => o.map (fun q : Nat × va_E => q.1)) hi; exact Option.some.inj this
      have := hD.1 _ _ _ _ hk3 hql e2.symm
      have h2 := (List.getElem?_eq_some_iff.mp hk2).1
      omega
    · omega
  refine kk u H1 locs1 hpu (va_P.app ((show va_P (q_D w) vwCl wr H from fun k z hk2 => hP k z (g_left hk2)).kept (fun k z hk2 => hk z.1 (hwr k z hk2).1 (hwr k z hk2).2)) hP1) (va_D.app ⟨fun i j a b hi hj hab => hD.1 i j a b (g_left hi) (g_left hj) hab, fun k z hk2 => hD.2 k z (g_left hk2)⟩ (hD1.weaken (fun k z _ h => hAq z.1 h)) (fun i j a b hi hj hab => (hwr i a hi).2 (by rw [hab]; exact hD1.2 j b hj))) hS1
def kCx (w : qWT) (own : String) (cc : ByteArray) (nl : Nat) (A : Nat → Prop) (p : Program) (s : State) (m : MethodId) (args : Array Value) (meth : Method) (c : Code) : Prop :=
  p.tables.exec = Jvm.exec ∧ c.code = cc ∧ c.maxLocals = nl ∧ s.vm.findClass own = some m.cls ∧ (∀ z ∈ qW, z.before args s = true) ∧ va_K (q_D w) vwCl (qtys w) s ∧ (∀ q, s.heap.size ≤ q → A q) ∧ meth.sig.returnType = none ∧ meth.locks = false ∧ meth.name = "<init>"
abbrev kMQ (below : List Frame) (A : Nat → Prop) (w : qWT) {S : Type} (post : S → Prop) (ws1 : S → va_W) (args : Array Value) (s : State) (mc ms : Nat) : State → Prop := MQ below (va_Qv post (fun u t => va_P (q_D w) vwCl (ws1 u) t.heap ∧ va_D A (ws1 u)) A) args s mc ms A
theorem kSem.of {y : MethodName} {cc : ByteArray} {nl : Nat} {rm : Room} {w : qWT} {av : List Value} {ws0 : va_W} {E : (Nat → Prop) → State → Prop} {S : Type} {post : S → Prop} {ws1 : S → va_W} {mc ms : Nat} (hp : plainName y.cls = true) (hin : y.name = "<init>") (hn : (lg_sl av).length ≤ nl)
    (h : ∀ (p : Program) (e : Env) (s : State) (m : MethodId) (args : Array Value) (below : List Frame) (meth : Method) (c : Code) (A : Nat → Prop) (ls : Array Slot), kCx w y.cls cc nl A p s m args meth c → E A s → va_P (q_D w) vwCl ws0 s.heap → va_D A ws0 → lv_has ls nl (lv_args 0 av) →
      W p (q_l w) e rm s m args below meth c s.heap [] 0 0 (kMQ below A w post ws1 args s mc ms) (F0 m 0 ls [])) : kSem y cc nl rm w av ws0 E post ws1 mc ms := by
  intro sz
  refine Met.ofW (cc := cc) (maxL := nl) (ret := none) hp rfl ?_
  intro p e s m args below meth c s₁ B hml hv
  obtain ⟨rfl, hsz, hP, hK, hD, hE⟩ := hv
  have hts := atoms_spec (ws := Cond.code y cc nl none :: qW) B.pre
  rw [lg_entry_eq]
  have hl := lv_entry av (n := nl) hn
  subst hsz
  exact h p e s m _ below meth c (va_A ws0 s.heap.size) _ ⟨B.exec, B.bytes, hml, findClass_of_methodNamed B.named, fun z hz => hts z (List.mem_cons_of_mem _ hz), hK, fun q hq => Or.inr hq, B.returns, B.notSynchronized, by rw [← hin]; exact (name_of_methodNamed B.named B.method).1⟩ hE hP hD.self hl
theorem g_arrQ {c : ClassId} {n : Nat} {f f' : Nat → Option Nat} (h : ∀ j, j < n → f j = f' j) : vp_cell c (n, .inr (.inr (.inr (.inr f)))) = vp_cell c (n, .inr (.inr (.inr (.inr f')))) := by
  rw [vp_cell_q, vp_cell_q]
  unfold arrV
  have e : (Array.ofFn (n := n) fun j => va_rf (f j.val)) = (Array.ofFn (n := n) fun j => va_rf (f' j.val)) := congrArg Array.ofFn (funext fun j => by rw [h j.val j.isLt])
  rw [e]
section KR
variable {p : Program} {e : Env} {R : Room} {s : State} {m : MethodId} {args : Array Value} {below : List Frame} {meth : Method} {c : Code} {H : Heap} {locs : List Loc} {cells slots pc : Nat} {ls : Array Slot} {Q : State → Prop} {rest : List Value} {cc : ByteArray} {nl : Nat} {own : String} {A : Nat → Prop} {w : qWT} {ws : va_W}
theorem K_obj {idx h0 : Nat} (C : kCx w own cc nl A p s m args meth c) (hl : Cond.methodLink own idx objectInit ∈ qW) (h1 : Cond.instanceMethod objectInit ∈ qW) (h2 : Cond.code objectInit ⟨#[0xb1]⟩ 1 none ∈ qW) (hsz : ls.size = nl) (hd : decode cc pc = .ok (.invokespecial idx, 3)) (hfr : 1 ≤ R.frames) (hlo : 20 ≤ R.locals) (hcat : (rest.map fun v => v.category).sum ≤ 8)
    (kk : W p (q_l w) e R s m args below meth c H locs cells slots Q (F0 m (pc + 3) ls rest)) : W p (q_l w) e R s m args below meth c H locs cells slots Q (F0 m pc ls (.ref h0 :: rest)) := by
  refine W.objInit C.1 C.2.1 C.2.2.2.1 (C.2.2.2.2.1 _ hl) (C.2.2.2.2.1 _ h1) (C.2.2.2.2.1 _ h2) rfl (by rw [C.2.2.1]; exact hsz) rfl hd hfr (by show 2 * 0 + _ + 12 ≤ _; omega) ?_
  exact kk
theorem K_cA {tys : List (ClassId × FieldType)} {cA cB : ClassId} {ty : FieldType} {D : va_G} {i : Nat} (hno : ∀ C, ty ≠ .object C) (hK : va_K D vwCl tys s) (hi : tys[i]? = some (cB, ty)) (hK2 : va_K D vwCl (tys ++ [(cA, ty)]) s) : cA = cB := by
  have h1 := (hK.2 i _ hi).2
  have h2 := (hK2.2 tys.length (cA, ty) (by simp)).2
  cases ty with
  | object C => exact absurd rfl (hno C)
  | _ =>
    have g1 : s.vm.findClass _ = some cB := h1
    have g2 : s.vm.findClass _ = some cA := h2
    exact Option.some.inj (g2.symm.trans g1)
theorem K_newi {N : Nat} (C : kCx w own cc nl A p s m args meth c) (harr : Cond.arrayClass .int ∈ qW) (hP : va_P (q_D w) vwCl ws H) (hD : va_D A ws) (hS : va_S A s.heap H locs) (hN : N < 100000) (hcells : cells + 1 ≤ R.cells) (hslots : slots + N ≤ R.slots) (hd : decode cc pc = .ok (.newarray .int, 2))
    (kk : ∀ (q : Nat) (H1 : Heap), va_P (q_D w) vwCl (ws ++ [(q, .inl (q_k w 0, N, .inl (fun _ => 0)))]) H1 → va_D A (ws ++ [(q, .inl (q_k w 0, N, .inl (fun _ => 0)))]) → va_S A s.heap H1 locs → W p (q_l w) e R s m args below meth c H1 locs (cells + 1) (slots + N) Q (F0 m (pc + 2) ls (.ref q :: rest))) : W p (q_l w) e R s m args below meth c H locs cells slots Q (F0 m pc ls (.int (nI N) :: rest)) := by
  refine va_newa (atype := .int) (ty := .int) (a0 := (N, .inl (fun _ => 0))) C.1 C.2.1 (C.2.2.2.2.1 _ harr) rfl C.2.2.2.2.2.1 hP hD hS C.2.2.2.2.2.2.1 (fun cA => rfl) (nI_pos (by omega)) (nI_clamp (by omega)) (by show N * _ ≤ _; simp only [componentBytes]; omega) hcells hslots hd (fun q cA H1 hK2 hP2 hD2 hS2 => ?_)
  have e := K_cA (i := 0) (fun _ h => by cases h) C.2.2.2.2.2.1 rfl hK2
  subst e
  exact kk q H1 hP2 hD2 hS2
theorem K_newc {N : Nat} (C : kCx w own cc nl A p s m args meth c) (harr : Cond.arrayClass .char ∈ qW) (hP : va_P (q_D w) vwCl ws H) (hD : va_D A ws) (hS : va_S A s.heap H locs) (hN : N < 100000) (hcells : cells + 1 ≤ R.cells) (hslots : slots + N ≤ R.slots) (hd : decode cc pc = .ok (.newarray .char, 2))
    (kk : ∀ (q : Nat) (H1 : Heap), va_P (q_D w) vwCl (ws ++ [(q, .inl (q_k w 1, N, .inl (fun _ => 0)))]) H1 → va_D A (ws ++ [(q, .inl (q_k w 1, N, .inl (fun _ => 0)))]) → va_S A s.heap H1 locs → W p (q_l w) e R s m args below meth c H1 locs (cells + 1) (slots + N) Q (F0 m (pc + 2) ls (.ref q :: rest))) : W p (q_l w) e R s m args below meth c H locs cells slots Q (F0 m pc ls (.int (nI N) :: rest)) := by
  refine va_newa (atype := .char) (ty := .char) (a0 := (N, .inl (fun _ => 0))) C.1 C.2.1 (C.2.2.2.2.1 _ harr) rfl C.2.2.2.2.2.1 hP hD hS C.2.2.2.2.2.2.1 (fun cA => rfl) (nI_pos (by omega)) (nI_clamp (by omega)) (by show N * _ ≤ _; simp only [componentBytes]; omega) hcells hslots hd (fun q cA H1 hK2 hP2 hD2 hS2 => ?_)
  have e := K_cA (i := 1) (fun _ h => by cases h) C.2.2.2.2.2.1 rfl hK2
  subst e
  exact kk q H1 hP2 hD2 hS2
theorem K_newl {N : Nat} (C : kCx w own cc nl A p s m args meth c) (harr : Cond.arrayClass .long ∈ qW) (hP : va_P (q_D w) vwCl ws H) (hD : va_D A ws) (hS : va_S A s.heap H locs) (hN : N < 100000) (hcells : cells + 1 ≤ R.cells) (hslots : slots + N ≤ R.slots) (hd : decode cc pc = .ok (.newarray .long, 2))
    (kk : ∀ (q : Nat) (H1 : Heap), va_P (q_D w) vwCl (ws ++ [(q, .inl (q_k w 2, N, .inr (.inl (fun _ => 0))))]) H1 → va_D A (ws ++ [(q, .inl (q_k w 2, N, .inr (.inl (fun _ => 0))))]) → va_S A s.heap H1 locs → W p (q_l w) e R s m args below meth c H1 locs (cells + 1) (slots + N) Q (F0 m (pc + 2) ls (.ref q :: rest))) : W p (q_l w) e R s m args below meth c H locs cells slots Q (F0 m pc ls (.int (nI N) :: rest)) := by
  refine va_newa (atype := .long) (ty := .long) (a0 := (N, .inr (.inl (fun _ => 0)))) C.1 C.2.1 (C.2.2.2.2.1 _ harr) rfl C.2.2.2.2.2.1 hP hD hS C.2.2.2.2.2.2.1 (fun cA => rfl) (nI_pos (by omega)) (nI_clamp (by omega)) (by show N * _ ≤ _; simp only [componentBytes]; omega) hcells hslots hd (fun q cA H1 hK2 hP2 hD2 hS2 => ?_)
  have e := K_cA (i := 2) (fun _ h => by cases h) C.2.2.2.2.2.1 rfl hK2
  subst e
  exact kk q H1 hP2 hD2 hS2
theorem K_mnai {N K idx : Nat} (C : kCx w own cc nl A p s m args meth c) (hcl : Cond.classLink own idx ("[" ++ (FieldType.array .int).toString) ∈ qW) (hover : va_AOA .int s) (harr : Cond.arrayClass .int ∈ qW) (hP : va_P (q_D w) vwCl ws H) (hD : va_D A ws) (hS : va_S A s.heap H locs) (hN : N < 100000) (hK : K < 100000) (hcells : cells + (1 + N) ≤ R.cells) (hslots : slots + (N + N * K) ≤ R.slots) (hd : decode cc pc = .ok (.multianewarray idx 2, 4))
    (kk : ∀ (q : Nat) (r : Nat → Nat) (H1 : Heap), va_P (q_D w) vwCl (ws ++ (q, .inl (q_k w 3, N, .inr (.inr (.inr (.inr (fun j => some (r j))))))) :: (List.range N).map (fun i => (r i, .inl (q_k w 0, K, .inl (fun _ => 0))))) H1 → va_D A (ws ++ (q, .inl (q_k w 3, N, .inr (.inr (.inr (.inr (fun j => some (r j))))))) :: (List.range N).map (fun i => (r i, .inl (q_k w 0, K, .inl (fun _ => 0))))) → va_S A s.heap H1 locs → W p (q_l w) e R s m args below meth c H1 locs (cells + 1 + N) (slots + N + N * K) Q (F0 m (pc + 4) ls (.ref q :: rest))) : W p (q_l w) e R s m args below meth c H locs cells slots Q (F0 m pc ls (.int (nI K) :: .int (nI N) :: rest)) := by
  have hKw := C.2.2.2.2.2.1
  have hcy : s.vm.findClass (FieldType.array .int).toString = some (q_k w 0) := (hKw.2 0 _ rfl).2
  refine va_mna (X := ws) (L := []) (f := fun _ => .inr (0, [])) (N' := N) (K' := K) (z := (K, .inl (fun _ => 0))) C.1 C.2.1 C.2.2.2.1 (C.2.2.2.2.1 _ hcl) hover (C.2.2.2.2.1 _ harr) hcy hKw (by rw [show ws ++ va_pl [] (fun _ => Sum.inr (0, [])) = ws from List.append_nil ws]; exact hP) (by rw [show ws ++ va_pl [] (fun _ => Sum.inr (0, [])) = ws from List.append_nil ws]; exact hD) hS C.2.2.2.2.2.2.1 (nI_pos (by omega)) (nI_pos (by omega)) (nI_clamp (by omega)) (nI_clamp (by omega)) (by omega) (by simp only [componentBytes]; omega) (by omega) rfl rfl hcells hslots (fun cA => by rw [show vp_cell cA (K, .inl (fun _ => (0 : Int32))) = arrV cA K (fun _ => defaultValue .int) from rfl, ← arrV_new]; rfl) hd (fun q r cA H1 hinj hnl hK2 hP2 hD2 hS2 => ?_)
  have e := K_cA (i := 3) (fun _ h => by cases h) hKw rfl hK2
  subst e
  have hrows : va_pl ([] ++ (List.range N).map r) (vr_up (fun _ => Sum.inr (0, [])) ((List.range N).map r) (.inl (q_k w 0, K, .inl (fun _ => 0)))) = (List.range N).map (fun i => (r i, .inl (q_k w 0, K, .inl (fun _ => 0)))) := by
    rw [← vr_rows (L := []) (fun a _ h => by cases h), List.map_map]; rfl
  rw [hrows, List.append_assoc] at hP2 hD2
  refine kk q r H1 (fun k z hz => ?_) (hD2.fst ?_) hS2
  · by_cases hk : k = ws.length
    · subst hk
      rw [List.getElem?_append_right (Nat.le_refl _), Nat.sub_self] at hz
      have hz2 : some (q, (Sum.inl (q_k w 3, N, .inr (.inr (.inr (.inr (fun j => some (r j)))))) : va_E)) = some z := hz
      cases hz2
      have h9 := hP2 ws.length (q, .inl (q_k w 3, N, .inr (.inr (.inr (.inr (fun i => if i < N then some (r i) else none)))))) (by rw [List.getElem?_append_right (Nat.le_refl _), Nat.sub_self]; rfl)
      have h10 : H1[q]? = some (vp_cell (q_k w 3) (N, .inr (.inr (.inr (.inr (fun i => if i < N then some (r i) else none)))))) := h9
      show H1[q]? = some (vp_cell (q_k w 3) (N, .inr (.inr (.inr (.inr (fun j => some (r j)))))))
      rw [h10]
      refine congrArg some (g_arrQ (fun j hj => ?_))
      rw [if_pos hj]
    · refine hP2 k z ?_
      rcases Nat.lt_or_ge k ws.length with h | h
      · rw [List.getElem?_append_left h] at hz ⊢; exact hz
      · rw [List.getElem?_append_right h] at hz ⊢
        obtain ⟨j, hj⟩ : ∃ j, k - ws.length = j + 1 := ⟨k - ws.length - 1, by omega⟩
        rw [hj] at hz ⊢
        exact hz
  · rw [List.map_append, List.map_append]; rfl
theorem K_mnal {N K idx : Nat} (C : kCx w own cc nl A p s m args meth c) (hcl : Cond.classLink own idx ("[" ++ (FieldType.array .long).toString) ∈ qW) (hover : va_AOA .long s) (harr : Cond.arrayClass .long ∈ qW) (hP : va_P (q_D w) vwCl ws H) (hD : va_D A ws) (hS : va_S A s.heap H locs) (hN : N < 100000) (hK : K < 100000) (hcells : cells + (1 + N) ≤ R.cells) (hslots : slots + (N + N * K) ≤ R.slots) (hd : decode cc pc = .ok (.multianewarray idx 2, 4))
    (kk : ∀ (q : Nat) (r : Nat → Nat) (H1 : Heap), va_P (q_D w) vwCl (ws ++ (q, .inl (q_k w 4, N, .inr (.inr (.inr (.inr (fun j => some (r j))))))) :: (List.range N).map (fun i => (r i, .inl (q_k w 2, K, .inr (.inl (fun _ => 0)))))) H1 → va_D A (ws ++ (q, .inl (q_k w 4, N, .inr (.inr (.inr (.inr (fun j => some (r j))))))) :: (List.range N).map (fun i => (r i, .inl (q_k w 2, K, .inr (.inl (fun _ => 0)))))) → va_S A s.heap H1 locs → W p (q_l w) e R s m args below meth c H1 locs (cells + 1 + N) (slots + N + N * K) Q (F0 m (pc + 4) ls (.ref q :: rest))) : W p (q_l w) e R s m args below meth c H locs cells slots Q (F0 m pc ls (.int (nI K) :: .int (nI N) :: rest)) := by
  have hKw := C.2.2.2.2.2.1
  have hcy : s.vm.findClass (FieldType.array .long).toString = some (q_k w 2) := (hKw.2 2 _ rfl).2
  refine va_mna (X := ws) (L := []) (f := fun _ => .inr (0, [])) (N' := N) (K' := K) (z := (K, .inr (.inl (fun _ => 0)))) C.1 C.2.1 C.2.2.2.1 (C.2.2.2.2.1 _ hcl) hover (C.2.2.2.2.1 _ harr) hcy hKw (by rw [show ws ++ va_pl [] (fun _ => Sum.inr (0, [])) = ws from List.append_nil ws]; exact hP) (by rw [show ws ++ va_pl [] (fun _ => Sum.inr (0, [])) = ws from List.append_nil ws]; exact hD) hS C.2.2.2.2.2.2.1 (nI_pos (by omega)) (nI_pos (by omega)) (nI_clamp (by omega)) (nI_clamp (by omega)) (by omega) (by simp only [componentBytes]; omega) (by omega) rfl rfl hcells hslots (fun cA => by rw [show vp_cell cA (K, .inr (.inl (fun _ => (0 : Int64)))) = arrV cA K (fun _ => defaultValue .long) from rfl, ← arrV_new]; rfl) hd (fun q r cA H1 hinj hnl hK2 hP2 hD2 hS2 => ?_)
  have e := K_cA (i := 4) (fun _ h => by cases h) hKw rfl hK2
  subst e
  have hrows : va_pl ([] ++ (List.range N).map r) (vr_up (fun _ => Sum.inr (0, [])) ((List.range N).map r) (.inl (q_k w 2, K, .inr (.inl (fun _ => 0))))) = (List.range N).map (fun i => (r i, .inl (q_k w 2, K, .inr (.inl (fun _ => 0))))) := by
    rw [← vr_rows (L := []) (fun a _ h => by cases h), List.map_map]; rfl
  rw [hrows, List.append_assoc] at hP2 hD2
  refine kk q r H1 (fun k z hz => ?_) (hD2.fst ?_) hS2
  · by_cases hk : k = ws.length
    · subst hk
      rw [List.getElem?_append_right (Nat.le_refl _), Nat.sub_self] at hz
      have hz2 : some (q, (Sum.inl (q_k w 4, N, .inr (.inr (.inr (.inr (fun j => some (r j)))))) : va_E)) = some z := hz
      cases hz2
      have h9 := hP2 ws.length (q, .inl (q_k w 4, N, .inr (.inr (.inr (.inr (fun i => if i < N then some (r i) else none)))))) (by rw [List.getElem?_append_right (Nat.le_refl _), Nat.sub_self]; rfl)
      have h10 : H1[q]? = some (vp_cell (q_k w 4) (N, .inr (.inr (.inr (.inr (fun i => if i < N then some (r i) else none)))))) := h9
      show H1[q]? = some (vp_cell (q_k w 4) (N, .inr (.inr (.inr (.inr (fun j => some (r j)))))))
      rw [h10]
      refine congrArg some (g_arrQ (fun j hj => ?_))
      rw [if_pos hj]
    · refine hP2 k z ?_
      rcases Nat.lt_or_ge k ws.length with h | h
      · rw [List.getElem?_append_left h] at hz ⊢; exact hz
      · rw [List.getElem?_append_right h] at hz ⊢
        obtain ⟨j, hj⟩ : ∃ j, k - ws.length = j + 1 := ⟨k - ws.length - 1, by omega⟩
        rw [hj] at hz ⊢
        exact hz
  · rw [List.map_append, List.map_append]; rfl
theorem K_newo {ci idx N : Nat} {Cn : String} {T : u_T} {ty : Nat → FieldType} {fs : List Value} (C : kCx w own cc nl A p s m args meth c) (ck : qCK ci Cn T N ty) (hcl : Cond.classLink own idx Cn ∈ qW) (hin : Cond.instantiable Cn N ∈ qW) (hini : Cond.initialized Cn ∈ qW) (hP : va_P (q_D w) vwCl ws H) (hD : va_D A ws) (hS : va_S A s.heap H locs) (hfs : ∀ j, j < N → defaultValue (ty j) = vp_V fs j) (hcells : cells + 1 ≤ R.cells) (hslots : slots + N ≤ R.slots) (hd : decode cc pc = .ok (.new idx, 3))
    (kk : ∀ (q : Nat) (H1 : Heap), va_P (q_D w) vwCl (ws ++ [(q, .inr (ci, fs))]) H1 → va_D A (ws ++ [(q, .inr (ci, fs))]) → va_S A s.heap H1 locs → W p (q_l w) e R s m args below meth c H1 locs (cells + 1) (slots + N) Q (F0 m (pc + 3) ls (.ref q :: rest))) : W p (q_l w) e R s m args below meth c H locs cells slots Q (F0 m pc ls rest) :=
  va_new C.1 C.2.1 C.2.2.2.2.1 ck.2.1 ty ck.2.2.1 C.2.2.2.1 (C.2.2.2.2.1 _ hcl) (C.2.2.2.2.1 _ hin) (C.2.2.2.2.1 _ hini) C.2.2.2.2.2.1 hP hD hS C.2.2.2.2.2.2.1 ck.1 hfs hcells hslots hd kk
theorem K_putF {ci idx k q0 a N : Nat} {Cn : String} {T : u_T} {ty : Nat → FieldType} {fs : List Value} {v : Value} (C : kCx w own cc nl A p s m args meth c) (ck : qCK ci Cn T N ty) (hk : k < N) (hl : Cond.fieldLink own idx Cn (T k).2.1 (T k).2.2.1 ∈ qW) (href : (T k).1 = Cn) (hfin : (T k).2.2.2 = true) (hdecl : Cn = own) (hP : va_P (q_D w) vwCl ws H) (hD : va_D A ws) (hS : va_S A s.heap H locs) (he : ws[q0]? = some (a, .inr (ci, fs))) (hn : narrow (ty k) v = v) (hfit : fits (ty k) v = true) (hlen : k < fs.length) (hd : decode cc pc = .ok (.putfield idx, 3))
    (kk : ∀ (H1 : Heap) (locs1 : List Loc), va_P (q_D w) vwCl (ws.set q0 (a, .inr (ci, fs.set k v))) H1 → va_D A (ws.set q0 (a, .inr (ci, fs.set k v))) → va_S A s.heap H1 locs1 → W p (q_l w) e R s m args below meth c H1 locs1 cells slots Q (F0 m (pc + 3) ls rest)) : W p (q_l w) e R s m args below meth c H locs cells slots Q (F0 m pc ls (v :: .ref a :: rest)) :=
  va_putF (D := q_D w) (ci := ci) (v := v) (ty := ty k) (C := Cn) (T := T) (N := N) C.1 C.2.1 C.2.2.2.2.1 ck.2.1 ty ck.2.2.1 ck.2.2.2 C.2.2.2.1 C.2.2.2.2.2.1 hP hD hS q0 he ck.1 k hk (C.2.2.2.2.1 _ hl) (by rw [href]; exact fun _ z => z) hfin C.2.2.2.2.2.2.2.2.2 (by rw [href]; exact hdecl) (ck.2.2.1 k hk) hn hfit hlen hd kk
theorem K_putI {ci idx k q0 a N : Nat} {Cn : String} {T : u_T} {ty : Nat → FieldType} {fs : List Value} {v : Value} (C : kCx w own cc nl A p s m args meth c) (ck : qCK ci Cn T N ty) (hk : k < N) (hl : Cond.fieldLink own idx Cn (T k).2.1 (T k).2.2.1 ∈ qW) (href : (T k).1 = Cn) (hfin : (T k).2.2.2 = false) (hP : va_P (q_D w) vwCl ws H) (hD : va_D A ws) (hS : va_S A s.heap H locs) (he : ws[q0]? = some (a, .inr (ci, fs))) (hn : narrow (ty k) v = v) (hfit : fits (ty k) v = true) (hlen : k < fs.length) (hd : decode cc pc = .ok (.putfield idx, 3))
    (kk : ∀ (H1 : Heap) (locs1 : List Loc), va_P (q_D w) vwCl (ws.set q0 (a, .inr (ci, fs.set k v))) H1 → va_D A (ws.set q0 (a, .inr (ci, fs.set k v))) → va_S A s.heap H1 locs1 → W p (q_l w) e R s m args below meth c H1 locs1 cells slots Q (F0 m (pc + 3) ls rest)) : W p (q_l w) e R s m args below meth c H locs cells slots Q (F0 m pc ls (v :: .ref a :: rest)) :=
  va_put (D := q_D w) (ci := ci) (v := v) (ty := ty k) (C := Cn) (T := T) (N := N) C.1 C.2.1 C.2.2.2.2.1 ck.2.1 ty ck.2.2.1 ck.2.2.2 C.2.2.2.1 C.2.2.2.2.2.1 hP hD hS q0 he ck.1 k hk (C.2.2.2.2.1 _ hl) (by rw [href]; exact fun _ z => z) hfin (ck.2.2.1 k hk) hn hfit hlen hd kk
theorem K_get {ci idx k q0 a N : Nat} {Cn : String} {T : u_T} {ty : Nat → FieldType} {fs : List Value} {v : Value} (C : kCx w own cc nl A p s m args meth c) (ck : qCK ci Cn T N ty) (hk : k < N) (hl : Cond.fieldLink own idx Cn (T k).2.1 (T k).2.2.1 ∈ qW) (href : (T k).1 = Cn) (hP : va_P (q_D w) vwCl ws H) (he : ws[q0]? = some (a, .inr (ci, fs))) (hv : fs[k]? = some v) (hd : decode cc pc = .ok (.getfield idx, 3))
    (kk : W p (q_l w) e R s m args below meth c H locs cells slots Q (F0 m (pc + 3) ls (v :: rest))) : W p (q_l w) e R s m args below meth c H locs cells slots Q (F0 m pc ls (.ref a :: rest)) :=
  va_get (D := q_D w) (ci := ci) (v := v) (C := Cn) (T := T) (N := N) C.1 C.2.1 C.2.2.2.2.1 ck.2.1 C.2.2.2.1 C.2.2.2.2.2.1 hP q0 he ck.1 k hk (C.2.2.2.2.1 _ hl) (by rw [href]; exact fun _ z => z) hv hd kk
theorem K_ret {S : Type} {post : S → Prop} {ws1 : S → va_W} {mc ms : Nat} (u : S) (C : kCx w own cc nl A p s m args meth c) (hu : post u) (hP : va_P (q_D w) vwCl (ws1 u) H) (hD : va_D A (ws1 u)) (hS : va_S A s.heap H locs) (hc : cells ≤ mc) (hs : slots ≤ ms) (hd : decode cc pc = .ok (.return_, 1)) : W p (q_l w) e R s m args below meth c H locs cells slots (kMQ below A w post ws1 args s mc ms) (F0 m pc ls []) :=
  W.widen (k := mc) (n := ms) hc hs (W.vret C.1 C.2.1 C.2.2.2.2.2.2.2.1 (fun t ht hW => ⟨⟨u, rfl, hu, by rw [ht]; exact hP, hD⟩, hS.F ht⟩) hS.2.2 hd C.2.2.2.2.2.2.2.2.1)
end KR
-- ===== worlds by another address function =====
theorem g_fn {D : va_G} {cl : List vw_C} {ws : va_W} {H : Heap} (h : va_P D cl ws H) (i : Nat) {x : Nat} {c : ClassId} {n : Nat} {f f' : Nat → Option Nat} (hi : ws[i]? = some (x, .inl (c, n, .inr (.inr (.inr (.inr f)))))) (he : ∀ j, j < n → f j = f' j) : va_P D cl (ws.set i (x, .inl (c, n, .inr (.inr (.inr (.inr f')))))) H := by
  intro k q hk
  by_cases hki : k = i
  · subst hki
    rw [List.getElem?_set_self (List.getElem?_eq_some_iff.mp hi).1] at hk
    cases hk
    have h1 : H[x]? = some (vp_cell c (n, .inr (.inr (.inr (.inr f))))) := h _ _ hi
    show H[x]? = some (vp_cell c (n, .inr (.inr (.inr (.inr f')))))
    rw [h1, g_arrQ he]
  · rw [List.getElem?_set_ne (Ne.symm hki)] at hk
    exact h k q hk
