/-! ===== BEGIN words of one list among another's, by their places ===== -/
theorem goodIn_r {big : List Cond} (ws : List Cond) (ps : List Nat) (hp : ws = ps.filterMap (fun i => big[i]?)) (h : ws.all goodWord = true) : GoodIn big ws := by
  intro w hw
  have h1 := List.all_eq_true.mp h w hw
  rw [hp] at hw
  obtain ⟨i, -, hi⟩ := List.mem_filterMap.mp hw
  have hm : w ∈ big := by first | exact List.mem_of_getElem? hi | exact List.getElem?_mem hi
  exact ⟨hm, good_of_word h1⟩
theorem goodIn_app {big a b : List Cond} (ha : GoodIn big a) (hb : GoodIn big b) : GoodIn big (a ++ b) := fun w h => (List.mem_append.mp h).elim (ha w) (hb w)
theorem goodIn_ca {big a b : List Cond} {c : Cond} (ha : GoodIn big (c :: a)) (hb : GoodIn big b) : GoodIn big (c :: (a ++ b)) := fun w h => (List.mem_cons.mp h).elim (fun e => ha w (List.mem_cons.mpr (Or.inl e))) (fun h => (List.mem_append.mp h).elim (fun h => ha w (List.mem_cons.mpr (Or.inr h))) (hb w))
theorem goodIn_sub {big ws : List Cond} (hm : ∀ w ∈ ws, w ∈ big) (h : ws.all goodWord = true) : GoodIn big ws := fun w hw => ⟨hm w hw, good_of_word (List.all_eq_true.mp h w hw)⟩
/-! ===== END ===== -/

/-! ===== BEGIN new T[n][m]: the outer array a place, the inner ones among the pooled ===== -/
/-- f, but v at every address of l -/
def vr_up {α : Type} (f : Nat → α) (l : List Nat) (v : α) : Nat → α := fun a => if a ∈ l then v else f a
theorem vr_up_in {α : Type} {f : Nat → α} {l : List Nat} {v : α} {a : Nat} (h : a ∈ l) : vr_up f l v a = v := if_pos h
theorem vr_up_ne {α : Type} {f : Nat → α} {l : List Nat} {v : α} {a : Nat} (h : a ∉ l) : vr_up f l v a = f a := if_neg h
theorem vr_rows {L l : List Nat} {f : Nat → va_E} {e : va_E} (h : ∀ a, a ∈ l → a ∉ L) : va_pl L f ++ l.map (fun a => (a, e)) = va_pl (L ++ l) (vr_up f l e) := by
  unfold va_pl
  rw [List.map_append]
  congr 1
  · apply List.map_congr_left
    intro a ha
    rw [vr_up_ne (fun q => h a q ha)]
  · apply List.map_congr_left
    intro a ha
    rw [vr_up_in ha]
theorem vr_lay {X rows : va_W} {x : Nat × va_E} {pl : va_W} {D : va_G} {cl : List vw_C} {H : Heap} (hP : va_P D cl (((X ++ pl) ++ [x]) ++ rows) H) : va_P D cl ((X ++ [x]) ++ (pl ++ rows)) H := by
  rw [List.append_assoc (X ++ pl)] at hP
  have h := va_P.swap hP
  rw [← List.append_assoc X] at h
  have h2 := va_P.swap h
  rw [List.append_assoc (X ++ [x])] at h2
  exact h2
theorem vr_layD {X rows : va_W} {x : Nat × va_E} {pl : va_W} {A : Nat → Prop} (hD : va_D A (((X ++ pl) ++ [x]) ++ rows)) : va_D A ((X ++ [x]) ++ (pl ++ rows)) := by
  rw [List.append_assoc (X ++ pl)] at hD
  have h := va_D.swap hD
  rw [← List.append_assoc X] at h
  have h2 := va_D.swap h
  rw [List.append_assoc (X ++ [x])] at h2
  exact h2
theorem vr_outer (c : ClassId) (N h0 : Nat) : ∀ i : Nat, Jvm.Free.Multi.outerC c N h0 i = arrV c N (fun j => va_rf (if j < i then some (h0 + 1 + j) else none))
  | 0 => by
    show ({ cls := c, slots := Array.replicate N .null, vm := .none } : Cell) = _
    rw [arrV_new]
    refine congrArg (arrV c N) (funext fun j => ?_)
    simp [va_rf]
  | i + 1 => by
    show (Jvm.Free.Multi.outerC c N h0 i).setSlot i (.ref (h0 + 1 + i)) = _
    rw [vr_outer c N h0 i, arrV_store]
    refine congrArg (arrV c N) (funext fun j => ?_)
    by_cases e : j = i
    · subst e
      simp [updV, va_rf]
    · by_cases h : j < i
      · simp [updV, e, h, Nat.lt_succ_of_lt h]
      · simp [updV, e, h, show ¬ j < i + 1 by omega]
/-- (the printed names use va_AOA; no kit text defines it: defined here) the tables say that an array of these arrays is -/
def va_AOA (ty : FieldType) (U : State) : Prop := (Cond.arrayOver (.array ty)).before #[] U = true
theorem va_AOA.use {ty : FieldType} {A : Array Value} {U : State} (h : va_AOA ty U) : (Cond.arrayOver (.array ty)).before A U = true := h
theorem va_AOA.of {ty : FieldType} {A : Array Value} {U : State} (h : (Cond.arrayOver (.array ty)).before A U = true) : va_AOA ty U := h
section VGM
variable {p : Program} {l : Launch} {e : Env} {R : Room} {s : State} {m : MethodId} {args : Array Value} {below : List Frame} {meth : Method} {c : Code} {H : Heap} {locs : List Loc} {cells slots : Nat} {Q : State → Prop}
variable {cc : ByteArray} {pc : Nat} {ls : Array Slot} {rest : List Value} {D : va_G} {cl : List vw_C} {A : Nat → Prop} {a : Nat} {tys : List (ClassId × FieldType)} {ws : va_W} {H0 : Heap}
theorem va_mna {X : va_W} {L : List Nat} {f : Nat → va_E} {cc : ByteArray} (hexec : p.tables.exec = Jvm.exec) (hb : c.code = cc) {own : String} {index : Nat} {ty : FieldType} {cy : ClassId} (hown : s.vm.findClass own = some m.cls) (hclink : (Cond.classLink own index ("[" ++ (FieldType.array ty).toString)).before args s = true) (hover : va_AOA ty s) (harr : (Cond.arrayClass ty).before args s = true) (hcy : s.vm.findClass (FieldType.array ty).toString = some cy)
    (hK : va_K D cl tys s) (hP : va_P D cl (X ++ va_pl L f) H) (hD : va_D A (X ++ va_pl L f)) (hS : va_S A H0 H locs) (hA : ∀ q, H0.size ≤ q → A q) {n k : Int32} {N' K' : Nat} {z : vp_A} (hn : ¬ n < 0) (hk : ¬ k < 0) (hN : n.toNatClampNeg = N') (hM : k.toNatClampNeg = K')
    (hb1 : N' * 4 ≤ 536870912) (hb2 : K' * componentBytes ty ≤ 536870912) (hb3 : K' ≤ 536870912) (hdf : fits ty (defaultValue ty) = true) (hdd : (defaultValue ty).isDefault = true) (hcells : cells + (1 + N') ≤ R.cells) (hslots : slots + (N' + N' * K') ≤ R.slots) (hz : ∀ c : ClassId, Jvm.Free.Multi.innerC c K' (defaultValue ty) = vp_cell c z) (hdg : decode cc pc = .ok (.multianewarray index 2, 4))
    (kk : ∀ (q : Nat) (r : Nat → Nat) (cA : ClassId) (H1 : Heap), (∀ i j : Nat, i < N' → j < N' → r i = r j → i = j) → (∀ i : Nat, i < N' → r i ∉ L) → va_K D cl (tys ++ [(cA, .array ty)]) s →
      va_P D cl ((X ++ [(q, .inl (cA, N', .inr (.inr (.inr (.inr (fun i => if i < N' then some (r i) else none))))))]) ++ va_pl (L ++ (List.range N').map r) (vr_up f ((List.range N').map r) (.inl (cy, z)))) H1 → va_D A ((X ++ [(q, .inl (cA, N', .inr (.inr (.inr (.inr (fun i => if i < N' then some (r i) else none))))))]) ++ va_pl (L ++ (List.range N').map r) (vr_up f ((List.range N').map r) (.inl (cy, z)))) → va_S A H0 H1 locs →
      W p l e R s m args below meth c H1 locs (cells + 1 + N') (slots + N' + N' * K') Q (F0 m (pc + 4) ls (.ref q :: rest))) : W p l e R s m args below meth c H locs cells slots Q (F0 m pc ls (.int k :: .int n :: rest)) := by
  subst hN
  subst hM
  intro T hT Xs
  obtain ⟨vm₁, cA, comp, -, fA, fC, hO, -, X', step⟩ := Xs.multianewarray2F hexec hown hclink (va_AOA.use hover) harr (g := F0 m pc ls (.int k :: .int n :: rest)) rfl (by rw [hb]; exact hdg) rfl hn hk hb1 hb2 hb3 hdf hdd hcells hslots
  have ec : some cy = some comp := hcy.symm.trans fC
  cases ec
  generalize hF : Jvm.Free.Multi.fill (T.setVm vm₁) cA cy n.toNatClampNeg k.toNatClampNeg (defaultValue ty) n.toNatClampNeg = F at X' step
  have hTh : (T.setVm vm₁).heap = H := hT
  obtain ⟨f1, f2, -, -⟩ := Jvm.Free.Multi.fill_facts (T.setVm vm₁) cA cy n.toNatClampNeg k.toNatClampNeg (defaultValue ty) n.toNatClampNeg
  rw [hF, hTh] at f1 f2
  have hold : ∀ x : Nat, x < H.size → F.heap[x]? = H[x]? := fun x hx => by
    have := Jvm.Free.Multi.fill_old (T.setVm vm₁) cA cy n.toNatClampNeg k.toNatClampNeg (defaultValue ty) (a := x) (by rw [hTh]; exact hx) n.toNatClampNeg
    rw [hF, hTh] at this
    exact this
  have hrow : ∀ j : Nat, j < n.toNatClampNeg → F.heap[H.size + 1 + j]? = some (vp_cell cy z) := fun j hj => by
    have := Jvm.Free.Multi.fill_inner (T.setVm vm₁) cA cy n.toNatClampNeg k.toNatClampNeg (defaultValue ty) n.toNatClampNeg j hj
    rw [hF, hTh, hz] at this
    exact this
  have hout : Jvm.Free.Multi.outerC cA n.toNatClampNeg H.size n.toNatClampNeg = vp_cell cA (n.toNatClampNeg, .inr (.inr (.inr (.inr (fun i => if i < n.toNatClampNeg then some (H.size + 1 + i) else none))))) := by
    rw [vp_cell_q]
    exact vr_outer cA n.toNatClampNeg H.size n.toNatClampNeg
  rw [hout] at f2
  have hlt : ∀ a, a ∈ L → a < H.size := fun a ha => by
    obtain ⟨k9, hk9⟩ := va_pl_get (X := X) (f := f) ha
    exact (hP k9 _ hk9).lt
  have hnl : ∀ i : Nat, i < n.toNatClampNeg → H.size + 1 + i ∉ L := fun i _ h => by
    have := hlt _ h
    omega
  have hnm : ∀ a, a ∈ (List.range n.toNatClampNeg).map (fun i => H.size + 1 + i) → a ∉ L := fun a ha h => by
    obtain ⟨i, -, rfl⟩ := List.mem_map.mp ha
    have := hlt _ h
    omega
  have hP0 : va_P D cl (X ++ va_pl L f) F.heap := hP.kept (fun k9 x hx => hold x.1 ((hP k9 x hx).lt))
  have hP1 : va_P D cl ((X ++ va_pl L f) ++ [(H.size, .inl (cA, n.toNatClampNeg, .inr (.inr (.inr (.inr (fun i => if i < n.toNatClampNeg then some (H.size + 1 + i) else none))))))]) F.heap := hP0.app (fun k9 x hx => by
    have h0 : k9 < 1 := (List.getElem?_eq_some_iff.mp hx).1
    rw [show k9 = 0 by omega] at hx
    cases hx
    exact f2)
  have hP2 : va_P D cl (((X ++ va_pl L f) ++ [(H.size, .inl (cA, n.toNatClampNeg, .inr (.inr (.inr (.inr (fun i => if i < n.toNatClampNeg then some (H.size + 1 + i) else none))))))]) ++ ((List.range n.toNatClampNeg).map (fun i => H.size + 1 + i)).map (fun a => (a, .inl (cy, z)))) F.heap := hP1.app (fun k9 x hx => by
    obtain ⟨a, ha, rfl⟩ := List.mem_map.mp (List.mem_of_getElem? hx)
    obtain ⟨i, hi, rfl⟩ := List.mem_map.mp ha
    exact hrow i (List.mem_range.mp hi))
  have hD2 : va_D A (((X ++ va_pl L f) ++ [(H.size, .inl (cA, n.toNatClampNeg, .inr (.inr (.inr (.inr (fun i => if i < n.toNatClampNeg then some (H.size + 1 + i) else none))))))]) ++ ((List.range n.toNatClampNeg).map (fun i => H.size + 1 + i)).map (fun a => (a, .inl (cy, z)))) := by
    have hD1 := hD.push (e := .inl (cA, n.toNatClampNeg, .inr (.inr (.inr (.inr (fun i => if i < n.toNatClampNeg then some (H.size + 1 + i) else none)))))) hP rfl (hA _ hS.1)
    generalize hW1 : (X ++ va_pl L f) ++ [(H.size, .inl (cA, n.toNatClampNeg, .inr (.inr (.inr (.inr (fun i => if i < n.toNatClampNeg then some (H.size + 1 + i) else none))))))] = W1 at hD1 hP1 ⊢
    have hle : ∀ (k9 : Nat) (x : Nat × va_E), W1[k9]? = some x → x.1 ≤ H.size := fun k9 x hx => by
      rw [← hW1] at hx
      by_cases hl : k9 < (X ++ va_pl L f).length
      · rw [List.getElem?_append_left hl] at hx
        exact Nat.le_of_lt ((hP k9 x hx).lt)
      · rw [List.getElem?_append_right (by omega)] at hx
        have h0 : k9 - (X ++ va_pl L f).length < 1 := (List.getElem?_eq_some_iff.mp hx).1
        rw [show k9 - (X ++ va_pl L f).length = 0 by omega] at hx
        cases hx
        exact Nat.le_refl _
    have hr : ∀ (k9 : Nat) (x : Nat × va_E), (((List.range n.toNatClampNeg).map (fun i => H.size + 1 + i)).map (fun a => ((a, .inl (cy, z)) : Nat × va_E)))[k9]? = some x → x.1 = H.size + 1 + k9 := fun k9 x hx => by
      rw [List.getElem?_map, List.getElem?_map] at hx
      by_cases h9 : k9 < n.toNatClampNeg
      · rw [List.getElem?_range h9] at hx
        cases hx
        rfl
      · have hn0 : (List.range n.toNatClampNeg)[k9]? = none := List.getElem?_eq_none (by rw [List.length_range]; omega)
        rw [hn0] at hx
        cases hx
    refine ⟨fun i j x y hi hj hxy => ?_, fun k9 x hx => ?_⟩
    · by_cases h1 : i < W1.length <;> by_cases h2 : j < W1.length
      · rw [List.getElem?_append_left h1] at hi
        rw [List.getElem?_append_left h2] at hj
        exact hD1.1 i j x y hi hj hxy
      · rw [List.getElem?_append_left h1] at hi
        rw [List.getElem?_append_right (by omega)] at hj
        have := hle _ _ hi
        have := hr _ _ hj
        omega
      · rw [List.getElem?_append_right (by omega)] at hi
        rw [List.getElem?_append_left h2] at hj
        have := hle _ _ hj
        have := hr _ _ hi
        omega
      · rw [List.getElem?_append_right (by omega)] at hi hj
        have := hr _ _ hi
        have := hr _ _ hj
        omega
    · by_cases h1 : k9 < W1.length
      · rw [List.getElem?_append_left h1] at hx
        exact hD1.2 k9 x hx
      · rw [List.getElem?_append_right (by omega)] at hx
        have := hr _ _ hx
        exact hA _ (by have := hS.1; omega)
  have hAr : ArrOfT s cA (.array ty) := fun N9 z9 => by
    obtain ⟨-, k9, hk9, cm9, hkk9⟩ := (hO 0 0 0).1
    exact ⟨(fun q hq => by cases hq), k9, hk9, cm9, hkk9⟩
  have hK2 : va_K D cl (tys ++ [(cA, .array ty)]) s := ⟨hK.1, fun k9 x hx => by
    by_cases hl : k9 < tys.length
    · rw [List.getElem?_append_left hl] at hx
      exact hK.2 k9 x hx
    · rw [List.getElem?_append_right (by omega)] at hx
      have h0 : k9 - tys.length < 1 := (List.getElem?_eq_some_iff.mp hx).1
      rw [show k9 - tys.length = 0 by omega] at hx
      cases hx
      exact ⟨hAr, fA⟩⟩
  obtain ⟨t, a1, b1⟩ := kk H.size (fun i => H.size + 1 + i) cA F.heap (fun i j _ _ h => by have h9 : H.size + 1 + i = H.size + 1 + j := h; omega) hnl hK2 (by rw [← vr_rows hnm]; exact vr_lay hP2) (by rw [← vr_rows hnm]; exact vr_layD hD2) ⟨by rw [f1]; have := hS.1; omega, fun x h1 h2 => (hold x (Nat.lt_of_lt_of_le h1 hS.1)).trans (hS.2.1 x h1 h2), hS.2.2⟩ F rfl X'
  refine ⟨t, step t ?_, b1⟩
  have e : T.heap.size = H.size := by rw [hT]
  rw [e]
  exact a1
end VGM
/-! ===== END ===== -/

def RX0 : String := "ShiftMender$Culprits"
def TX0 : u_T := fun k => match k with
  | 0 => ("ShiftMender$Culprits", "segmentation", "LShiftMender$Segmentation;", true)
  | 1 => ("ShiftMender$Culprits", "version", "I", false)
  | 2 => ("ShiftMender$Culprits", "pairs", "I", false)
  | 3 => ("ShiftMender$Culprits", "firsts", "[I", true)
  | 4 => ("ShiftMender$Culprits", "seconds", "[I", true)
  | 5 => ("ShiftMender$Culprits", "open", "[[I", true)
  | 6 => ("ShiftMender$Culprits", "shifts", "[[J", true)
  | 7 => ("ShiftMender$Culprits", "cast", "[[I", true)
  | 8 => ("ShiftMender$Culprits", "left", "[[I", true)
  | 9 => ("ShiftMender$Culprits", "length", "I", false)
  | _ => ("ShiftMender$Culprits", "found", "[[I", true)
def tyX0 : Nat → FieldType := fun k => match k with
  | 0 => .object "ShiftMender$Segmentation"
  | 1 => .int
  | 2 => .int
  | 3 => .array .int
  | 4 => .array .int
  | 5 => .array (.array .int)
  | 6 => .array (.array .long)
  | 7 => .array (.array .int)
  | 8 => .array (.array .int)
  | 9 => .int
  | _ => .array (.array .int)
abbrev wsX00 : List Cond := u_ws RX0 TX0 11
theorem nmX0 : ∀ a, a < 11 → ∀ b, b < 11 → a ≠ b → (TX0 a).2.1 ≠ (TX0 b).2.1 := by decide +kernel
theorem tyX0_ok : ∀ k, k < 11 → parseFieldDescriptor (TX0 k).2.2.1 = some (tyX0 k) := by decide +kernel
abbrev cX0_init : ByteArray := prog_2_method_1_code
def yX0_init : MethodName := ⟨RX0, "<init>", "()V"⟩
abbrev cX0_refresh : ByteArray := prog_2_method_2_code
def yX0_refresh : MethodName := ⟨RX0, "refresh", "(LShiftMender$Records;)V"⟩
abbrev cX0_votesCast : ByteArray := prog_2_method_3_code
def yX0_votesCast : MethodName := ⟨RX0, "votesCast", "(II)I"⟩
abbrev cX0_length : ByteArray := prog_2_method_4_code
def yX0_length : MethodName := ⟨RX0, "length", "()I"⟩
abbrev cX0_property : ByteArray := prog_2_method_5_code
def yX0_property : MethodName := ⟨RX0, "property", "(II)I"⟩
abbrev cX0_clear : ByteArray := prog_2_method_6_code
def yX0_clear : MethodName := ⟨RX0, "clear", "()V"⟩
abbrev cX0_addPair : ByteArray := prog_2_method_7_code
def yX0_addPair : MethodName := ⟨RX0, "addPair", "(LShiftMender$Records;II)V"⟩
abbrev cX0_findCulprit : ByteArray := prog_2_method_8_code
def yX0_findCulprit : MethodName := ⟨RX0, "findCulprit", "(LShiftMender$Records;)Z"⟩
abbrev cX0_size : ByteArray := prog_2_method_9_code
def yX0_size : MethodName := ⟨RX0, "size", "(II)I"⟩
abbrev cX0_isOf : ByteArray := prog_2_method_10_code
def yX0_isOf : MethodName := ⟨RX0, "isOf", "(II)Z"⟩
abbrev cX0_strikeVotes : ByteArray := prog_2_method_11_code
def yX0_strikeVotes : MethodName := ⟨RX0, "strikeVotes", "(LShiftMender$Records;II)V"⟩
def RX1 : String := "ShiftMender$History"
def TX1 : u_T := fun k => match k with
  | 0 => ("ShiftMender$History", "parts", "[[I", true)
  | 1 => ("ShiftMender$History", "oldest", "I", false)
  | _ => ("ShiftMender$History", "length", "I", false)
def tyX1 : Nat → FieldType := fun k => match k with
  | 0 => .array (.array .int)
  | 1 => .int
  | _ => .int
abbrev wsX10 : List Cond := u_ws RX1 TX1 3
theorem nmX1 : ∀ a, a < 3 → ∀ b, b < 3 → a ≠ b → (TX1 a).2.1 ≠ (TX1 b).2.1 := by decide +kernel
theorem tyX1_ok : ∀ k, k < 3 → parseFieldDescriptor (TX1 k).2.2.1 = some (tyX1 k) := by decide +kernel
abbrev cX1_init : ByteArray := prog_3_method_1_code
def yX1_init : MethodName := ⟨RX1, "<init>", "()V"⟩
abbrev cX1_clear : ByteArray := prog_3_method_2_code
def yX1_clear : MethodName := ⟨RX1, "clear", "()V"⟩
abbrev cX1_length : ByteArray := prog_3_method_3_code
def yX1_length : MethodName := ⟨RX1, "length", "()I"⟩
abbrev cX1_add : ByteArray := prog_3_method_4_code
def yX1_add : MethodName := ⟨RX1, "add", "(IIII)V"⟩
abbrev cX1_slot : ByteArray := prog_3_method_5_code
def yX1_slot : MethodName := ⟨RX1, "slot", "(I)I"⟩
abbrev cX1_latest : ByteArray := prog_3_method_6_code
def yX1_latest : MethodName := ⟨RX1, "latest", "(I)I"⟩
abbrev cX1_dropLatest : ByteArray := prog_3_method_7_code
def yX1_dropLatest : MethodName := ⟨RX1, "dropLatest", "()V"⟩
def RX2 : String := "ShiftMender$Ledger"
def TX2 : u_T := fun k => match k with
  | 0 => ("ShiftMender$Ledger", "columns", "[[I", true)
  | _ => ("ShiftMender$Ledger", "length", "I", false)
def tyX2 : Nat → FieldType := fun k => match k with
  | 0 => .array (.array .int)
  | _ => .int
abbrev wsX20 : List Cond := u_ws RX2 TX2 2
theorem nmX2 : ∀ a, a < 2 → ∀ b, b < 2 → a ≠ b → (TX2 a).2.1 ≠ (TX2 b).2.1 := by decide +kernel
theorem tyX2_ok : ∀ k, k < 2 → parseFieldDescriptor (TX2 k).2.2.1 = some (tyX2 k) := by decide +kernel
abbrev cX2_init : ByteArray := prog_4_method_1_code
def yX2_init : MethodName := ⟨RX2, "<init>", "()V"⟩
abbrev cX2_clear : ByteArray := prog_4_method_2_code
def yX2_clear : MethodName := ⟨RX2, "clear", "()V"⟩
abbrev cX2_length : ByteArray := prog_4_method_3_code
def yX2_length : MethodName := ⟨RX2, "length", "()I"⟩
abbrev cX2_isFull : ByteArray := prog_4_method_4_code
def yX2_isFull : MethodName := ⟨RX2, "isFull", "()Z"⟩
abbrev cX2_add : ByteArray := prog_4_method_5_code
def yX2_add : MethodName := ⟨RX2, "add", "(III)V"⟩
abbrev cX2_dropLast : ByteArray := prog_4_method_6_code
def yX2_dropLast : MethodName := ⟨RX2, "dropLast", "()V"⟩
abbrev cX2_property : ByteArray := prog_4_method_7_code
def yX2_property : MethodName := ⟨RX2, "property", "(II)I"⟩
def RX3 : String := "ShiftMender$Records"
def TX3 : u_T := fun k => match k with
  | 0 => ("ShiftMender$Records", "years", "I", false)
  | 1 => ("ShiftMender$Records", "stations", "I", false)
  | 2 => ("ShiftMender$Records", "x", "[I", true)
  | 3 => ("ShiftMender$Records", "y", "[I", true)
  | 4 => ("ShiftMender$Records", "values", "[[I", true)
  | 5 => ("ShiftMender$Records", "breakPenalty", "I", false)
  | 6 => ("ShiftMender$Records", "rules", "[I", true)
  | _ => ("ShiftMender$Records", "version", "I", false)
def tyX3 : Nat → FieldType := fun k => match k with
  | 0 => .int
  | 1 => .int
  | 2 => .array .int
  | 3 => .array .int
  | 4 => .array (.array .int)
  | 5 => .int
  | 6 => .array .int
  | _ => .int
abbrev wsX30 : List Cond := u_ws RX3 TX3 8
theorem nmX3 : ∀ a, a < 8 → ∀ b, b < 8 → a ≠ b → (TX3 a).2.1 ≠ (TX3 b).2.1 := by decide +kernel
theorem tyX3_ok : ∀ k, k < 8 → parseFieldDescriptor (TX3 k).2.2.1 = some (tyX3 k) := by decide +kernel
abbrev cX3_init : ByteArray := prog_5_method_1_code
def yX3_init : MethodName := ⟨RX3, "<init>", "()V"⟩
abbrev cX3_startAfresh : ByteArray := prog_5_method_2_code
def yX3_startAfresh : MethodName := ⟨RX3, "startAfresh", "()V"⟩
abbrev cX3_copyFrom : ByteArray := prog_5_method_3_code
def yX3_copyFrom : MethodName := ⟨RX3, "copyFrom", "(LShiftMender$Records;)V"⟩
abbrev cX3_setYears : ByteArray := prog_5_method_4_code
def yX3_setYears : MethodName := ⟨RX3, "setYears", "(I)V"⟩
abbrev cX3_addStation : ByteArray := prog_5_method_5_code
def yX3_addStation : MethodName := ⟨RX3, "addStation", "(II)Z"⟩
abbrev cX3_version : ByteArray := prog_5_method_6_code
def yX3_version : MethodName := ⟨RX3, "version", "()I"⟩
abbrev cX3_years : ByteArray := prog_5_method_7_code
def yX3_years : MethodName := ⟨RX3, "years", "()I"⟩
abbrev cX3_stations : ByteArray := prog_5_method_8_code
def yX3_stations : MethodName := ⟨RX3, "stations", "()I"⟩
abbrev cX3_hasStation : ByteArray := prog_5_method_9_code
def yX3_hasStation : MethodName := ⟨RX3, "hasStation", "(I)Z"⟩
abbrev cX3_knows : ByteArray := prog_5_method_10_code
def yX3_knows : MethodName := ⟨RX3, "knows", "(II)Z"⟩
abbrev cX3_has : ByteArray := prog_5_method_11_code
def yX3_has : MethodName := ⟨RX3, "has", "(II)Z"⟩
abbrev cX3_at : ByteArray := prog_5_method_12_code
def yX3_at : MethodName := ⟨RX3, "at", "(II)I"⟩
abbrev cX3_put : ByteArray := prog_5_method_13_code
def yX3_put : MethodName := ⟨RX3, "put", "(III)V"⟩
abbrev cX3_breakPenalty : ByteArray := prog_5_method_14_code
def yX3_breakPenalty : MethodName := ⟨RX3, "breakPenalty", "()I"⟩
abbrev cX3_setBreakPenalty : ByteArray := prog_5_method_15_code
def yX3_setBreakPenalty : MethodName := ⟨RX3, "setBreakPenalty", "(I)V"⟩
abbrev cX3_ruleOf : ByteArray := prog_5_method_16_code
def yX3_ruleOf : MethodName := ⟨RX3, "ruleOf", "(I)I"⟩
abbrev cX3_setRule : ByteArray := prog_5_method_17_code
def yX3_setRule : MethodName := ⟨RX3, "setRule", "(II)V"⟩
abbrev cX3_canShiftEarlier : ByteArray := prog_5_method_18_code
def yX3_canShiftEarlier : MethodName := ⟨RX3, "canShiftEarlier", "(III)Z"⟩
abbrev cX3_shiftEarlier : ByteArray := prog_5_method_19_code
def yX3_shiftEarlier : MethodName := ⟨RX3, "shiftEarlier", "(III)V"⟩
abbrev cX3_rank : ByteArray := prog_5_method_20_code
def yX3_rank : MethodName := ⟨RX3, "rank", "(II)I"⟩
abbrev cX3_squaredDistance : ByteArray := prog_5_method_21_code
def yX3_squaredDistance : MethodName := ⟨RX3, "squaredDistance", "(II)I"⟩
abbrev cX3_arePair : ByteArray := prog_5_method_22_code
def yX3_arePair : MethodName := ⟨RX3, "arePair", "(II)Z"⟩
abbrev cX3_countPairs : ByteArray := prog_5_method_23_code
def yX3_countPairs : MethodName := ⟨RX3, "countPairs", "()I"⟩
abbrev cX3_countMissing : ByteArray := prog_5_method_24_code
def yX3_countMissing : MethodName := ⟨RX3, "countMissing", "()I"⟩
def RX4 : String := "ShiftMender$Script"
def TX4 : u_T := fun k => match k with
  | 0 => ("ShiftMender$Script", "letters", "[C", true)
  | 1 => ("ShiftMender$Script", "length", "I", false)
  | _ => ("ShiftMender$Script", "draft", "LShiftMender$Records;", true)
def tyX4 : Nat → FieldType := fun k => match k with
  | 0 => .array .char
  | 1 => .int
  | _ => .object "ShiftMender$Records"
abbrev wsX40 : List Cond := u_ws RX4 TX4 3
theorem nmX4 : ∀ a, a < 3 → ∀ b, b < 3 → a ≠ b → (TX4 a).2.1 ≠ (TX4 b).2.1 := by decide +kernel
theorem tyX4_ok : ∀ k, k < 3 → parseFieldDescriptor (TX4 k).2.2.1 = some (tyX4 k) := by decide +kernel
abbrev cX4_init : ByteArray := prog_6_method_1_code
def yX4_init : MethodName := ⟨RX4, "<init>", "()V"⟩
abbrev cX4_append : ByteArray := prog_6_method_2_code
def yX4_append : MethodName := ⟨RX4, "append", "(C)Z"⟩
abbrev cX4_clear : ByteArray := prog_6_method_3_code
def yX4_clear : MethodName := ⟨RX4, "clear", "()V"⟩
abbrev cX4_length : ByteArray := prog_6_method_4_code
def yX4_length : MethodName := ⟨RX4, "length", "()I"⟩
abbrev cX4_draft : ByteArray := prog_6_method_5_code
def yX4_draft : MethodName := ⟨RX4, "draft", "()LShiftMender$Records;"⟩
abbrev cX4_read : ByteArray := prog_6_method_6_code
def yX4_read : MethodName := ⟨RX4, "read", "()I"⟩
abbrev cX4_readItem : ByteArray := prog_6_method_7_code
def yX4_readItem : MethodName := ⟨RX4, "readItem", "(I)I"⟩
abbrev cX4_readYears : ByteArray := prog_6_method_8_code
def yX4_readYears : MethodName := ⟨RX4, "readYears", "(I)I"⟩
abbrev cX4_readStation : ByteArray := prog_6_method_9_code
def yX4_readStation : MethodName := ⟨RX4, "readStation", "(I)I"⟩
abbrev cX4_readPenalty : ByteArray := prog_6_method_10_code
def yX4_readPenalty : MethodName := ⟨RX4, "readPenalty", "(I)I"⟩
abbrev cX4_readRules : ByteArray := prog_6_method_11_code
def yX4_readRules : MethodName := ⟨RX4, "readRules", "(I)I"⟩
abbrev cX4_endsAt : ByteArray := prog_6_method_12_code
def yX4_endsAt : MethodName := ⟨RX4, "endsAt", "(I)Z"⟩
abbrev cX4_signAt : ByteArray := prog_6_method_13_code
def yX4_signAt : MethodName := ⟨RX4, "signAt", "(I)I"⟩
def RX5 : String := "ShiftMender$Segmentation"
def TX5 : u_T := fun k => match k with
  | 0 => ("ShiftMender$Segmentation", "series", "LShiftMender$Series;", true)
  | 1 => ("ShiftMender$Segmentation", "costs", "[J", true)
  | 2 => ("ShiftMender$Segmentation", "breakCounts", "[I", true)
  | 3 => ("ShiftMender$Segmentation", "nextStarts", "[I", true)
  | 4 => ("ShiftMender$Segmentation", "fixedCosts", "[J", true)
  | _ => ("ShiftMender$Segmentation", "starts", "[I", true)
def tyX5 : Nat → FieldType := fun k => match k with
  | 0 => .object "ShiftMender$Series"
  | 1 => .array .long
  | 2 => .array .int
  | 3 => .array .int
  | 4 => .array .long
  | _ => .array .int
abbrev wsX50 : List Cond := u_ws RX5 TX5 6
theorem nmX5 : ∀ a, a < 6 → ∀ b, b < 6 → a ≠ b → (TX5 a).2.1 ≠ (TX5 b).2.1 := by decide +kernel
theorem tyX5_ok : ∀ k, k < 6 → parseFieldDescriptor (TX5 k).2.2.1 = some (tyX5 k) := by decide +kernel
abbrev cX5_init : ByteArray := prog_7_method_1_code
def yX5_init : MethodName := ⟨RX5, "<init>", "()V"⟩
abbrev cX5_compare : ByteArray := prog_7_method_2_code
def yX5_compare : MethodName := ⟨RX5, "compare", "(LShiftMender$Records;II)V"⟩
abbrev cX5_fit : ByteArray := prog_7_method_3_code
def yX5_fit : MethodName := ⟨RX5, "fit", "(II)V"⟩
abbrev cX5_fitFrom : ByteArray := prog_7_method_4_code
def yX5_fitFrom : MethodName := ⟨RX5, "fitFrom", "(IIJ)V"⟩
abbrev cX5_keepStarts : ByteArray := prog_7_method_5_code
def yX5_keepStarts : MethodName := ⟨RX5, "keepStarts", "()V"⟩
abbrev cX5_breakCount : ByteArray := prog_7_method_6_code
def yX5_breakCount : MethodName := ⟨RX5, "breakCount", "()I"⟩
abbrev cX5_breakYear : ByteArray := prog_7_method_7_code
def yX5_breakYear : MethodName := ⟨RX5, "breakYear", "(I)I"⟩
abbrev cX5_scaledShift : ByteArray := prog_7_method_8_code
def yX5_scaledShift : MethodName := ⟨RX5, "scaledShift", "(I)J"⟩
abbrev cX5_scaledCost : ByteArray := prog_7_method_9_code
def yX5_scaledCost : MethodName := ⟨RX5, "scaledCost", "()J"⟩
abbrev cX5_scaledSpreads : ByteArray := prog_7_method_10_code
def yX5_scaledSpreads : MethodName := ⟨RX5, "scaledSpreads", "(II)J"⟩
abbrev cX5_addRun : ByteArray := prog_7_method_11_code
def yX5_addRun : MethodName := ⟨RX5, "addRun", "(II)V"⟩
def RX6 : String := "ShiftMender$Series"
def TX6 : u_T := fun k => match k with
  | 0 => ("ShiftMender$Series", "length", "I", false)
  | 1 => ("ShiftMender$Series", "entries", "[I", true)
  | 2 => ("ShiftMender$Series", "years", "[I", true)
  | 3 => ("ShiftMender$Series", "sums", "[J", true)
  | _ => ("ShiftMender$Series", "squares", "[J", true)
def tyX6 : Nat → FieldType := fun k => match k with
  | 0 => .int
  | 1 => .array .int
  | 2 => .array .int
  | 3 => .array .long
  | _ => .array .long
abbrev wsX60 : List Cond := u_ws RX6 TX6 5
theorem nmX6 : ∀ a, a < 5 → ∀ b, b < 5 → a ≠ b → (TX6 a).2.1 ≠ (TX6 b).2.1 := by decide +kernel
theorem tyX6_ok : ∀ k, k < 5 → parseFieldDescriptor (TX6 k).2.2.1 = some (tyX6 k) := by decide +kernel
abbrev cX6_init : ByteArray := prog_8_method_1_code
def yX6_init : MethodName := ⟨RX6, "<init>", "()V"⟩
abbrev cX6_compare : ByteArray := prog_8_method_2_code
def yX6_compare : MethodName := ⟨RX6, "compare", "(LShiftMender$Records;II)V"⟩
abbrev cX6_add : ByteArray := prog_8_method_3_code
def yX6_add : MethodName := ⟨RX6, "add", "(II)V"⟩
abbrev cX6_length : ByteArray := prog_8_method_4_code
def yX6_length : MethodName := ⟨RX6, "length", "()I"⟩
abbrev cX6_entryAt : ByteArray := prog_8_method_5_code
def yX6_entryAt : MethodName := ⟨RX6, "entryAt", "(I)I"⟩
abbrev cX6_yearAt : ByteArray := prog_8_method_6_code
def yX6_yearAt : MethodName := ⟨RX6, "yearAt", "(I)I"⟩
abbrev cX6_scaledMean : ByteArray := prog_8_method_7_code
def yX6_scaledMean : MethodName := ⟨RX6, "scaledMean", "(II)J"⟩
abbrev cX6_scaledSpread : ByteArray := prog_8_method_8_code
def yX6_scaledSpread : MethodName := ⟨RX6, "scaledSpread", "(II)J"⟩
def RX7 : String := "ShiftMender"
def TX7 : u_T := fun k => match k with
  | 0 => ("ShiftMender", "script", "LShiftMender$Script;", true)
  | 1 => ("ShiftMender", "records", "LShiftMender$Records;", true)
  | 2 => ("ShiftMender", "series", "LShiftMender$Series;", true)
  | 3 => ("ShiftMender", "segmentation", "LShiftMender$Segmentation;", true)
  | 4 => ("ShiftMender", "culprits", "LShiftMender$Culprits;", true)
  | 5 => ("ShiftMender", "history", "LShiftMender$History;", true)
  | _ => ("ShiftMender", "ledger", "LShiftMender$Ledger;", true)
def tyX7 : Nat → FieldType := fun k => match k with
  | 0 => .object "ShiftMender$Script"
  | 1 => .object "ShiftMender$Records"
  | 2 => .object "ShiftMender$Series"
  | 3 => .object "ShiftMender$Segmentation"
  | 4 => .object "ShiftMender$Culprits"
  | 5 => .object "ShiftMender$History"
  | _ => .object "ShiftMender$Ledger"
abbrev wsX70 : List Cond := u_ws RX7 TX7 7
theorem nmX7 : ∀ a, a < 7 → ∀ b, b < 7 → a ≠ b → (TX7 a).2.1 ≠ (TX7 b).2.1 := by decide +kernel
theorem tyX7_ok : ∀ k, k < 7 → parseFieldDescriptor (TX7 k).2.2.1 = some (tyX7 k) := by decide +kernel
abbrev cX7_init : ByteArray := prog_1_method_1_code
def yX7_init : MethodName := ⟨RX7, "<init>", "()V"⟩
abbrev cX7_write : ByteArray := prog_1_method_2_code
def yX7_write : MethodName := ⟨RX7, "write", "(I)I"⟩
abbrev cX7_wipe : ByteArray := prog_1_method_3_code
def yX7_wipe : MethodName := ⟨RX7, "wipe", "()I"⟩
abbrev cX7_fault : ByteArray := prog_1_method_4_code
def yX7_fault : MethodName := ⟨RX7, "fault", "()I"⟩
abbrev cX7_lay : ByteArray := prog_1_method_5_code
def yX7_lay : MethodName := ⟨RX7, "lay", "()I"⟩
abbrev cX7_layScript : ByteArray := prog_1_method_6_code
def yX7_layScript : MethodName := ⟨RX7, "layScript", "()I"⟩
abbrev cX7_value : ByteArray := prog_1_method_7_code
def yX7_value : MethodName := ⟨RX7, "value", "(II)I"⟩
abbrev cX7_shown : ByteArray := prog_1_method_8_code
def yX7_shown : MethodName := ⟨RX7, "shown", "(I)I"⟩
abbrev cX7_isValue : ByteArray := prog_1_method_9_code
def yX7_isValue : MethodName := ⟨RX7, "isValue", "(I)Z"⟩
abbrev cX7_set : ByteArray := prog_1_method_10_code
def yX7_set : MethodName := ⟨RX7, "set", "(III)I"⟩
abbrev cX7_lose : ByteArray := prog_1_method_11_code
def yX7_lose : MethodName := ⟨RX7, "lose", "(II)I"⟩
abbrev cX7_changeValue : ByteArray := prog_1_method_12_code
def yX7_changeValue : MethodName := ⟨RX7, "changeValue", "(III)Z"⟩
abbrev cX7_penalty : ByteArray := prog_1_method_13_code
def yX7_penalty : MethodName := ⟨RX7, "penalty", "(I)I"⟩
abbrev cX7_isPenalty : ByteArray := prog_1_method_14_code
def yX7_isPenalty : MethodName := ⟨RX7, "isPenalty", "(I)Z"⟩
abbrev cX7_rule : ByteArray := prog_1_method_15_code
def yX7_rule : MethodName := ⟨RX7, "rule", "(II)I"⟩
abbrev cX7_isRule : ByteArray := prog_1_method_16_code
def yX7_isRule : MethodName := ⟨RX7, "isRule", "(II)Z"⟩
abbrev cX7_undo : ByteArray := prog_1_method_17_code
def yX7_undo : MethodName := ⟨RX7, "undo", "()I"⟩
abbrev cX7_day : ByteArray := prog_1_method_18_code
def yX7_day : MethodName := ⟨RX7, "day", "(II)I"⟩
abbrev cX7_remainder : ByteArray := prog_1_method_19_code
def yX7_remainder : MethodName := ⟨RX7, "remainder", "(II)I"⟩
abbrev cX7_nearest : ByteArray := prog_1_method_20_code
def yX7_nearest : MethodName := ⟨RX7, "nearest", "(II)I"⟩
abbrev cX7_pair : ByteArray := prog_1_method_21_code
def yX7_pair : MethodName := ⟨RX7, "pair", "(II)I"⟩
abbrev cX7_areTwoStations : ByteArray := prog_1_method_22_code
def yX7_areTwoStations : MethodName := ⟨RX7, "areTwoStations", "(II)Z"⟩
abbrev cX7_entry : ByteArray := prog_1_method_23_code
def yX7_entry : MethodName := ⟨RX7, "entry", "(III)I"⟩
abbrev cX7_year : ByteArray := prog_1_method_24_code
def yX7_year : MethodName := ⟨RX7, "year", "(III)I"⟩
abbrev cX7_spread : ByteArray := prog_1_method_25_code
def yX7_spread : MethodName := ⟨RX7, "spread", "(IIII)J"⟩
abbrev cX7_split : ByteArray := prog_1_method_26_code
def yX7_split : MethodName := ⟨RX7, "split", "(III)I"⟩
abbrev cX7_segment : ByteArray := prog_1_method_27_code
def yX7_segment : MethodName := ⟨RX7, "segment", "(III)V"⟩
abbrev cX7_cost : ByteArray := prog_1_method_28_code
def yX7_cost : MethodName := ⟨RX7, "cost", "(II)J"⟩
abbrev cX7_spreads : ByteArray := prog_1_method_29_code
def yX7_spreads : MethodName := ⟨RX7, "spreads", "(III)J"⟩
abbrev cX7_breaks : ByteArray := prog_1_method_30_code
def yX7_breaks : MethodName := ⟨RX7, "breaks", "(III)I"⟩
abbrev cX7_least : ByteArray := prog_1_method_31_code
def yX7_least : MethodName := ⟨RX7, "least", "(III)I"⟩
abbrev cX7_votes : ByteArray := prog_1_method_32_code
def yX7_votes : MethodName := ⟨RX7, "votes", "(II)I"⟩
abbrev cX7_culprit : ByteArray := prog_1_method_33_code
def yX7_culprit : MethodName := ⟨RX7, "culprit", "(II)I"⟩
abbrev cX7_mend : ByteArray := prog_1_method_34_code
def yX7_mend : MethodName := ⟨RX7, "mend", "(I)I"⟩
abbrev cX7_mendCulprit : ByteArray := prog_1_method_35_code
def yX7_mendCulprit : MethodName := ⟨RX7, "mendCulprit", "(I)I"⟩
abbrev cX7_mends : ByteArray := prog_1_method_36_code
def yX7_mends : MethodName := ⟨RX7, "mends", "()I"⟩
abbrev cX7_ledger : ByteArray := prog_1_method_37_code
def yX7_ledger : MethodName := ⟨RX7, "ledger", "(II)I"⟩
abbrev cX7_made : ByteArray := prog_1_method_38_code
def yX7_made : MethodName := ⟨RX7, "made", "(II)I"⟩
abbrev cX7_make : ByteArray := prog_1_method_39_code
def yX7_make : MethodName := ⟨RX7, "make", "(II)I"⟩
abbrev cX7_estimate : ByteArray := prog_1_method_40_code
def yX7_estimate : MethodName := ⟨RX7, "estimate", "(II)I"⟩
abbrev cX7_roundedMean : ByteArray := prog_1_method_41_code
def yX7_roundedMean : MethodName := ⟨RX7, "roundedMean", "(JI)I"⟩
abbrev cX7_rise : ByteArray := prog_1_method_42_code
def yX7_rise : MethodName := ⟨RX7, "rise", "(I)I"⟩
abbrev cX7_direction : ByteArray := prog_1_method_43_code
def yX7_direction : MethodName := ⟨RX7, "direction", "(II)I"⟩
abbrev cX7_count : ByteArray := prog_1_method_44_code
def yX7_count : MethodName := ⟨RX7, "count", "(I)I"⟩
def RX8 : String := "ShiftMenderModel"
def TX8 : u_T := fun k => match k with
  | 0 => ("ShiftMenderModel", "length", "I", false)
  | 1 => ("ShiftMenderModel", "text", "[I", true)
  | 2 => ("ShiftMenderModel", "stations", "I", false)
  | 3 => ("ShiftMenderModel", "years", "I", false)
  | 4 => ("ShiftMenderModel", "px", "[I", true)
  | 5 => ("ShiftMenderModel", "py", "[I", true)
  | 6 => ("ShiftMenderModel", "now", "[I", true)
  | 7 => ("ShiftMenderModel", "readStations", "I", false)
  | 8 => ("ShiftMenderModel", "readYears", "I", false)
  | 9 => ("ShiftMenderModel", "readX", "[I", true)
  | 10 => ("ShiftMenderModel", "readY", "[I", true)
  | 11 => ("ShiftMenderModel", "read", "[I", true)
  | 12 => ("ShiftMenderModel", "before", "[I", true)
  | 13 => ("ShiftMenderModel", "undoMany", "I", false)
  | 14 => ("ShiftMenderModel", "ledgers", "[I", true)
  | 15 => ("ShiftMenderModel", "spot", "I", false)
  | 16 => ("ShiftMenderModel", "many", "I", false)
  | 17 => ("ShiftMenderModel", "entry", "[J", true)
  | 18 => ("ShiftMenderModel", "entryYear", "[I", true)
  | 19 => ("ShiftMenderModel", "rest", "[J", true)
  | 20 => ("ShiftMenderModel", "breakMany", "I", false)
  | 21 => ("ShiftMenderModel", "breakAt", "[I", true)
  | 22 => ("ShiftMenderModel", "isKnown", "Z", false)
  | 23 => ("ShiftMenderModel", "all", "[I", true)
  | 24 => ("ShiftMenderModel", "left", "[I", true)
  | 25 => ("ShiftMenderModel", "culprits", "I", false)
  | 26 => ("ShiftMenderModel", "who", "[I", true)
  | 27 => ("ShiftMenderModel", "when", "[I", true)
  | 28 => ("ShiftMenderModel", "voted", "[I", true)
  | 29 => ("ShiftMenderModel", "with", "[I", true)
  | _ => ("ShiftMenderModel", "makes", "I", false)
def tyX8 : Nat → FieldType := fun k => match k with
  | 0 => .int
  | 1 => .array .int
  | 2 => .int
  | 3 => .int
  | 4 => .array .int
  | 5 => .array .int
  | 6 => .array .int
  | 7 => .int
  | 8 => .int
  | 9 => .array .int
  | 10 => .array .int
  | 11 => .array .int
  | 12 => .array .int
  | 13 => .int
  | 14 => .array .int
  | 15 => .int
  | 16 => .int
  | 17 => .array .long
  | 18 => .array .int
  | 19 => .array .long
  | 20 => .int
  | 21 => .array .int
  | 22 => .boolean
  | 23 => .array .int
  | 24 => .array .int
  | 25 => .int
  | 26 => .array .int
  | 27 => .array .int
  | 28 => .array .int
  | 29 => .array .int
  | _ => .int
abbrev wsX80 : List Cond := u_ws RX8 TX8 31
theorem nmX8 : ∀ a, a < 31 → ∀ b, b < 31 → a ≠ b → (TX8 a).2.1 ≠ (TX8 b).2.1 := by decide +kernel
theorem tyX8_ok : ∀ k, k < 31 → parseFieldDescriptor (TX8 k).2.2.1 = some (tyX8 k) := by decide +kernel
abbrev cX8_init : ByteArray := prog_10_method_1_code
def yX8_init : MethodName := ⟨RX8, "<init>", "()V"⟩
abbrev cX8_in : ByteArray := prog_10_method_2_code
def yX8_in : MethodName := ⟨RX8, "in", "(JJJ)Z"⟩
abbrev cX8_has : ByteArray := prog_10_method_3_code
def yX8_has : MethodName := ⟨RX8, "has", "(II)Z"⟩
abbrev cX8_empty : ByteArray := prog_10_method_4_code
def yX8_empty : MethodName := ⟨RX8, "empty", "()V"⟩
abbrev cX8_rulesAre : ByteArray := prog_10_method_5_code
def yX8_rulesAre : MethodName := ⟨RX8, "rulesAre", "(IIII)V"⟩
abbrev cX8_stationIs : ByteArray := prog_10_method_6_code
def yX8_stationIs : MethodName := ⟨RX8, "stationIs", "(II)V"⟩
abbrev cX8_valuesAre : ByteArray := prog_10_method_7_code
def yX8_valuesAre : MethodName := ⟨RX8, "valuesAre", "(IIIIII)V"⟩
abbrev cX8_write : ByteArray := prog_10_method_8_code
def yX8_write : MethodName := ⟨RX8, "write", "(I)I"⟩
abbrev cX8_wipe : ByteArray := prog_10_method_9_code
def yX8_wipe : MethodName := ⟨RX8, "wipe", "()I"⟩
abbrev cX8_letterAt : ByteArray := prog_10_method_10_code
def yX8_letterAt : MethodName := ⟨RX8, "letterAt", "(I)I"⟩
abbrev cX8_sign : ByteArray := prog_10_method_11_code
def yX8_sign : MethodName := ⟨RX8, "sign", "(II)I"⟩
abbrev cX8_ends : ByteArray := prog_10_method_12_code
def yX8_ends : MethodName := ⟨RX8, "ends", "()Z"⟩
abbrev cX8_yearsItem : ByteArray := prog_10_method_13_code
def yX8_yearsItem : MethodName := ⟨RX8, "yearsItem", "()Z"⟩
abbrev cX8_stationItem : ByteArray := prog_10_method_14_code
def yX8_stationItem : MethodName := ⟨RX8, "stationItem", "()Z"⟩
abbrev cX8_penaltyItem : ByteArray := prog_10_method_15_code
def yX8_penaltyItem : MethodName := ⟨RX8, "penaltyItem", "()Z"⟩
abbrev cX8_rulesItem : ByteArray := prog_10_method_16_code
def yX8_rulesItem : MethodName := ⟨RX8, "rulesItem", "()Z"⟩
abbrev cX8_item : ByteArray := prog_10_method_17_code
def yX8_item : MethodName := ⟨RX8, "item", "(I)Z"⟩
abbrev cX8_readAll : ByteArray := prog_10_method_18_code
def yX8_readAll : MethodName := ⟨RX8, "readAll", "()I"⟩
abbrev cX8_fault : ByteArray := prog_10_method_19_code
def yX8_fault : MethodName := ⟨RX8, "fault", "()I"⟩
abbrev cX8_lay : ByteArray := prog_10_method_20_code
def yX8_lay : MethodName := ⟨RX8, "lay", "()I"⟩
abbrev cX8_begin : ByteArray := prog_10_method_21_code
def yX8_begin : MethodName := ⟨RX8, "begin", "()V"⟩
abbrev cX8_isStation : ByteArray := prog_10_method_22_code
def yX8_isStation : MethodName := ⟨RX8, "isStation", "(I)Z"⟩
abbrev cX8_isYear : ByteArray := prog_10_method_23_code
def yX8_isYear : MethodName := ⟨RX8, "isYear", "(I)Z"⟩
abbrev cX8_areTwo : ByteArray := prog_10_method_24_code
def yX8_areTwo : MethodName := ⟨RX8, "areTwo", "(II)Z"⟩
abbrev cX8_valueOf : ByteArray := prog_10_method_25_code
def yX8_valueOf : MethodName := ⟨RX8, "valueOf", "(II)I"⟩
abbrev cX8_isThere : ByteArray := prog_10_method_26_code
def yX8_isThere : MethodName := ⟨RX8, "isThere", "(II)Z"⟩
abbrev cX8_told : ByteArray := prog_10_method_27_code
def yX8_told : MethodName := ⟨RX8, "told", "(I)I"⟩
abbrev cX8_note : ByteArray := prog_10_method_28_code
def yX8_note : MethodName := ⟨RX8, "note", "()V"⟩
abbrev cX8_change : ByteArray := prog_10_method_29_code
def yX8_change : MethodName := ⟨RX8, "change", "(II)I"⟩
abbrev cX8_value : ByteArray := prog_10_method_30_code
def yX8_value : MethodName := ⟨RX8, "value", "(II)I"⟩
abbrev cX8_set : ByteArray := prog_10_method_31_code
def yX8_set : MethodName := ⟨RX8, "set", "(III)I"⟩
abbrev cX8_lose : ByteArray := prog_10_method_32_code
def yX8_lose : MethodName := ⟨RX8, "lose", "(II)I"⟩
abbrev cX8_penalty : ByteArray := prog_10_method_33_code
def yX8_penalty : MethodName := ⟨RX8, "penalty", "(I)I"⟩
abbrev cX8_rule : ByteArray := prog_10_method_34_code
def yX8_rule : MethodName := ⟨RX8, "rule", "(II)I"⟩
abbrev cX8_undo : ByteArray := prog_10_method_35_code
def yX8_undo : MethodName := ⟨RX8, "undo", "()I"⟩
abbrev cX8_day : ByteArray := prog_10_method_36_code
def yX8_day : MethodName := ⟨RX8, "day", "(II)I"⟩
abbrev cX8_square : ByteArray := prog_10_method_37_code
def yX8_square : MethodName := ⟨RX8, "square", "(II)I"⟩
abbrev cX8_rankOf : ByteArray := prog_10_method_38_code
def yX8_rankOf : MethodName := ⟨RX8, "rankOf", "(II)I"⟩
abbrev cX8_nearest : ByteArray := prog_10_method_39_code
def yX8_nearest : MethodName := ⟨RX8, "nearest", "(II)I"⟩
abbrev cX8_isPair : ByteArray := prog_10_method_40_code
def yX8_isPair : MethodName := ⟨RX8, "isPair", "(II)Z"⟩
abbrev cX8_pair : ByteArray := prog_10_method_41_code
def yX8_pair : MethodName := ⟨RX8, "pair", "(II)I"⟩
abbrev cX8_rowOf : ByteArray := prog_10_method_42_code
def yX8_rowOf : MethodName := ⟨RX8, "rowOf", "(II)V"⟩
abbrev cX8_sumOf : ByteArray := prog_10_method_43_code
def yX8_sumOf : MethodName := ⟨RX8, "sumOf", "(II)J"⟩
abbrev cX8_spreadOf : ByteArray := prog_10_method_44_code
def yX8_spreadOf : MethodName := ⟨RX8, "spreadOf", "(II)J"⟩
abbrev cX8_learn : ByteArray := prog_10_method_45_code
def yX8_learn : MethodName := ⟨RX8, "learn", "(II)V"⟩
abbrev cX8_breaksBy : ByteArray := prog_10_method_46_code
def yX8_breaksBy : MethodName := ⟨RX8, "breaksBy", "(I)I"⟩
abbrev cX8_findBest : ByteArray := prog_10_method_47_code
def yX8_findBest : MethodName := ⟨RX8, "findBest", "(II)V"⟩
abbrev cX8_entry : ByteArray := prog_10_method_48_code
def yX8_entry : MethodName := ⟨RX8, "entry", "(III)I"⟩
abbrev cX8_year : ByteArray := prog_10_method_49_code
def yX8_year : MethodName := ⟨RX8, "year", "(III)I"⟩
abbrev cX8_spread : ByteArray := prog_10_method_50_code
def yX8_spread : MethodName := ⟨RX8, "spread", "(IIII)J"⟩
abbrev cX8_split : ByteArray := prog_10_method_51_code
def yX8_split : MethodName := ⟨RX8, "split", "(III)I"⟩
abbrev cX8_cost : ByteArray := prog_10_method_52_code
def yX8_cost : MethodName := ⟨RX8, "cost", "(II)J"⟩
abbrev cX8_spreads : ByteArray := prog_10_method_53_code
def yX8_spreads : MethodName := ⟨RX8, "spreads", "(III)J"⟩
abbrev cX8_breaks : ByteArray := prog_10_method_54_code
def yX8_breaks : MethodName := ⟨RX8, "breaks", "(III)I"⟩
abbrev cX8_least : ByteArray := prog_10_method_55_code
def yX8_least : MethodName := ⟨RX8, "least", "(III)I"⟩
abbrev cX8_findBreaks : ByteArray := prog_10_method_56_code
def yX8_findBreaks : MethodName := ⟨RX8, "findBreaks", "()V"⟩
abbrev cX8_withWhom : ByteArray := prog_10_method_57_code
def yX8_withWhom : MethodName := ⟨RX8, "withWhom", "([III)I"⟩
abbrev cX8_ones : ByteArray := prog_10_method_58_code
def yX8_ones : MethodName := ⟨RX8, "ones", "(I)I"⟩
abbrev cX8_finds : ByteArray := prog_10_method_59_code
def yX8_finds : MethodName := ⟨RX8, "finds", "(II)V"⟩
abbrev cX8_know : ByteArray := prog_10_method_60_code
def yX8_know : MethodName := ⟨RX8, "know", "()V"⟩
abbrev cX8_votes : ByteArray := prog_10_method_61_code
def yX8_votes : MethodName := ⟨RX8, "votes", "(II)I"⟩
abbrev cX8_nearestOf : ByteArray := prog_10_method_62_code
def yX8_nearestOf : MethodName := ⟨RX8, "nearestOf", "(JJ)J"⟩
abbrev cX8_rises : ByteArray := prog_10_method_63_code
def yX8_rises : MethodName := ⟨RX8, "rises", "(III)J"⟩
abbrev cX8_sizeOf : ByteArray := prog_10_method_64_code
def yX8_sizeOf : MethodName := ⟨RX8, "sizeOf", "(I)I"⟩
abbrev cX8_culprit : ByteArray := prog_10_method_65_code
def yX8_culprit : MethodName := ⟨RX8, "culprit", "(II)I"⟩
abbrev cX8_mend : ByteArray := prog_10_method_66_code
def yX8_mend : MethodName := ⟨RX8, "mend", "(I)I"⟩
abbrev cX8_mends : ByteArray := prog_10_method_67_code
def yX8_mends : MethodName := ⟨RX8, "mends", "()I"⟩
abbrev cX8_ledger : ByteArray := prog_10_method_68_code
def yX8_ledger : MethodName := ⟨RX8, "ledger", "(II)I"⟩
abbrev cX8_canMake : ByteArray := prog_10_method_69_code
def yX8_canMake : MethodName := ⟨RX8, "canMake", "(II)Z"⟩
abbrev cX8_made : ByteArray := prog_10_method_70_code
def yX8_made : MethodName := ⟨RX8, "made", "(II)I"⟩
abbrev cX8_make : ByteArray := prog_10_method_71_code
def yX8_make : MethodName := ⟨RX8, "make", "(II)I"⟩
abbrev cX8_rise : ByteArray := prog_10_method_72_code
def yX8_rise : MethodName := ⟨RX8, "rise", "(I)I"⟩
abbrev cX8_pairs : ByteArray := prog_10_method_73_code
def yX8_pairs : MethodName := ⟨RX8, "pairs", "()I"⟩
abbrev cX8_missing : ByteArray := prog_10_method_74_code
def yX8_missing : MethodName := ⟨RX8, "missing", "()I"⟩
abbrev cX8_count : ByteArray := prog_10_method_75_code
def yX8_count : MethodName := ⟨RX8, "count", "(I)I"⟩
def RJ9 : String := "java/lang/Math"
def TJ9 : u_T := fun k => match k with
  | _ => ("", "", "", false)
def tyJ9 : Nat → FieldType := fun k => match k with
  | _ => .int
abbrev cJ9_floorDiv_f86c9 : ByteArray := prog_11_method_49_code
def yJ9_floorDiv_f86c9 : MethodName := ⟨RJ9, "floorDiv", "(JJ)J"⟩
abbrev cJ9_max_7cf53 : ByteArray := prog_11_method_65_code
def yJ9_max_7cf53 : MethodName := ⟨RJ9, "max", "(II)I"⟩
abbrev cJ9_min_7cf53 : ByteArray := prog_11_method_69_code
def yJ9_min_7cf53 : MethodName := ⟨RJ9, "min", "(II)I"⟩
abbrev cJ9_min_f86c9 : ByteArray := prog_11_method_70_code
def yJ9_min_f86c9 : MethodName := ⟨RJ9, "min", "(JJ)J"⟩
def RJ0 : String := "java/lang/String"
def TJ0 : u_T := fun k => match k with
  | _ => ("", "", "", false)
def tyJ0 : Nat → FieldType := fun k => match k with
  | _ => .int
abbrev cJ0_length_8abf5 : ByteArray := prog_12_method_54_code
def yJ0_length_8abf5 : MethodName := ⟨RJ0, "length", "()I"⟩
abbrev cJ0_charAt_5068e : ByteArray := prog_12_method_56_code
def yJ0_charAt_5068e : MethodName := ⟨RJ0, "charAt", "(I)C"⟩
abbrev cJ0_coder_7d493 : ByteArray := prog_12_method_152_code
def yJ0_coder_7d493 : MethodName := ⟨RJ0, "coder", "()B"⟩
abbrev cJ0_isLatin1_aae02 : ByteArray := prog_12_method_154_code
def yJ0_isLatin1_aae02 : MethodName := ⟨RJ0, "isLatin1", "()Z"⟩
abbrev cJ0_checkIndex_df160 : ByteArray := prog_12_method_155_code
def yJ0_checkIndex_df160 : MethodName := ⟨RJ0, "checkIndex", "(II)V"⟩
def RJ1 : String := "java/lang/StringLatin1"
def TJ1 : u_T := fun k => match k with
  | _ => ("", "", "", false)
def tyJ1 : Nat → FieldType := fun k => match k with
  | _ => .int
abbrev cJ1_charAt_3b067 : ByteArray := prog_13_method_2_code
def yJ1_charAt_3b067 : MethodName := ⟨RJ1, "charAt", "([BI)C"⟩
def RJ2 : String := "java/lang/StringUTF16"
def TJ2 : u_T := fun k => match k with
  | _ => ("", "", "", false)
def tyJ2 : Nat → FieldType := fun k => match k with
  | _ => .int
abbrev cJ2_getChar_3b067 : ByteArray := prog_14_method_5_code
def yJ2_getChar_3b067 : MethodName := ⟨RJ2, "getChar", "([BI)C"⟩
abbrev cJ2_length_9d52b : ByteArray := prog_14_method_6_code
def yJ2_length_9d52b : MethodName := ⟨RJ2, "length", "([B)I"⟩
abbrev cJ2_charAt_3b067 : ByteArray := prog_14_method_83_code
def yJ2_charAt_3b067 : MethodName := ⟨RJ2, "charAt", "([BI)C"⟩
abbrev cJ2_checkIndex_2214a : ByteArray := prog_14_method_91_code
def yJ2_checkIndex_2214a : MethodName := ⟨RJ2, "checkIndex", "(I[B)V"⟩
def RJ3 : String := "jdk/internal/util/Preconditions"
def TJ3 : u_T := fun k => match k with
  | _ => ("", "", "", false)
def tyJ3 : Nat → FieldType := fun k => match k with
  | _ => .int
abbrev cJ3_checkIndex_8e157 : ByteArray := prog_15_method_11_code
def yJ3_checkIndex_8e157 : MethodName := ⟨RJ3, "checkIndex", "(IILjava/util/function/BiFunction;)I"⟩
def RL : String := "ShiftMenderLaw"
abbrev cL_law : ByteArray := code
def yL_law : MethodName := ⟨RL, "law", "([I)Z"⟩
abbrev vwCl : List vw_C := [(RX0, TX0, 11), (RX1, TX1, 3), (RX2, TX2, 2), (RX3, TX3, 8), (RX4, TX4, 3), (RX5, TX5, 6), (RX6, TX6, 5), (RX7, TX7, 7), (RX8, TX8, 31)]
