
-- ===== the model: the table of least sums =====
abbrev FAR : Int64 := 1152921504606846976
def encF (x : Option Int) : Int64 := match x with
  | none => FAR
  | some s => Int64.ofInt s
def okF (x : Option Int) : Prop := ∀ s, x = some s → -(9007199254740992 * 16) ≤ s ∧ s ≤ 9007199254740992 * 16
theorem FAR_i : FAR.toInt = 1152921504606846976 := rfl
theorem encF_ge {x : Option Int} (h : okF x) : FAR ≤ encF x ↔ x = none := by
  cases x with
  | none => exact ⟨fun _ => rfl, fun _ => Int64.le_refl _⟩
  | some s =>
    have := h s rfl
    refine ⟨fun z => ?_, fun z => by cases z⟩
    rw [Int64.le_iff_toInt_le, FAR_i] at z
    unfold encF at z
    rw [j_ofI (by omega) (by omega)] at z; omega
theorem encF_lt {x : Option Int} (h : okF x) {s : Int} (hs : -(9007199254740992 * 17) ≤ s ∧ s ≤ 9007199254740992 * 17) : Int64.ofInt s < encF x ↔ ∀ m, x = some m → s < m := by
  rw [Int64.lt_iff_toInt_lt, j_ofI (by omega) (by omega)]
  cases x with
  | none => exact ⟨fun _ m z => (by cases z), fun _ => by show s < FAR.toInt; rw [FAR_i]; omega⟩
  | some m =>
    have := h m rfl
    show s < (Int64.ofInt m).toInt ↔ _
    rw [j_ofI (by omega) (by omega)]
    exact ⟨fun z k e => by cases e; exact z, fun z => z m rfl⟩
theorem encF_omin {x : Option Int} (h : okF x) {s : Int} (hs : -(9007199254740992 * 17) ≤ s ∧ s ≤ 9007199254740992 * 17) : (if Int64.ofInt s < encF x then Int64.ofInt s else encF x) = encF (omin x (some s)) := by
  by_cases hl : Int64.ofInt s < encF x
  · rw [if_pos hl]
    rw [encF_lt h hs] at hl
    cases x with
    | none => rfl
    | some m => show _ = encF (if s < m then some s else some m); rw [if_pos (hl m rfl)]; rfl
  · rw [if_neg hl]
    rw [encF_lt h hs] at hl
    cases x with
    | none => exact absurd (fun m z => by cases z) hl
    | some m => show _ = encF (if s < m then some s else some m); rw [if_neg (fun z => hl (fun k e => by cases e; exact z))]
theorem omin_none (x : Option Int) : omin x none = x := by cases x <;> rfl
/-- the table, so far: rows before k, row k before i, then cur, then nothing -/
def lrA (n R : Nat) (f : Nat → Nat → Int) (k i : Nat) (cur : Int64) (a b : Nat) : Int64 := if a < k ∨ (a = k ∧ b < i) then encF (rst n R f a b) else if a = k ∧ b = i then cur else FAR
def LA (M : qMem) (A : Nat → Nat → Int64) : Prop := ∀ a b, a < 16 → b < 17 → M.2 12 (17 * a + b) = A a b
theorem LA.cong {M : qMem} {A B : Nat → Nat → Int64} (h : LA M A) (e : ∀ a b, a < 16 → b < 17 → A a b = B a b) : LA M B := fun a b ha hb => by rw [h a b ha hb, e a b ha hb]
theorem LA_cell {M : qMem} {n R : Nat} {f : Nat → Nat → Int} {k i : Nat} {c x : Int64} (h : LA M (lrA n R f k i c)) (hi : i < 17) : LA (qLs M 12 (17 * k + i) x) (lrA n R f k i x) := fun a b ha hb => by
  rw [qLs_2]
  by_cases e : a = k ∧ b = i
  · rw [if_pos ⟨rfl, by rw [e.1, e.2]⟩]
    unfold lrA; rw [if_neg (by omega), if_pos e]
  · rw [if_neg (fun z => e (by omega)), h a b ha hb]
    unfold lrA; rw [if_neg e, if_neg e]
theorem lrA_next {n R : Nat} {f : Nat → Nat → Int} {k i a b : Nat} : lrA n R f k i (encF (rst n R f k i)) a b = lrA n R f k (i + 1) FAR a b := by
  unfold lrA
  by_cases h1 : a < k ∨ (a = k ∧ b < i)
  · rw [if_pos h1, if_pos (by omega)]
  · rw [if_neg h1]
    by_cases h2 : a = k ∧ b = i
    · rw [if_pos h2, if_pos (by omega), h2.1, h2.2]
    · rw [if_neg h2, if_neg (by omega)]; split <;> rfl
theorem rst_out {n R : Nat} {f : Nat → Nat → Int} (hR : 1 ≤ R) {k i : Nat} (h0 : 0 < k ∨ 0 < i) (h : n ≤ i + k) : rst n R f k i = none := by
  cases e : rst n R f k i with
  | none => rfl
  | some r =>
    have := rst_room n R f hR e h0
    have h2 : k + 1 ≤ (k + 1) * R := Nat.le_mul_of_pos_right _ (by omega)
    omega
theorem lrA_row {n R : Nat} {f : Nat → Nat → Int} (hR : 1 ≤ R) (hn : 1 ≤ n) {k a b : Nat} : lrA n R f k n FAR a b = lrA n R f (k + 1) 0 FAR a b := by
  unfold lrA
  by_cases h1 : a < k ∨ (a = k ∧ b < n)
  · rw [if_pos h1, if_pos (by omega)]
  · rw [if_neg h1]
    have e : (if a = k ∧ b = n then FAR else FAR) = FAR := by split <;> rfl
    rw [e]
    by_cases h2 : a = k
    · rw [if_pos (by omega), rst_out hR (by omega) (by omega)]; rfl
    · rw [if_neg (by omega)]; split <;> rfl
theorem lrA_all {n R : Nat} {f : Nat → Nat → Int} (hR : 1 ≤ R) (hn : 1 ≤ n) {k a b : Nat} (hk : n ≤ k) : lrA n R f k 0 FAR a b = encF (rst n R f a b) := by
  unfold lrA
  by_cases h1 : a < k ∨ (a = k ∧ b < 0)
  · rw [if_pos h1]
  · rw [if_neg h1, rst_out hR (by omega) (by omega)]; split <;> rfl
theorem rst_ok {l : List (Nat × Int32)} (hb : serB l) (hl : l.length ≤ 16) {R k i : Nat} (hk : k < 16) : okF (rst l.length R (fz l) k i) := fun s h => by
  have := rst_b (fz_b hb hl) h
  constructor <;> omega
theorem fz_I (l : List (Nat × Int32)) (i j : Nat) : Int64.ofInt (fz l i j) = spd l i j := Int64.ofInt_toInt _
def gR (l : List (Nat × Int32)) (R k i : Nat) : Nat → Option Int := fun j => (rst l.length R (fz l) k j).map (fun r => fz l i j + r)
theorem minO_ok {l : List (Nat × Int32)} (hb : serB l) (hl : l.length ≤ 16) {R k i lo : Nat} (hk : k + 1 < 16) : ∀ c, lo + c ≤ l.length → okF (minO (gR l R k i) lo c) := fun c hc s h => by
  have sp := minO_spec (gR l R k i) lo c
  rw [h] at sp
  obtain ⟨⟨j, h1, h2, h3⟩, -⟩ := sp
  unfold gR at h3
  cases e : rst l.length R (fz l) k j with
  | none => rw [e] at h3; cases h3
  | some r =>
    rw [e] at h3; cases h3
    have q1 := rst_b (fz_b hb hl) e
    have q2 := fz_b hb hl i j (by omega)
    show -(9007199254740992 * 16) ≤ fz l i j + r ∧ fz l i j + r ≤ 9007199254740992 * 16
    constructor <;> omega
def LR (M : qMem) (l : List (Nat × Int32)) (R : Nat) : Prop := LA M (fun a b => encF (rst l.length R (fz l) a b))
set_option maxRecDepth 100000 in
set_option maxHeartbeats 4000000 in
theorem m_lrJ {w : qWT} {M : qMem} {l : List (Nat × Int32)} {R : Nat} (hb : serB l) (hl16 : l.length ≤ 16) (hR : 1 ≤ R) (hR4 : R ≤ 4) {u v_ k i : Nat} (hk1 : k + 1 < l.length) (hi : i < l.length) (hk : ∀ K : qMem, MS K l → cOff sSc M K → LA K (lrA l.length R (fz l) (k + 1) i (encF (rst l.length R (fz l) (k + 1) i))) → qRW 1 w mX8_learn 260 [(0, .ref 0), (1, .int (nI u)), (2, .int (nI v_)), (3, .int (nI R)), (4, .int (nI (k + 1))), (5, .int (nI i))] [] K (fun v N => v = none ∧ MS N l ∧ LR N l R ∧ cOff sSc M N)) : ∀ (fu : Nat) (j : Nat) (K : qMem), (200 - j) < fu → (i + R ≤ j) → (j ≤ l.length ∨ j = i + R) → (MS K l) → (cOff sSc M K) → (LA K (lrA l.length R (fz l) (k + 1) i (encF (minO (gR l R k i) (i + R) (j - (i + R)))))) → qRW 1 w mX8_learn 145 [(0, .ref 0), (1, .int (nI u)), (2, .int (nI v_)), (3, .int (nI R)), (4, .int (nI (k + 1))), (5, .int (nI i)), (6, .int (nI j))] [] K (fun v N => v = none ∧ MS N l ∧ LR N l R ∧ cOff sSc M N) := by
  intro fu
  induction fu with
  | zero => intro j K hn; exact absurd hn (Nat.not_lt_zero _)
  | succ fu ih =>
    intro j K hn hj hj2 hS hO hA
    have hok := rst_ok hb hl16 (R := R) (k := k) (i := j) (by omega)
    refine R_iload dX8_learn_145 rfl ?_
    refine R_aload_n dX8_learn_147 rfl ?_
    refine R_getI dX8_learn_148 (lf_RX8_216).get (by decide) rfl rfl ?_
    refine R_top (y := nI l.length) hS.1 ?_
    refine R_icmp_geN (tgt := 260) dX8_learn_151 (by decide) (by omega) (by omega) (fun h_151 => ?_) (fun h_151 => ?_)
    · refine R_ls (L' := [(0, .ref 0), (1, .int (nI u)), (2, .int (nI v_)), (3, .int (nI R)), (4, .int (nI (k + 1))), (5, .int (nI i))]) (qs1 rfl (qs1 rfl (qs1 rfl (qs1 rfl (qs1 rfl (qs1 rfl qs0)))))) ?_
      exact hk K hS hO (by have e : rst l.length R (fz l) (k + 1) i = minO (gR l R k i) (i + R) (j - (i + R)) := (by show minO (gR l R k i) (i + R) (l.length - (i + R)) = _; congr 1; omega); rw [e]; exact hA)
    · refine R_aload_n dX8_learn_154 rfl ?_
      refine R_getR dX8_learn_155 lg_RX8_44 (by decide) rfl rfl ?_
      refine R_bipush (v := nI 17) dX8_learn_158 rfl ?_
      refine R_iload dX8_learn_160 rfl ?_
      refine R_iconst (v := nI 1) dX8_learn_162 rfl ?_
      refine R_isubN dX8_learn_163 (by omega) ?_
      refine R_top (y := nI k) rfl ?_
      refine R_imulN dX8_learn_164 ?_
      refine R_iload dX8_learn_165 rfl ?_
      refine R_iaddN dX8_learn_167 ?_
      refine R_laldN dX8_learn_168 (by decide) rfl (by omega) (by decide) ?_
      refine R_topL (y := encF (rst l.length R (fz l) k j)) ((hA k j (by omega) (by omega)).trans (by unfold lrA; rw [if_pos (by omega)])) ?_
      refine R_ldc2 dX8_learn_169 lc_RX8_229 ?_
      refine R_lc_ge (tgt := 254) dX8_learn_172 dX8_learn_173 (by decide) (fun h_172 => ?_) (fun h_172 => ?_)
      · have hnone := (encF_ge hok).mp h_172
        refine R_iincN (n := 1) (L' := [(0, .ref 0), (1, .int (nI u)), (2, .int (nI v_)), (3, .int (nI R)), (4, .int (nI (k + 1))), (5, .int (nI i)), (6, .int (nI (j + 1)))]) dX8_learn_254 rfl (by decide) (qs1 rfl (qs1 rfl (qs1 rfl (qs1 rfl (qs1 rfl (qs1 rfl (qs1 rfl qs0))))))) ?_
        refine R_goto (tgt := 145) dX8_learn_257 (by decide) ?_
        refine R_ls (L' := [(0, .ref 0), (1, .int (nI u)), (2, .int (nI v_)), (3, .int (nI R)), (4, .int (nI (k + 1))), (5, .int (nI i)), (6, .int (nI (j + 1)))]) (qs1 rfl (qs1 rfl (qs1 rfl (qs1 rfl (qs1 rfl (qs1 rfl (qs1 rfl qs0))))))) ?_
        exact (by have e1 : j + 1 - (i + R) = j - (i + R) + 1 := (by omega); have e2 : i + R + (j - (i + R)) = j := (by omega); exact ih (j + 1) _ (by omega) (by omega) (by omega) hS hO (by rw [e1]; show LA _ (lrA _ _ _ _ _ (encF (omin (minO (gR l R k i) (i + R) (j - (i + R))) (gR l R k i (i + R + (j - (i + R))))))); rw [e2]; rw [show gR l R k i j = none by unfold gR; rw [hnone]; rfl, omin_none]; exact hA))
      · obtain ⟨r, hr⟩ : ∃ r, rst l.length R (fz l) k j = some r := by
          cases e : rst l.length R (fz l) k j with
          | none => exact absurd ((encF_ge hok).mpr e) h_172
          | some r => exact ⟨r, rfl⟩
        have hrb := hok r hr
        have hfb := fz_b hb hl16 i j (by omega)
        have hmo := minO_ok hb hl16 (R := R) (k := k) (i := i) (lo := i + R) (by omega) (j - (i + R)) (by omega)
        refine R_aload_n dX8_learn_176 rfl ?_
        refine R_iload dX8_learn_177 rfl ?_
        refine R_iload dX8_learn_179 rfl ?_
        refine R_iconst (v := nI 1) dX8_learn_181 rfl ?_
        refine R_isubN dX8_learn_182 (by omega) ?_
        refine R_callV (mc := mX8_spreadOf) (As := [_, _]) (r := 0) dX8_learn_183 lm_RX8_231 mv_X8_spreadOf rfl (by decide) rfl rfl rfl rfl (Nat.le_of_ble_eq_true rfl) (m_spr hS (i := i) (j := j - 1) (by omega) (by omega)) ?_
        rintro _ _ ⟨rfl, rfl⟩
        refine R_topL (y := Int64.ofInt (fz l i j)) (by rw [fz_I, show j - 1 + 1 = j by omega]) ?_
        refine R_aload_n dX8_learn_186 rfl ?_
        refine R_getR dX8_learn_187 lg_RX8_44 (by decide) rfl rfl ?_
        refine R_bipush (v := nI 17) dX8_learn_190 rfl ?_
        refine R_iload dX8_learn_192 rfl ?_
        refine R_iconst (v := nI 1) dX8_learn_194 rfl ?_
        refine R_isubN dX8_learn_195 (by omega) ?_
        refine R_top (y := nI k) rfl ?_
        refine R_imulN dX8_learn_196 ?_
        refine R_iload dX8_learn_197 rfl ?_
        refine R_iaddN dX8_learn_199 ?_
        refine R_laldN dX8_learn_200 (by decide) rfl (by omega) (by decide) ?_
        refine R_topL (y := Int64.ofInt r) ((hA k j (by omega) (by omega)).trans (by unfold lrA; rw [if_pos (by omega), hr]; rfl)) ?_
        refine R_ladd dX8_learn_201 ?_
        refine R_topL (y := Int64.ofInt (fz l i j + r)) (Int64.ofInt_add _ _).symm ?_
        refine R_lstore (L' := [(0, .ref 0), (1, .int (nI u)), (2, .int (nI v_)), (3, .int (nI R)), (4, .int (nI (k + 1))), (5, .int (nI i)), (6, .int (nI j)), (7, .long (Int64.ofInt (fz l i j + r)))]) dX8_learn_202 (by decide) (qs1 rfl (qs1 rfl (qs1 rfl (qs1 rfl (qs1 rfl (qs1 rfl (qs1 rfl (qs1 rfl qs0)))))))) ?_
        refine R_aload_n dX8_learn_204 rfl ?_
        refine R_getR dX8_learn_205 lg_RX8_44 (by decide) rfl rfl ?_
        refine R_bipush (v := nI 17) dX8_learn_208 rfl ?_
        refine R_iload dX8_learn_210 rfl ?_
        refine R_imulN dX8_learn_212 ?_
        refine R_iload dX8_learn_213 rfl ?_
        refine R_iaddN dX8_learn_215 ?_
        refine R_lload dX8_learn_216 rfl ?_
        refine R_aload_n dX8_learn_218 rfl ?_
        refine R_getR dX8_learn_219 lg_RX8_44 (by decide) rfl rfl ?_
        refine R_bipush (v := nI 17) dX8_learn_222 rfl ?_
        refine R_iload dX8_learn_224 rfl ?_
        refine R_imulN dX8_learn_226 ?_
        refine R_iload dX8_learn_227 rfl ?_
        refine R_iaddN dX8_learn_229 ?_
        refine R_laldN dX8_learn_230 (by decide) rfl (by omega) (by decide) ?_
        refine R_topL (y := encF (minO (gR l R k i) (i + R) (j - (i + R)))) ((hA (k + 1) i (by omega) (by omega)).trans (by unfold lrA; rw [if_neg (by omega), if_pos ⟨rfl, rfl⟩])) ?_
        refine R_lc_ge (tgt := 240) dX8_learn_231 dX8_learn_232 (by decide) (fun h_231 => ?_) (fun h_231 => ?_)
        · refine R_aload_n dX8_learn_240 rfl ?_
          refine R_getR dX8_learn_241 lg_RX8_44 (by decide) rfl rfl ?_
          refine R_bipush (v := nI 17) dX8_learn_244 rfl ?_
          refine R_iload dX8_learn_246 rfl ?_
          refine R_imulN dX8_learn_248 ?_
          refine R_iload dX8_learn_249 rfl ?_
          refine R_iaddN dX8_learn_251 ?_
          refine R_laldN dX8_learn_252 (by decide) rfl (by omega) (by decide) ?_
          refine R_topL (y := encF (minO (gR l R k i) (i + R) (j - (i + R)))) ((hA (k + 1) i (by omega) (by omega)).trans (by unfold lrA; rw [if_neg (by omega), if_pos ⟨rfl, rfl⟩])) ?_
          refine R_lastN dX8_learn_253 (by decide) rfl (by omega) (by decide) ?_
          refine R_iincN (n := 1) (L' := [(0, .ref 0), (1, .int (nI u)), (2, .int (nI v_)), (3, .int (nI R)), (4, .int (nI (k + 1))), (5, .int (nI i)), (6, .int (nI (j + 1))), (7, .long (Int64.ofInt (fz l i j + r)))]) dX8_learn_254 rfl (by decide) (qs1 rfl (qs1 rfl (qs1 rfl (qs1 rfl (qs1 rfl (qs1 rfl (qs1 rfl (qs1 rfl qs0)))))))) ?_
          refine R_goto (tgt := 145) dX8_learn_257 (by decide) ?_
          refine R_ls (L' := [(0, .ref 0), (1, .int (nI u)), (2, .int (nI v_)), (3, .int (nI R)), (4, .int (nI (k + 1))), (5, .int (nI i)), (6, .int (nI (j + 1)))]) (qs1 rfl (qs1 rfl (qs1 rfl (qs1 rfl (qs1 rfl (qs1 rfl (qs1 rfl qs0))))))) ?_
          exact (by have e1 : j + 1 - (i + R) = j - (i + R) + 1 := (by omega); have e2 : i + R + (j - (i + R)) = j := (by omega); exact ih (j + 1) _ (by omega) (by omega) (by omega) (hS.off rfl (by funext z; rw [qLs_2, if_neg (by omega)]) rfl) (hO.ls (by unfold sSc; omega)) (by rw [e1]; show LA _ (lrA _ _ _ _ _ (encF (omin (minO (gR l R k i) (i + R) (j - (i + R))) (gR l R k i (i + R + (j - (i + R))))))); rw [e2]; rw [show gR l R k i j = some (fz l i j + r) by unfold gR; rw [hr]; rfl, ← encF_omin hmo (by omega), if_neg (Int64.not_lt.mpr h_231)]; exact LA_cell hA (by omega)))
        · refine R_lload dX8_learn_235 rfl ?_
          refine R_goto (tgt := 253) dX8_learn_237 (by decide) ?_
          refine R_lastN dX8_learn_253 (by decide) rfl (by omega) (by decide) ?_
          refine R_iincN (n := 1) (L' := [(0, .ref 0), (1, .int (nI u)), (2, .int (nI v_)), (3, .int (nI R)), (4, .int (nI (k + 1))), (5, .int (nI i)), (6, .int (nI (j + 1))), (7, .long (Int64.ofInt (fz l i j + r)))]) dX8_learn_254 rfl (by decide) (qs1 rfl (qs1 rfl (qs1 rfl (qs1 rfl (qs1 rfl (qs1 rfl (qs1 rfl (qs1 rfl qs0)))))))) ?_
          refine R_goto (tgt := 145) dX8_learn_257 (by decide) ?_
          refine R_ls (L' := [(0, .ref 0), (1, .int (nI u)), (2, .int (nI v_)), (3, .int (nI R)), (4, .int (nI (k + 1))), (5, .int (nI i)), (6, .int (nI (j + 1)))]) (qs1 rfl (qs1 rfl (qs1 rfl (qs1 rfl (qs1 rfl (qs1 rfl (qs1 rfl qs0))))))) ?_
          exact (by have e1 : j + 1 - (i + R) = j - (i + R) + 1 := (by omega); have e2 : i + R + (j - (i + R)) = j := (by omega); exact ih (j + 1) _ (by omega) (by omega) (by omega) (hS.off rfl (by funext z; rw [qLs_2, if_neg (by omega)]) rfl) (hO.ls (by unfold sSc; omega)) (by rw [e1]; show LA _ (lrA _ _ _ _ _ (encF (omin (minO (gR l R k i) (i + R) (j - (i + R))) (gR l R k i (i + R + (j - (i + R))))))); rw [e2]; rw [show gR l R k i j = some (fz l i j + r) by unfold gR; rw [hr]; rfl, ← encF_omin hmo (by omega), if_pos (Int64.not_le.mp h_231)]; exact LA_cell hA (by omega)))
set_option maxRecDepth 100000 in
set_option maxHeartbeats 4000000 in
theorem m_lrI {w : qWT} {M : qMem} {l : List (Nat × Int32)} {R : Nat} (hb : serB l) (hl16 : l.length ≤ 16) (hR : 1 ≤ R) (hR4 : R ≤ 4) {u v_ k : Nat} (hk1 : k + 1 < l.length) (hk : ∀ K : qMem, MS K l → cOff sSc M K → LA K (lrA l.length R (fz l) (k + 2) 0 FAR) → qRW 1 w mX8_learn 266 [(0, .ref 0), (1, .int (nI u)), (2, .int (nI v_)), (3, .int (nI R)), (4, .int (nI (k + 1)))] [] K (fun v N => v = none ∧ MS N l ∧ LR N l R ∧ cOff sSc M N)) : ∀ (fu : Nat) (i : Nat) (K : qMem), (l.length + 1 - i) < fu → (i ≤ l.length) → (MS K l) → (cOff sSc M K) → (LA K (lrA l.length R (fz l) (k + 1) i FAR)) → qRW 1 w mX8_learn 130 [(0, .ref 0), (1, .int (nI u)), (2, .int (nI v_)), (3, .int (nI R)), (4, .int (nI (k + 1))), (5, .int (nI i))] [] K (fun v N => v = none ∧ MS N l ∧ LR N l R ∧ cOff sSc M N) := by
  intro fu
  induction fu with
  | zero => intro i K hn; exact absurd hn (Nat.not_lt_zero _)
  | succ fu ih =>
    intro i K hn hi hS hO hA
    refine R_iload dX8_learn_130 rfl ?_
    refine R_aload_n dX8_learn_132 rfl ?_
    refine R_getI dX8_learn_133 (lf_RX8_216).get (by decide) rfl rfl ?_
    refine R_top (y := nI l.length) hS.1 ?_
    refine R_icmp_geN (tgt := 266) dX8_learn_136 (by decide) (by omega) (by omega) (fun h_136 => ?_) (fun h_136 => ?_)
    · refine R_ls (L' := [(0, .ref 0), (1, .int (nI u)), (2, .int (nI v_)), (3, .int (nI R)), (4, .int (nI (k + 1)))]) (qs1 rfl (qs1 rfl (qs1 rfl (qs1 rfl (qs1 rfl qs0))))) ?_
      have e : i = l.length := by omega
      subst e
      exact hk K hS hO (hA.cong (fun a b _ _ => lrA_row hR (by omega)))
    · refine R_iload dX8_learn_139 rfl ?_
      refine R_iload_n dX8_learn_141 rfl ?_
      refine R_iaddN dX8_learn_142 ?_
      refine R_istore (L' := [(0, .ref 0), (1, .int (nI u)), (2, .int (nI v_)), (3, .int (nI R)), (4, .int (nI (k + 1))), (5, .int (nI i)), (6, .int (nI (i + R)))]) dX8_learn_143 (by decide) (qs1 rfl (qs1 rfl (qs1 rfl (qs1 rfl (qs1 rfl (qs1 rfl (qs1 rfl qs0))))))) ?_
      refine R_ls (L' := [(0, .ref 0), (1, .int (nI u)), (2, .int (nI v_)), (3, .int (nI R)), (4, .int (nI (k + 1))), (5, .int (nI i)), (6, .int (nI (i + R)))]) (qs1 rfl (qs1 rfl (qs1 rfl (qs1 rfl (qs1 rfl (qs1 rfl (qs1 rfl qs0))))))) ?_
      exact (m_lrJ (w := w) hb hl16 hR hR4 hk1 (i := i) (by omega) (fun K hS hO hA => by refine R_iincN (n := 1) (L' := [(0, .ref 0), (1, .int (nI u)), (2, .int (nI v_)), (3, .int (nI R)), (4, .int (nI (k + 1))), (5, .int (nI (i + 1)))]) dX8_learn_260 rfl (by decide) (qs1 rfl (qs1 rfl (qs1 rfl (qs1 rfl (qs1 rfl (qs1 rfl qs0)))))) ?_; refine R_goto (tgt := 130) dX8_learn_263 (by decide) ?_; exact ih (i + 1) K (by omega) (by omega) hS hO (hA.cong (fun a b _ _ => lrA_next))) 201 (i + R) K (by omega) (Nat.le_refl _) (Or.inr rfl) hS hO (by rw [Nat.sub_self]; exact hA))
set_option maxRecDepth 100000 in
set_option maxHeartbeats 4000000 in
theorem m_lrK {w : qWT} {M : qMem} {l : List (Nat × Int32)} {R : Nat} (hb : serB l) (hl16 : l.length ≤ 16) (hR : 1 ≤ R) (hR4 : R ≤ 4) {u v_ : Nat} (hn1 : 1 ≤ l.length) : ∀ (fu : Nat) (k : Nat) (K : qMem), (l.length + 1 - k) < fu → (k + 1 ≤ l.length) → (MS K l) → (cOff sSc M K) → (LA K (lrA l.length R (fz l) (k + 1) 0 FAR)) → qRW 1 w mX8_learn 118 [(0, .ref 0), (1, .int (nI u)), (2, .int (nI v_)), (3, .int (nI R)), (4, .int (nI (k + 1)))] [] K (fun v N => v = none ∧ MS N l ∧ LR N l R ∧ cOff sSc M N) := by
  intro fu
  induction fu with
  | zero => intro k K hn; exact absurd hn (Nat.not_lt_zero _)
  | succ fu ih =>
    intro k K hn hk hS hO hA
    refine R_iload dX8_learn_118 rfl ?_
    refine R_aload_n dX8_learn_120 rfl ?_
    refine R_getI dX8_learn_121 (lf_RX8_216).get (by decide) rfl rfl ?_
    refine R_top (y := nI l.length) hS.1 ?_
    refine R_icmp_geN (tgt := 272) dX8_learn_124 (by decide) (by omega) (by omega) (fun h_124 => ?_) (fun h_124 => ?_)
    · refine R_return dX8_learn_272 rfl ?_
      exact ⟨rfl, hS, hA.cong (fun a b _ _ => lrA_all hR hn1 (by omega)), hO⟩
    · refine R_iconst (v := nI 0) dX8_learn_127 rfl ?_
      refine R_istore (L' := [(0, .ref 0), (1, .int (nI u)), (2, .int (nI v_)), (3, .int (nI R)), (4, .int (nI (k + 1))), (5, .int (nI 0))]) dX8_learn_128 (by decide) (qs1 rfl (qs1 rfl (qs1 rfl (qs1 rfl (qs1 rfl (qs1 rfl qs0)))))) ?_
      refine R_ls (L' := [(0, .ref 0), (1, .int (nI u)), (2, .int (nI v_)), (3, .int (nI R)), (4, .int (nI (k + 1))), (5, .int (nI 0))]) (qs1 rfl (qs1 rfl (qs1 rfl (qs1 rfl (qs1 rfl (qs1 rfl qs0)))))) ?_
      exact (m_lrI (w := w) hb hl16 hR hR4 (k := k) (by omega) (fun K hS hO hA => by refine R_iincN (n := 1) (L' := [(0, .ref 0), (1, .int (nI u)), (2, .int (nI v_)), (3, .int (nI R)), (4, .int (nI (k + 1 + 1)))]) dX8_learn_266 rfl (by decide) (qs1 rfl (qs1 rfl (qs1 rfl (qs1 rfl (qs1 rfl qs0))))) ?_; refine R_goto (tgt := 118) dX8_learn_269 (by decide) ?_; exact ih (k + 1) K (by omega) (by omega) hS hO hA) (l.length + 2) 0 K (by omega) (Nat.zero_le _) hS hO hA)
set_option maxRecDepth 100000 in
set_option maxHeartbeats 4000000 in
theorem m_lrB {w : qWT} {M : qMem} {l : List (Nat × Int32)} {R : Nat} (hb : serB l) (hl16 : l.length ≤ 16) (hR : 1 ≤ R) (hR4 : R ≤ 4) {u v_ : Nat} (hn1 : 1 ≤ l.length) : ∀ (fu : Nat) (i : Nat) (K : qMem), (l.length + 1 - i) < fu → (i ≤ l.length) → (MS K l) → (cOff sSc M K) → (LA K (lrA l.length R (fz l) 0 i FAR)) → qRW 1 w mX8_learn 59 [(0, .ref 0), (1, .int (nI u)), (2, .int (nI v_)), (3, .int (nI R)), (4, .int (nI i))] [] K (fun v N => v = none ∧ MS N l ∧ LR N l R ∧ cOff sSc M N) := by
  intro fu
  induction fu with
  | zero => intro i K hn; exact absurd hn (Nat.not_lt_zero _)
  | succ fu ih =>
    intro i K hn hi hS hO hA
    refine R_iload dX8_learn_59 rfl ?_
    refine R_aload_n dX8_learn_61 rfl ?_
    refine R_getI dX8_learn_62 (lf_RX8_216).get (by decide) rfl rfl ?_
    refine R_top (y := nI l.length) hS.1 ?_
    refine R_icmp_geN (tgt := 115) dX8_learn_65 (by decide) (by omega) (by omega) (fun h_65 => ?_) (fun h_65 => ?_)
    · refine R_iconst (v := nI 1) dX8_learn_115 rfl ?_
      refine R_istore (L' := [(0, .ref 0), (1, .int (nI u)), (2, .int (nI v_)), (3, .int (nI R)), (4, .int (nI 1))]) dX8_learn_116 (by decide) (qs1 rfl (qs1 rfl (qs1 rfl (qs1 rfl (qs1 rfl qs0))))) ?_
      refine R_ls (L' := [(0, .ref 0), (1, .int (nI u)), (2, .int (nI v_)), (3, .int (nI R)), (4, .int (nI 1))]) (qs1 rfl (qs1 rfl (qs1 rfl (qs1 rfl (qs1 rfl qs0))))) ?_
      exact (by have e : i = l.length := (by omega); subst e; exact m_lrK hb hl16 hR hR4 hn1 (l.length + 2) 0 K (by omega) (by omega) hS hO (hA.cong (fun a b _ _ => lrA_row hR hn1)))
    · refine R_aload_n dX8_learn_68 rfl ?_
      refine R_getR dX8_learn_69 lg_RX8_44 (by decide) rfl rfl ?_
      refine R_iload dX8_learn_72 rfl ?_
      refine R_iload dX8_learn_74 rfl ?_
      refine R_if_eqN (tgt := 90) dX8_learn_76 (by decide) (by omega) (fun h_76 => ?_) (fun h_76 => ?_)
      · refine R_aload_n dX8_learn_90 rfl ?_
        refine R_iload dX8_learn_91 rfl ?_
        refine R_aload_n dX8_learn_93 rfl ?_
        refine R_getI dX8_learn_94 (lf_RX8_216).get (by decide) rfl rfl ?_
        refine R_top (y := nI l.length) hS.1 ?_
        refine R_iconst (v := nI 1) dX8_learn_97 rfl ?_
        refine R_isubN dX8_learn_98 (by omega) ?_
        refine R_callV (mc := mX8_spreadOf) (As := [_, _]) (r := 0) dX8_learn_99 lm_RX8_231 mv_X8_spreadOf rfl (by decide) rfl rfl rfl rfl (Nat.le_of_ble_eq_true rfl) (m_spr hS (i := i) (j := l.length - 1) (by omega) (by omega)) ?_
        rintro _ _ ⟨rfl, rfl⟩
        refine R_topL (y := encF (rst l.length R (fz l) 0 i)) (by rw [rst_k0 _ _ _ (by omega)]; show _ = Int64.ofInt (fz l i l.length); rw [fz_I, show l.length - 1 + 1 = l.length by omega]) ?_
        refine R_goto (tgt := 108) dX8_learn_102 (by decide) ?_
        refine R_lastN dX8_learn_108 (by decide) rfl (by omega) (by decide) ?_
        refine R_iincN (n := 1) (L' := [(0, .ref 0), (1, .int (nI u)), (2, .int (nI v_)), (3, .int (nI R)), (4, .int (nI (i + 1)))]) dX8_learn_109 rfl (by decide) (qs1 rfl (qs1 rfl (qs1 rfl (qs1 rfl (qs1 rfl qs0))))) ?_
        refine R_goto (tgt := 59) dX8_learn_112 (by decide) ?_
        refine R_ls (L' := [(0, .ref 0), (1, .int (nI u)), (2, .int (nI v_)), (3, .int (nI R)), (4, .int (nI (i + 1)))]) (qs1 rfl (qs1 rfl (qs1 rfl (qs1 rfl (qs1 rfl qs0))))) ?_
        exact (ih (i + 1) _ (by omega) (by omega) (hS.off rfl (by funext z; rw [qLs_2, if_neg (by omega)]) rfl) (hO.ls (by unfold sSc; omega)) (by have h := LA_cell (x := encF (rst l.length R (fz l) 0 i)) hA (by omega); rw [Nat.mul_zero, Nat.zero_add] at h; exact h.cong (fun a b _ _ => lrA_next)))
      · refine R_aload_n dX8_learn_79 rfl ?_
        refine R_getI dX8_learn_80 (lf_RX8_216).get (by decide) rfl rfl ?_
        refine R_top (y := nI l.length) hS.1 ?_
        refine R_iload dX8_learn_83 rfl ?_
        refine R_isubN dX8_learn_85 (by omega) ?_
        refine R_iload_n dX8_learn_86 rfl ?_
        refine R_icmp_ltN (tgt := 105) dX8_learn_87 (by decide) (by omega) (by omega) (fun h_87 => ?_) (fun h_87 => ?_)
        · refine R_ldc2 dX8_learn_105 lc_RX8_229 ?_
          refine R_topL (y := encF (rst l.length R (fz l) 0 i)) (by have e : rst l.length R (fz l) 0 i = none := (by unfold rst; rw [if_neg (by omega)]); rw [e]; rfl) ?_
          refine R_lastN dX8_learn_108 (by decide) rfl (by omega) (by decide) ?_
          refine R_iincN (n := 1) (L' := [(0, .ref 0), (1, .int (nI u)), (2, .int (nI v_)), (3, .int (nI R)), (4, .int (nI (i + 1)))]) dX8_learn_109 rfl (by decide) (qs1 rfl (qs1 rfl (qs1 rfl (qs1 rfl (qs1 rfl qs0))))) ?_
          refine R_goto (tgt := 59) dX8_learn_112 (by decide) ?_
          refine R_ls (L' := [(0, .ref 0), (1, .int (nI u)), (2, .int (nI v_)), (3, .int (nI R)), (4, .int (nI (i + 1)))]) (qs1 rfl (qs1 rfl (qs1 rfl (qs1 rfl (qs1 rfl qs0))))) ?_
          exact (ih (i + 1) _ (by omega) (by omega) (hS.off rfl (by funext z; rw [qLs_2, if_neg (by omega)]) rfl) (hO.ls (by unfold sSc; omega)) (by have h := LA_cell (x := encF (rst l.length R (fz l) 0 i)) hA (by omega); rw [Nat.mul_zero, Nat.zero_add] at h; exact h.cong (fun a b _ _ => lrA_next)))
        · refine R_aload_n dX8_learn_90 rfl ?_
          refine R_iload dX8_learn_91 rfl ?_
          refine R_aload_n dX8_learn_93 rfl ?_
          refine R_getI dX8_learn_94 (lf_RX8_216).get (by decide) rfl rfl ?_
          refine R_top (y := nI l.length) hS.1 ?_
          refine R_iconst (v := nI 1) dX8_learn_97 rfl ?_
          refine R_isubN dX8_learn_98 (by omega) ?_
          refine R_callV (mc := mX8_spreadOf) (As := [_, _]) (r := 0) dX8_learn_99 lm_RX8_231 mv_X8_spreadOf rfl (by decide) rfl rfl rfl rfl (Nat.le_of_ble_eq_true rfl) (m_spr hS (i := i) (j := l.length - 1) (by omega) (by omega)) ?_
          rintro _ _ ⟨rfl, rfl⟩
          refine R_topL (y := encF (rst l.length R (fz l) 0 i)) (by rw [rst_k0 _ _ _ (by omega)]; show _ = Int64.ofInt (fz l i l.length); rw [fz_I, show l.length - 1 + 1 = l.length by omega]) ?_
          refine R_goto (tgt := 108) dX8_learn_102 (by decide) ?_
          refine R_lastN dX8_learn_108 (by decide) rfl (by omega) (by decide) ?_
          refine R_iincN (n := 1) (L' := [(0, .ref 0), (1, .int (nI u)), (2, .int (nI v_)), (3, .int (nI R)), (4, .int (nI (i + 1)))]) dX8_learn_109 rfl (by decide) (qs1 rfl (qs1 rfl (qs1 rfl (qs1 rfl (qs1 rfl qs0))))) ?_
          refine R_goto (tgt := 59) dX8_learn_112 (by decide) ?_
          refine R_ls (L' := [(0, .ref 0), (1, .int (nI u)), (2, .int (nI v_)), (3, .int (nI R)), (4, .int (nI (i + 1)))]) (qs1 rfl (qs1 rfl (qs1 rfl (qs1 rfl (qs1 rfl qs0))))) ?_
          exact (ih (i + 1) _ (by omega) (by omega) (hS.off rfl (by funext z; rw [qLs_2, if_neg (by omega)]) rfl) (hO.ls (by unfold sSc; omega)) (by have h := LA_cell (x := encF (rst l.length R (fz l) 0 i)) hA (by omega); rw [Nat.mul_zero, Nat.zero_add] at h; exact h.cong (fun a b _ _ => lrA_next)))

theorem lr_0 {l : List (Nat × Int32)} {R : Nat} (hR : 1 ≤ R) (h : l.length = 0) {M : qMem} (hA : LA M (fun _ _ => FAR)) : LR (qLs M 12 0 0) l R := fun a b ha hb => by
  show (qLs M 12 0 0).2 12 (17 * a + b) = encF (rst l.length R (fz l) a b)
  rw [qLs_2]
  by_cases e : a = 0 ∧ b = 0
  · rw [if_pos (by omega), e.1, e.2, rst_k0 _ _ _ (Or.inl rfl), h]; rfl
  · rw [if_neg (by omega), hA a b ha hb, rst_out hR (by omega) (by omega)]; rfl
set_option maxRecDepth 100000 in
set_option maxHeartbeats 4000000 in
theorem m_lrF {w : qWT} {M : qMem} {l : List (Nat × Int32)} {R : Nat} (hb : serB l) (hl16 : l.length ≤ 16) (hR : 1 ≤ R) (hR4 : R ≤ 4) {u v_ : Nat} : ∀ (fu : Nat) (i : Nat) (K : qMem), (273 - i) < fu → (i ≤ 272) → (MS K l) → (cOff sSc M K) → (∀ q, q < i → K.2 12 q = FAR) → qRW 1 w mX8_learn 17 [(0, .ref 0), (1, .int (nI u)), (2, .int (nI v_)), (3, .int (nI R)), (4, .int (nI i))] [] K (fun v N => v = none ∧ MS N l ∧ LR N l R ∧ cOff sSc M N) := by
  intro fu
  induction fu with
  | zero => intro i K hn; exact absurd hn (Nat.not_lt_zero _)
  | succ fu ih =>
    intro i K hn hi hS hO hA
    refine R_iload dX8_learn_17 rfl ?_
    refine R_sipush (v := nI 272) dX8_learn_19 rfl ?_
    refine R_icmp_geN (tgt := 41) dX8_learn_22 (by decide) (by omega) (by omega) (fun h_22 => ?_) (fun h_22 => ?_)
    · refine R_aload_n dX8_learn_41 rfl ?_
      refine R_getI dX8_learn_42 (lf_RX8_216).get (by decide) rfl rfl ?_
      refine R_top (y := nI l.length) hS.1 ?_
      refine R_if_neN (tgt := 56) dX8_learn_45 (by decide) (by omega) (fun h_45 => ?_) (fun h_45 => ?_)
      · refine R_iconst (v := nI 0) dX8_learn_56 rfl ?_
        refine R_istore (L' := [(0, .ref 0), (1, .int (nI u)), (2, .int (nI v_)), (3, .int (nI R)), (4, .int (nI 0))]) dX8_learn_57 (by decide) (qs1 rfl (qs1 rfl (qs1 rfl (qs1 rfl (qs1 rfl qs0))))) ?_
        refine R_ls (L' := [(0, .ref 0), (1, .int (nI u)), (2, .int (nI v_)), (3, .int (nI R)), (4, .int (nI 0))]) (qs1 rfl (qs1 rfl (qs1 rfl (qs1 rfl (qs1 rfl qs0))))) ?_
        exact (m_lrB hb hl16 hR hR4 (by omega) (l.length + 2) 0 K (by omega) (Nat.zero_le _) hS hO (fun a b ha hb => by rw [hA _ (by omega)]; unfold lrA; rw [if_neg (by omega)]; split <;> rfl))
      · refine R_aload_n dX8_learn_48 rfl ?_
        refine R_getR dX8_learn_49 lg_RX8_44 (by decide) rfl rfl ?_
        refine R_iconst (v := nI 0) dX8_learn_52 rfl ?_
        refine R_lconst (v := 0) dX8_learn_53 rfl ?_
        refine R_lastN dX8_learn_54 (by decide) rfl (by omega) (by decide) ?_
        refine R_return dX8_learn_55 rfl ?_
        exact ⟨rfl, (hS.off rfl (by funext z; rw [qLs_2, if_neg (by omega)]) rfl), lr_0 hR (by omega) (fun a b ha hb => hA _ (by omega)), (hO.ls (by unfold sSc; omega))⟩
    · refine R_aload_n dX8_learn_25 rfl ?_
      refine R_getR dX8_learn_26 lg_RX8_44 (by decide) rfl rfl ?_
      refine R_iload dX8_learn_29 rfl ?_
      refine R_ldc2 dX8_learn_31 lc_RX8_229 ?_
      refine R_lastN dX8_learn_34 (by decide) rfl (by omega) (by decide) ?_
      refine R_iincN (n := 1) (L' := [(0, .ref 0), (1, .int (nI u)), (2, .int (nI v_)), (3, .int (nI R)), (4, .int (nI (i + 1)))]) dX8_learn_35 rfl (by decide) (qs1 rfl (qs1 rfl (qs1 rfl (qs1 rfl (qs1 rfl qs0))))) ?_
      refine R_goto (tgt := 17) dX8_learn_38 (by decide) ?_
      refine R_ls (L' := [(0, .ref 0), (1, .int (nI u)), (2, .int (nI v_)), (3, .int (nI R)), (4, .int (nI (i + 1)))]) (qs1 rfl (qs1 rfl (qs1 rfl (qs1 rfl (qs1 rfl qs0))))) ?_
      exact (ih (i + 1) _ (by omega) (by omega) (hS.off rfl (by funext z; rw [qLs_2, if_neg (by omega)]) rfl) (hO.ls (by unfold sSc; omega)) (fun q hq => by rw [qLs_2]; split; rfl; exact hA q (by omega)))
set_option maxRecDepth 100000 in
set_option maxHeartbeats 4000000 in
theorem m_learn {M : qMem} {d : dT} (hX : MR M d) (hB : dB d) (hK2 : 2 ≤ dK d) (hY4 : 4 ≤ dY d) {u v_ : Nat} (hu : u < dK d) (hv : v_ < dK d) : qSem 1 mX8_learn [.ref 0, .int (nI u), .int (nI v_)] M (fun v N => v = none ∧ MS N (ser d u v_) ∧ LR N (ser d u v_) (dR d 0) ∧ cOff sSc M N) := by
  have hK6 := hB.2.1
  have hY16 := hB.1
  refine qSem.of (by decide +kernel) (Nat.le_of_ble_eq_true rfl) (fun w => ?_)
  refine R_ls (L' := [(0, .ref 0), (1, .int (nI u)), (2, .int (nI v_))]) (qs1 rfl (qs1 rfl (qs1 rfl qs0))) ?_
  refine R_aload_n dX8_learn_0 rfl ?_
  refine R_iload_n dX8_learn_1 rfl ?_
  refine R_iload_n dX8_learn_2 rfl ?_
  refine R_callV (mc := mX8_rowOf) (As := [_, _]) (r := 0) dX8_learn_3 lm_RX8_226 mv_X8_rowOf rfl (by decide) rfl rfl rfl rfl (Nat.le_of_ble_eq_true rfl) (m_row hX hB hK2 hY4 hu hv) ?_
  rintro _ _ ⟨rfl, hS, hO1⟩
  have hX1 := hX.sc hO1
  refine R_aload_n dX8_learn_6 rfl ?_
  refine R_getR dX8_learn_7 lg_RX8_19 (by decide) rfl rfl ?_
  refine R_bipush (v := nI 97) dX8_learn_10 rfl ?_
  refine R_ialdN dX8_learn_12 (by decide) rfl (by omega) (by decide) ?_
  refine R_top (y := nI (dR d 0)) (hX1.r (k := 0) (by omega)) ?_
  refine R_istore_n (L' := [(0, .ref 0), (1, .int (nI u)), (2, .int (nI v_)), (3, .int (nI (dR d 0)))]) dX8_learn_13 (by decide) (qs1 rfl (qs1 rfl (qs1 rfl (qs1 rfl qs0)))) ?_
  refine R_iconst (v := nI 0) dX8_learn_14 rfl ?_
  refine R_istore (L' := [(0, .ref 0), (1, .int (nI u)), (2, .int (nI v_)), (3, .int (nI (dR d 0))), (4, .int (nI 0))]) dX8_learn_15 (by decide) (qs1 rfl (qs1 rfl (qs1 rfl (qs1 rfl (qs1 rfl qs0))))) ?_
  refine R_ls (L' := [(0, .ref 0), (1, .int (nI u)), (2, .int (nI v_)), (3, .int (nI (dR d 0))), (4, .int (nI 0))]) (qs1 rfl (qs1 rfl (qs1 rfl (qs1 rfl (qs1 rfl qs0))))) ?_
  exact (m_lrF (M := M) (ser_b hB u v_) hS.2.1 hB.2.2.2.1.1 hB.2.2.2.1.2 274 0 _ (by omega) (Nat.zero_le _) hS hO1 (fun q hq => absurd hq (Nat.not_lt_zero q)))
