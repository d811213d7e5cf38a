
-- ===== striking votes =====
def stkT (P : pT) (B : Nat → Nat → Bool) (c lo hi p0 t0 : Nat) : Nat → Nat → Bool := fun p t => B p t && !(isO P p c && (decide (lo ≤ t) && (decide (t ≤ hi) && (decide (p < p0) || (decide (p = p0) && decide (t < t0))))))
def stk (d : dT) (P : pT) (B : Nat → Nat → Bool) (c y : Nat) : Nat → Nat → Bool := fun p t => B p t && !(isO P p c && (decide (y ≤ t + dR d 3) && decide (t ≤ y + dR d 3)))
def cutB (B : Nat → Nat → Bool) (p t : Nat) : Nat → Nat → Bool := fun a b => if a = p ∧ b = t then false else B a b
theorem stkT_iff {P : pT} {B : Nat → Nat → Bool} {c lo hi p0 t0 p t : Nat} : stkT P B c lo hi p0 t0 p t = true ↔ B p t = true ∧ ¬ (isO P p c = true ∧ lo ≤ t ∧ t ≤ hi ∧ (p < p0 ∨ (p = p0 ∧ t < t0))) := by
  unfold stkT
  simp only [Bool.and_eq_true, Bool.not_eq_true', Bool.or_eq_true, decide_eq_true_eq, Bool.and_eq_false_iff, Bool.or_eq_false_iff, decide_eq_false_iff_not]
  constructor
  · rintro ⟨h1, h2⟩
    refine ⟨h1, fun h => ?_⟩
    rcases h2 with h2 | h2 | h2 | ⟨h2, h3⟩
    · rw [h.1] at h2; cases h2
    · exact h2 h.2.1
    · exact h2 h.2.2.1
    · rcases h.2.2.2 with q | q
      · exact h2 q
      · rcases h3 with h3 | h3
        · exact h3 q.1
        · exact h3 q.2
  · rintro ⟨h1, h2⟩
    refine ⟨h1, ?_⟩
    cases e : isO P p c with
    | false => exact Or.inl rfl
    | true =>
      right
      by_cases a1 : lo ≤ t
      · right
        by_cases a2 : t ≤ hi
        · right
          refine ⟨fun z => h2 ⟨e, a1, a2, Or.inl z⟩, ?_⟩
          by_cases a3 : p = p0
          · exact Or.inr (fun z => h2 ⟨e, a1, a2, Or.inr ⟨a3, z⟩⟩)
          · exact Or.inl a3
        · exact Or.inl a2
      · exact Or.inl a1
theorem stkT_yes {P : pT} {B : Nat → Nat → Bool} {c lo hi p t : Nat} (h : isO P p c = true) (h1 : lo ≤ t) (h2 : t ≤ hi) : cutB (stkT P B c lo hi p t) p t = stkT P B c lo hi p (t + 1) := by
  funext a b
  rw [Bool.eq_iff_iff, stkT_iff]
  unfold cutB
  by_cases e : a = p ∧ b = t
  · rw [if_pos e]
    obtain ⟨rfl, rfl⟩ := e
    constructor
    · intro z; cases z
    · rintro ⟨_, z⟩; exact absurd ⟨h, h1, h2, Or.inr ⟨rfl, by omega⟩⟩ z
  · rw [if_neg e, stkT_iff]
    constructor
    · rintro ⟨z1, z2⟩; exact ⟨z1, fun q => z2 ⟨q.1, q.2.1, q.2.2.1, by omega⟩⟩
    · rintro ⟨z1, z2⟩; exact ⟨z1, fun q => z2 ⟨q.1, q.2.1, q.2.2.1, by omega⟩⟩
theorem stkT_no {P : pT} {B : Nat → Nat → Bool} {c lo hi p t : Nat} (h : ¬ (isO P p c = true ∧ stkT P B c lo hi p t p t = true)) : stkT P B c lo hi p t = stkT P B c lo hi p (t + 1) := by
  funext a b
  rw [Bool.eq_iff_iff, stkT_iff, stkT_iff]
  rw [stkT_iff] at h
  constructor
  · rintro ⟨z1, z2⟩
    refine ⟨z1, fun q => ?_⟩
    by_cases e : a = p ∧ b = t
    · obtain ⟨rfl, rfl⟩ := e
      exact h ⟨q.1, z1, fun y => by omega⟩
    · exact z2 ⟨q.1, q.2.1, q.2.2.1, by omega⟩
  · rintro ⟨z1, z2⟩; exact ⟨z1, fun q => z2 ⟨q.1, q.2.1, q.2.2.1, by omega⟩⟩
theorem stkT_next {P : pT} {B : Nat → Nat → Bool} {c lo hi p t : Nat} (h : hi < t) : stkT P B c lo hi p t = stkT P B c lo hi (p + 1) lo := by
  funext a b
  rw [Bool.eq_iff_iff, stkT_iff, stkT_iff]
  constructor
  · rintro ⟨z1, z2⟩; exact ⟨z1, fun q => z2 ⟨q.1, q.2.1, q.2.2.1, by omega⟩⟩
  · rintro ⟨z1, z2⟩; exact ⟨z1, fun q => z2 ⟨q.1, q.2.1, q.2.2.1, by omega⟩⟩
theorem stkT_0 {P : pT} {B : Nat → Nat → Bool} {c lo hi : Nat} : stkT P B c lo hi 0 lo = B := by
  funext a b
  rw [Bool.eq_iff_iff, stkT_iff]
  constructor
  · rintro ⟨z1, z2⟩; exact z1
  · intro z1; exact ⟨z1, fun q => by omega⟩
theorem stk_iff {d : dT} {P : pT} {B : Nat → Nat → Bool} {c y p t : Nat} : stk d P B c y p t = true ↔ B p t = true ∧ ¬ (isO P p c = true ∧ y ≤ t + dR d 3 ∧ t ≤ y + dR d 3) := by
  unfold stk
  simp only [Bool.and_eq_true, Bool.not_eq_true', decide_eq_true_eq, Bool.and_eq_false_iff, decide_eq_false_iff_not]
  constructor
  · rintro ⟨h1, h2⟩
    refine ⟨h1, fun h => ?_⟩
    rcases h2 with h2 | h2 | h2
    · rw [h.1] at h2; cases h2
    · exact h2 h.2.1
    · exact h2 h.2.2
  · rintro ⟨h1, h2⟩
    refine ⟨h1, ?_⟩
    cases e : isO P p c with
    | false => exact Or.inl rfl
    | true =>
      right
      by_cases a1 : y ≤ t + dR d 3
      · exact Or.inr (fun z => h2 ⟨e, a1, z⟩)
      · exact Or.inl a1
theorem CO.cong {M : qMem} {P : pT} {B D : Nat → Nat → Bool} (h : CO M P B) (e : ∀ p t, p < P.length → t < 16 → B p t = D p t) : CO M P D := fun p t hp ht => by rw [← e p t hp ht]; exact h p t hp ht
theorem CV.cong {b : Nat} {M : qMem} {P : pT} {B D : Nat → Nat → Bool} (h : CV b M P B) (e : ∀ p t, p < P.length → t < 16 → B p t = D p t) : CV b M P D := fun c t hc ht => by rw [h c t hc ht]; unfold cnt; rw [cnI_cong (Q := P) (D := D) (fun p hp => ⟨rfl, e p t hp ht⟩)]
theorem cut_cnt {P : pT} {B : Nat → Nat → Bool} {p t c : Nat} (hp : p < P.length) (h : B p t = true) : cnt P (cutB B p t) c t + (if isO P p c then 1 else 0) = cnt P B c t :=
  cnI_off h (show (if p = p ∧ t = t then false else B p t) = false from if_pos ⟨rfl, rfl⟩) (fun a ha => (if_neg (fun e => ha e.1) : (if a = p ∧ t = t then false else B a t) = B a t)) _ hp
theorem cut_cnt2 {P : pT} {B : Nat → Nat → Bool} {p t c b : Nat} (hb : b ≠ t) : cnt P (cutB B p t) c b = cnt P B c b :=
  cnI_cong (fun a _ => ⟨rfl, (if_neg (fun e => hb e.2) : (if a = p ∧ b = t then false else B a b) = B a b)⟩)
theorem cut_mem {K : qMem} {P : pT} {B : Nat → Nat → Bool} {p t : Nat} (hP : P.length ≤ 15) (hp : p < P.length) (hq : pf P p < 6 ∧ ps P p < 6) (hne : pf P p ≠ ps P p) (h : B p t = true) (hO : CO K P B) (hV : CV 80 K P B) :
    CO (qIs (qIs (qIs K (44 + p) t (nI 0)) (80 + pf P p) t (nI (cnt P B (pf P p) t - 1))) (80 + ps P p) t (nI (cnt P B (ps P p) t - 1))) P (cutB B p t) ∧
    CV 80 (qIs (qIs (qIs K (44 + p) t (nI 0)) (80 + pf P p) t (nI (cnt P B (pf P p) t - 1))) (80 + ps P p) t (nI (cnt P B (ps P p) t - 1))) P (cutB B p t) := by
  refine ⟨fun a b ha hb => ?_, fun c b hc hb => ?_⟩
  · rw [qIs_no (by omega), qIs_no (by omega), qIs_1]
    unfold cutB
    by_cases e : a = p ∧ b = t
    · rw [if_pos (by omega), if_pos e]; rfl
    · rw [if_neg (by omega), if_neg e]; exact hO a b ha hb
  · have i1 : isO P p (pf P p) = true := by unfold isO; simp
    have i2 : isO P p (ps P p) = true := by unfold isO; simp
    by_cases eb : b = t
    · subst eb
      have k := cut_cnt (c := c) hp h
      by_cases e2 : c = ps P p
      · subst e2; rw [qIs_eq]; rw [i2, if_pos rfl] at k; congr 1; omega
      · rw [qIs_no (by omega)]
        by_cases e1 : c = pf P p
        · subst e1; rw [qIs_eq]; rw [i1, if_pos rfl] at k; congr 1; omega
        · rw [qIs_no (by omega), qIs_no (by omega), hV c b hc hb]
          have i3 : isO P p c = false := by unfold isO; simp; exact ⟨fun z => e1 z.symm, fun z => e2 z.symm⟩
          rw [i3, if_neg (by decide)] at k; congr 1; omega
    · rw [qIs_nk eb, qIs_nk eb, qIs_no (by omega), hV c b hc hb, cut_cnt2 eb]
theorem q_lo {y W : Nat} (hy : y < 1000) (hW : W < 1000) : (if nI 0 < nI y - nI W then nI y - nI W else nI 0) = nI (y - W) := by
  by_cases h : W ≤ y
  · rw [pk_sub h]
    by_cases e : y - W = 0
    · rw [e]; exact ite_self _
    · rw [if_pos (nI_lt (by omega) (by omega))]
  · have : nI y - nI W < 0 := pk_sneg (by omega) (by omega)
    rw [if_neg (fun z => by rw [Int32.lt_iff_toInt_lt] at z this; rw [nI_toInt (by omega)] at z; have e0 : (0 : Int32).toInt = 0 := rfl; omega), show y - W = 0 by omega]
theorem q_hi {a b : Nat} (ha : a < 1000) (hb : b < 1000) : (if nI b < nI a then nI b else nI a) = nI (min a b) := by
  by_cases h : b < a
  · rw [if_pos ((nI_ltI (by omega) (by omega)).mpr h), Nat.min_eq_right (by omega)]
  · rw [if_neg (fun z => h ((nI_ltI (by omega) (by omega)).mp z)), Nat.min_eq_left (by omega)]

theorem CB.mv2 {M N : qMem} {P : pT} (h : CB M P) (e : ∀ o, 36 ≤ o → o < 39 → N.1 o = M.1 o) : CB N P := ⟨by rw [e 36 (by omega) (by omega)]; exact h.1, h.2.1, fun p hp => by rw [e 37 (by omega) (by omega), e 38 (by omega) (by omega)]; exact h.2.2 p hp⟩
set_option maxRecDepth 100000 in
set_option maxHeartbeats 4000000 in
theorem l_stk2 {w : qWT} {M : qMem} {d : dT} {P : pT} {B : Nat → Nat → Bool} (hX : XR 14 M d) (hB : dB d) (hC : CB M P) (hO : CO M P B) (hb : BB d P B) (hlt : ∀ p, p < P.length → pf P p ≠ ps P p) (hW : CV 80 M P B) {c y : Nat} (hc : c < 6) (hy : y < 16) {lo hi : Nat} (hlo : y - dR d 3 = lo) (hhi : min (dY d - 1) (y + dR d 3) = hi) {p : Nat} (hp : p < P.length) (hk : ∀ K : qMem, CO K P (stkT P B c lo hi (p + 1) lo) → CV 80 K P (stkT P B c lo hi (p + 1) lo) → K.2 = M.2 → (∀ o, (o < 44 ∨ (59 ≤ o ∧ o < 80) ∨ 86 ≤ o) → K.1 o = M.1 o) → qRW 0 w mX0_strikeVotes 134 [(0, .ref 36), (1, .ref 14), (2, .int (nI c)), (3, .int (nI y)), (4, .int (nI (dR d 3))), (5, .int (nI lo)), (6, .int (nI hi)), (7, .int (nI p))] [] K (fun v N => v = none ∧ CO N P (stk d P B c y) ∧ CV 80 N P (stk d P B c y) ∧ N.2 = M.2 ∧ (∀ o, (o < 44 ∨ (59 ≤ o ∧ o < 80) ∨ 86 ≤ o) → N.1 o = M.1 o))) : ∀ (fu : Nat) (t : Nat) (K : qMem), (18 - t) < fu → (lo ≤ t) → (t ≤ 17) → (CO K P (stkT P B c lo hi p t)) → (CV 80 K P (stkT P B c lo hi p t)) → (K.2 = M.2) → ((∀ o, (o < 44 ∨ (59 ≤ o ∧ o < 80) ∨ 86 ≤ o) → K.1 o = M.1 o)) → qRW 0 w mX0_strikeVotes 48 [(0, .ref 36), (1, .ref 14), (2, .int (nI c)), (3, .int (nI y)), (4, .int (nI (dR d 3))), (5, .int (nI lo)), (6, .int (nI hi)), (7, .int (nI p)), (8, .int (nI t))] [] K (fun v N => v = none ∧ CO N P (stk d P B c y) ∧ CV 80 N P (stk d P B c y) ∧ N.2 = M.2 ∧ (∀ o, (o < 44 ∨ (59 ≤ o ∧ o < 80) ∨ 86 ≤ o) → N.1 o = M.1 o)) := by
  intro fu
  induction fu with
  | zero => intro t K hn; exact absurd hn (Nat.not_lt_zero _)
  | succ fu ih =>
    intro t K hn ht ht2 kO kW k2 kf
    have hP := hC.2.1
    have hW3 := hB.2.2.2.2.2.2.1
    have hY16 := hB.1
    have hhi16 : hi ≤ 15 := by omega
    have hCK : CB K P := hC.mv2 (fun o h1 h2 => kf o (by omega))
    have hq := hC.2.2 p hp
    have hqK := hCK.2.2 p hp
    refine R_iload dX0_strikeVotes_48 rfl ?_
    refine R_iload dX0_strikeVotes_50 rfl ?_
    refine R_icmp_gtN (tgt := 134) dX0_strikeVotes_52 (by decide) (by omega) (by omega) (fun h_55 => ?_) (fun h_55 => ?_)
    · rw [stkT_next (p := p) (t := t) (by omega)] at kO kW
      refine R_ls (L' := [(0, .ref 36), (1, .ref 14), (2, .int (nI c)), (3, .int (nI y)), (4, .int (nI (dR d 3))), (5, .int (nI lo)), (6, .int (nI hi)), (7, .int (nI p))]) (qs1 rfl (qs1 rfl (qs1 rfl (qs1 rfl (qs1 rfl (qs1 rfl (qs1 rfl (qs1 rfl qs0)))))))) ?_
      exact hk K kO kW k2 kf
    · have hop := kO p t hp (by omega)
      refine R_aload_n dX0_strikeVotes_55 rfl ?_
      refine R_iload dX0_strikeVotes_56 rfl ?_
      refine R_iload_n dX0_strikeVotes_58 rfl ?_
      refine R_callV (mc := mX0_isOf) (As := [_, _]) (r := 36) dX0_strikeVotes_59 lm_RX0_111 mv_X0_isOf rfl (by decide) rfl rfl rfl rfl (Nat.le_of_ble_eq_true rfl) (c_isOf hCK hp hc) ?_
      rintro _ _ ⟨rfl, ⟨rfl, hi2⟩ | ⟨rfl, hi2⟩⟩
      · refine R_if_eqN (tgt := 128) dX0_strikeVotes_62 (by decide) (by omega) (fun h_65 => by exact absurd h_65 (by decide)) (fun h_65 => ?_)
        refine R_aload_n dX0_strikeVotes_65 rfl ?_
        refine R_getR dX0_strikeVotes_66 lg_RX0_31 (by decide) rfl rfl ?_
        refine R_iload dX0_strikeVotes_69 rfl ?_
        refine R_aald3N dX0_strikeVotes_71 (by decide) rfl (by omega) (by decide) ?_
        refine R_iload dX0_strikeVotes_72 rfl ?_
        refine R_ialdN dX0_strikeVotes_74 (show 44 + p < 117 by have := ((by omega) : p < 15); omega) (sh_opn (by omega)) (by omega) (by decide) ?_
        refine R_top (y := if stkT P B c lo hi p t p t then nI 1 else nI 0) hop ?_
        refine R_iconst (v := nI 1) dX0_strikeVotes_75 rfl ?_
        refine R_icmp_ne (tgt := 128) dX0_strikeVotes_76 (by decide) (fun h_79 => ?_) (fun h_79 => ?_)
        · have hD : ¬ stkT P B c lo hi p t p t = true := fun e => by rw [e] at h_79; exact h_79 rfl
          refine R_iincN (n := 1) (L' := [(0, .ref 36), (1, .ref 14), (2, .int (nI c)), (3, .int (nI y)), (4, .int (nI (dR d 3))), (5, .int (nI lo)), (6, .int (nI hi)), (7, .int (nI p)), (8, .int (nI (t + 1)))]) dX0_strikeVotes_128 rfl (by decide) (qs1 rfl (qs1 rfl (qs1 rfl (qs1 rfl (qs1 rfl (qs1 rfl (qs1 rfl (qs1 rfl (qs1 rfl qs0))))))))) ?_
          refine R_goto (tgt := 48) dX0_strikeVotes_131 (by decide) ?_
          refine R_ls (L' := [(0, .ref 36), (1, .ref 14), (2, .int (nI c)), (3, .int (nI y)), (4, .int (nI (dR d 3))), (5, .int (nI lo)), (6, .int (nI hi)), (7, .int (nI p)), (8, .int (nI (t + 1)))]) (qs1 rfl (qs1 rfl (qs1 rfl (qs1 rfl (qs1 rfl (qs1 rfl (qs1 rfl (qs1 rfl (qs1 rfl qs0))))))))) ?_
          exact (by first | (have hcm := cut_mem hP hp ⟨hq.2.2.1, hq.2.2.2⟩ (hlt p hp) hD kO kW; rw [stkT_yes hi2 ht (by omega)] at hcm; exact ih (t + 1) _ (by omega) (by omega) (by omega) hcm.1 hcm.2 k2 (fun o ho => by rw [qIs_no (by omega), qIs_no (by omega), qIs_no (by omega)]; exact kf o ho)) | (have e := stkT_no (P := P) (B := B) (c := c) (lo := lo) (hi := hi) (p := p) (t := t) (fun z => by first | exact hD z.2 | exact hi2 z.1); rw [e] at kO kW; exact ih (t + 1) _ (by omega) (by omega) (by omega) kO kW k2 kf))
        · have hD : stkT P B c lo hi p t p t = true := by cases e : stkT P B c lo hi p t p t with | true => rfl | false => rw [e] at h_79; exact absurd h_79 (by decide)
          have c1 := cut_cnt (c := pf P p) hp hD
          have c2 := cut_cnt (c := ps P p) hp hD
          rw [show isO P p (pf P p) = true by unfold isO; simp, if_pos rfl] at c1
          rw [show isO P p (ps P p) = true by unfold isO; simp, if_pos rfl] at c2
          have b1 := cnt_15 (B := stkT P B c lo hi p t) hP (pf P p) t
          have b2 := cnt_15 (B := stkT P B c lo hi p t) hP (ps P p) t
          refine R_aload_n dX0_strikeVotes_79 rfl ?_
          refine R_getR dX0_strikeVotes_80 lg_RX0_31 (by decide) rfl rfl ?_
          refine R_iload dX0_strikeVotes_83 rfl ?_
          refine R_aald3N dX0_strikeVotes_85 (by decide) rfl (by omega) (by decide) ?_
          refine R_iload dX0_strikeVotes_86 rfl ?_
          refine R_iconst (v := nI 0) dX0_strikeVotes_88 rfl ?_
          refine R_iastN dX0_strikeVotes_89 (show 44 + p < 117 by have := ((by omega) : p < 15); omega) (sh_opn (by omega)) (by omega) (by decide) ?_
          refine R_aload_n dX0_strikeVotes_90 rfl ?_
          refine R_getR dX0_strikeVotes_91 lg_RX0_42 (by decide) rfl rfl ?_
          refine R_aload_n dX0_strikeVotes_94 rfl ?_
          refine R_getR dX0_strikeVotes_95 lg_RX0_22 (by decide) rfl rfl ?_
          refine R_iload dX0_strikeVotes_98 rfl ?_
          refine R_ialdN dX0_strikeVotes_100 (by decide) rfl (by omega) (by decide) ?_
          refine R_top (y := nI (pf P p)) (by rw [qIs_no (by omega)]; exact hqK.1) ?_
          refine R_aald3N dX0_strikeVotes_101 (by decide) rfl (by omega) (by decide) ?_
          refine R_iload dX0_strikeVotes_102 rfl ?_
          refine R_dup2 dX0_strikeVotes_104 rfl rfl ?_
          refine R_ialdN dX0_strikeVotes_105 (show 80 + (pf P p) < 117 by have := ((by omega) : pf P p < 6); omega) (sh_lef (by omega)) (by omega) (by decide) ?_
          refine R_top (y := nI (cnt P (stkT P B c lo hi p t) (pf P p) t)) (by rw [qIs_no (by omega)]; exact kW _ _ (by omega) (by omega)) ?_
          refine R_iconst (v := nI 1) dX0_strikeVotes_106 rfl ?_
          refine R_isubN dX0_strikeVotes_107 (by omega) ?_
          refine R_iastN dX0_strikeVotes_108 (show 80 + (pf P p) < 117 by have := ((by omega) : pf P p < 6); omega) (sh_lef (by omega)) (by omega) (by decide) ?_
          refine R_aload_n dX0_strikeVotes_109 rfl ?_
          refine R_getR dX0_strikeVotes_110 lg_RX0_42 (by decide) rfl rfl ?_
          refine R_aload_n dX0_strikeVotes_113 rfl ?_
          refine R_getR dX0_strikeVotes_114 lg_RX0_26 (by decide) rfl rfl ?_
          refine R_iload dX0_strikeVotes_117 rfl ?_
          refine R_ialdN dX0_strikeVotes_119 (by decide) rfl (by omega) (by decide) ?_
          refine R_top (y := nI (ps P p)) (by rw [qIs_no (by omega), qIs_no (by omega)]; exact hqK.2.1) ?_
          refine R_aald3N dX0_strikeVotes_120 (by decide) rfl (by omega) (by decide) ?_
          refine R_iload dX0_strikeVotes_121 rfl ?_
          refine R_dup2 dX0_strikeVotes_123 rfl rfl ?_
          refine R_ialdN dX0_strikeVotes_124 (show 80 + (ps P p) < 117 by have := ((by omega) : ps P p < 6); omega) (sh_lef (by omega)) (by omega) (by decide) ?_
          refine R_top (y := nI (cnt P (stkT P B c lo hi p t) (ps P p) t)) (by have := hlt p hp; rw [qIs_no (by omega), qIs_no (by omega)]; exact kW _ _ (by omega) (by omega)) ?_
          refine R_iconst (v := nI 1) dX0_strikeVotes_125 rfl ?_
          refine R_isubN dX0_strikeVotes_126 (by omega) ?_
          refine R_iastN dX0_strikeVotes_127 (show 80 + (ps P p) < 117 by have := ((by omega) : ps P p < 6); omega) (sh_lef (by omega)) (by omega) (by decide) ?_
          refine R_iincN (n := 1) (L' := [(0, .ref 36), (1, .ref 14), (2, .int (nI c)), (3, .int (nI y)), (4, .int (nI (dR d 3))), (5, .int (nI lo)), (6, .int (nI hi)), (7, .int (nI p)), (8, .int (nI (t + 1)))]) dX0_strikeVotes_128 rfl (by decide) (qs1 rfl (qs1 rfl (qs1 rfl (qs1 rfl (qs1 rfl (qs1 rfl (qs1 rfl (qs1 rfl (qs1 rfl qs0))))))))) ?_
          refine R_goto (tgt := 48) dX0_strikeVotes_131 (by decide) ?_
          refine R_ls (L' := [(0, .ref 36), (1, .ref 14), (2, .int (nI c)), (3, .int (nI y)), (4, .int (nI (dR d 3))), (5, .int (nI lo)), (6, .int (nI hi)), (7, .int (nI p)), (8, .int (nI (t + 1)))]) (qs1 rfl (qs1 rfl (qs1 rfl (qs1 rfl (qs1 rfl (qs1 rfl (qs1 rfl (qs1 rfl (qs1 rfl qs0))))))))) ?_
          exact (by first | (have hcm := cut_mem hP hp ⟨hq.2.2.1, hq.2.2.2⟩ (hlt p hp) hD kO kW; rw [stkT_yes hi2 ht (by omega)] at hcm; exact ih (t + 1) _ (by omega) (by omega) (by omega) hcm.1 hcm.2 k2 (fun o ho => by rw [qIs_no (by omega), qIs_no (by omega), qIs_no (by omega)]; exact kf o ho)) | (have e := stkT_no (P := P) (B := B) (c := c) (lo := lo) (hi := hi) (p := p) (t := t) (fun z => by first | exact hD z.2 | exact hi2 z.1); rw [e] at kO kW; exact ih (t + 1) _ (by omega) (by omega) (by omega) kO kW k2 kf))
      · refine R_if_eqN (tgt := 128) dX0_strikeVotes_62 (by decide) (by omega) (fun h_65 => ?_) (fun h_65 => by exact absurd h_65 (by decide))
        refine R_iincN (n := 1) (L' := [(0, .ref 36), (1, .ref 14), (2, .int (nI c)), (3, .int (nI y)), (4, .int (nI (dR d 3))), (5, .int (nI lo)), (6, .int (nI hi)), (7, .int (nI p)), (8, .int (nI (t + 1)))]) dX0_strikeVotes_128 rfl (by decide) (qs1 rfl (qs1 rfl (qs1 rfl (qs1 rfl (qs1 rfl (qs1 rfl (qs1 rfl (qs1 rfl (qs1 rfl qs0))))))))) ?_
        refine R_goto (tgt := 48) dX0_strikeVotes_131 (by decide) ?_
        refine R_ls (L' := [(0, .ref 36), (1, .ref 14), (2, .int (nI c)), (3, .int (nI y)), (4, .int (nI (dR d 3))), (5, .int (nI lo)), (6, .int (nI hi)), (7, .int (nI p)), (8, .int (nI (t + 1)))]) (qs1 rfl (qs1 rfl (qs1 rfl (qs1 rfl (qs1 rfl (qs1 rfl (qs1 rfl (qs1 rfl (qs1 rfl qs0))))))))) ?_
        exact (by first | (have hcm := cut_mem hP hp ⟨hq.2.2.1, hq.2.2.2⟩ (hlt p hp) hD kO kW; rw [stkT_yes hi2 ht (by omega)] at hcm; exact ih (t + 1) _ (by omega) (by omega) (by omega) hcm.1 hcm.2 k2 (fun o ho => by rw [qIs_no (by omega), qIs_no (by omega), qIs_no (by omega)]; exact kf o ho)) | (have e := stkT_no (P := P) (B := B) (c := c) (lo := lo) (hi := hi) (p := p) (t := t) (fun z => by first | exact hD z.2 | exact hi2 z.1); rw [e] at kO kW; exact ih (t + 1) _ (by omega) (by omega) (by omega) kO kW k2 kf))
set_option maxRecDepth 100000 in
set_option maxHeartbeats 4000000 in
theorem l_stk1 {w : qWT} {M : qMem} {d : dT} {P : pT} {B : Nat → Nat → Bool} (hX : XR 14 M d) (hB : dB d) (hC : CB M P) (hO : CO M P B) (hb : BB d P B) (hlt : ∀ p, p < P.length → pf P p ≠ ps P p) (hW : CV 80 M P B) {c y : Nat} (hc : c < 6) (hy : y < 16) {lo hi : Nat} (hlo : y - dR d 3 = lo) (hhi : min (dY d - 1) (y + dR d 3) = hi) : ∀ (fu : Nat) (p : Nat) (K : qMem), (17 - p) < fu → (p ≤ P.length) → (CO K P (stkT P B c lo hi p lo)) → (CV 80 K P (stkT P B c lo hi p lo)) → (K.2 = M.2) → ((∀ o, (o < 44 ∨ (59 ≤ o ∧ o < 80) ∨ 86 ≤ o) → K.1 o = M.1 o)) → qRW 0 w mX0_strikeVotes 35 [(0, .ref 36), (1, .ref 14), (2, .int (nI c)), (3, .int (nI y)), (4, .int (nI (dR d 3))), (5, .int (nI lo)), (6, .int (nI hi)), (7, .int (nI p))] [] K (fun v N => v = none ∧ CO N P (stk d P B c y) ∧ CV 80 N P (stk d P B c y) ∧ N.2 = M.2 ∧ (∀ o, (o < 44 ∨ (59 ≤ o ∧ o < 80) ∨ 86 ≤ o) → N.1 o = M.1 o)) := by
  intro fu
  induction fu with
  | zero => intro p K hn; exact absurd hn (Nat.not_lt_zero _)
  | succ fu ih =>
    intro p K hn hp kO kW k2 kf
    have hP := hC.2.1
    have hW3 := hB.2.2.2.2.2.2.1
    have hY16 := hB.1
    have hhi16 : hi ≤ 15 := by omega
    have hCK : CB K P := hC.mv2 (fun o h1 h2 => kf o (by omega))
    refine R_iload dX0_strikeVotes_35 rfl ?_
    refine R_aload_n dX0_strikeVotes_37 rfl ?_
    refine R_getI dX0_strikeVotes_38 (lf_RX0_77).get (by decide) rfl rfl ?_
    refine R_top (y := nI P.length) hCK.1 ?_
    refine R_icmp_geN (tgt := 140) dX0_strikeVotes_41 (by decide) (by omega) (by omega) (fun h_44 => ?_) (fun h_44 => ?_)
    · refine R_return dX0_strikeVotes_140 rfl ?_
      have e : p = P.length := by omega
      subst e
      have hD : ∀ p t, p < P.length → t < 16 → stkT P B c lo hi P.length lo p t = stk d P B c y p t := fun p t hp ht => by
        rw [Bool.eq_iff_iff, stkT_iff, stk_iff]
        constructor
        · rintro ⟨z1, z2⟩; have := brk_lt hB (hb p t hp z1); exact ⟨z1, fun q => z2 ⟨q.1, by omega, by omega, Or.inl hp⟩⟩
        · rintro ⟨z1, z2⟩; exact ⟨z1, fun q => z2 ⟨q.1, by omega, by omega⟩⟩
      exact ⟨rfl, kO.cong hD, kW.cong hD, k2, kf⟩
    · refine R_iload dX0_strikeVotes_44 rfl ?_
      refine R_istore (L' := [(0, .ref 36), (1, .ref 14), (2, .int (nI c)), (3, .int (nI y)), (4, .int (nI (dR d 3))), (5, .int (nI lo)), (6, .int (nI hi)), (7, .int (nI p)), (8, .int (nI lo))]) dX0_strikeVotes_46 (by decide) (qs1 rfl (qs1 rfl (qs1 rfl (qs1 rfl (qs1 rfl (qs1 rfl (qs1 rfl (qs1 rfl (qs1 rfl qs0))))))))) ?_
      refine R_ls (L' := [(0, .ref 36), (1, .ref 14), (2, .int (nI c)), (3, .int (nI y)), (4, .int (nI (dR d 3))), (5, .int (nI lo)), (6, .int (nI hi)), (7, .int (nI p)), (8, .int (nI lo))]) (qs1 rfl (qs1 rfl (qs1 rfl (qs1 rfl (qs1 rfl (qs1 rfl (qs1 rfl (qs1 rfl (qs1 rfl qs0))))))))) ?_
      exact (l_stk2 (w := w) hX hB hC hO hb hlt hW hc hy hlo hhi h_44 (fun K a1 a2 a3 a4 => by refine R_iincN (n := 1) (L' := [(0, .ref 36), (1, .ref 14), (2, .int (nI c)), (3, .int (nI y)), (4, .int (nI (dR d 3))), (5, .int (nI lo)), (6, .int (nI hi)), (7, .int (nI (p + 1)))]) dX0_strikeVotes_134 rfl (by decide) (qs1 rfl (qs1 rfl (qs1 rfl (qs1 rfl (qs1 rfl (qs1 rfl (qs1 rfl (qs1 rfl qs0)))))))) ?_; refine R_goto (tgt := 35) dX0_strikeVotes_137 (by decide) ?_; exact ih (p + 1) K (by omega) (by omega) a1 a2 a3 a4) 19 lo K (by omega) (Nat.le_refl _) (by omega) kO kW k2 kf)
set_option maxRecDepth 100000 in
set_option maxHeartbeats 4000000 in
theorem c_stk {M : qMem} {d : dT} {P : pT} {B : Nat → Nat → Bool} (hX : XR 14 M d) (hB : dB d) (hC : CB M P) (hO : CO M P B) (hb : BB d P B) (hlt : ∀ p, p < P.length → pf P p ≠ ps P p) (hW : CV 80 M P B) {c y : Nat} (hc : c < 6) (hy : y < 16) (hY1 : 1 ≤ dY d) : qSem 0 mX0_strikeVotes [.ref 36, .ref 14, .int (nI c), .int (nI y)] M (fun v N => v = none ∧ CO N P (stk d P B c y) ∧ CV 80 N P (stk d P B c y) ∧ N.2 = M.2 ∧ (∀ o, (o < 44 ∨ (59 ≤ o ∧ o < 80) ∨ 86 ≤ o) → N.1 o = M.1 o)) := by
  have hP := hC.2.1
  have hW3 := hB.2.2.2.2.2.2.1
  have hY16 := hB.1
  refine qSem.of (by decide +kernel) (Nat.le_of_ble_eq_true rfl) (fun w => ?_)
  refine R_ls (L' := [(0, .ref 36), (1, .ref 14), (2, .int (nI c)), (3, .int (nI y))]) (qs1 rfl (qs1 rfl (qs1 rfl (qs1 rfl qs0)))) ?_
  refine R_aload_n dX0_strikeVotes_0 rfl ?_
  refine R_iconst (v := nI 3) dX0_strikeVotes_1 rfl ?_
  refine R_callV (mc := mX3_ruleOf) (As := [_]) (r := 14) dX0_strikeVotes_2 lm_RX0_83 mv_X3_ruleOf rfl (by decide) rfl rfl rfl rfl (Nat.le_of_ble_eq_true rfl) (c_ruleOf_14 (by omega)) ?_
  rintro _ _ ⟨rfl, rfl⟩
  refine R_top (y := nI (dR d 3)) (hX.2.2.2.2.2.2 3 (by omega)) ?_
  refine R_istore (L' := [(0, .ref 36), (1, .ref 14), (2, .int (nI c)), (3, .int (nI y)), (4, .int (nI (dR d 3)))]) dX0_strikeVotes_5 (by decide) (qs1 rfl (qs1 rfl (qs1 rfl (qs1 rfl (qs1 rfl qs0))))) ?_
  refine R_iconst (v := nI 0) dX0_strikeVotes_7 rfl ?_
  refine R_iload_n dX0_strikeVotes_8 rfl ?_
  refine R_iload dX0_strikeVotes_9 rfl ?_
  refine R_isub dX0_strikeVotes_11 ?_
  refine R_callS (mc := mJ9_max_7cf53) (As := [_, _]) dX0_strikeVotes_12 lm_RX0_118 mv_J9_max_7cf53 rfl rfl rfl (Nat.le_of_ble_eq_true rfl) c_max ?_
  rintro _ _ ⟨rfl, rfl⟩
  refine R_top (y := nI (y - dR d 3)) (q_lo (by omega) (by omega)) ?_
  refine R_istore (L' := [(0, .ref 36), (1, .ref 14), (2, .int (nI c)), (3, .int (nI y)), (4, .int (nI (dR d 3))), (5, .int (nI (y - dR d 3)))]) dX0_strikeVotes_15 (by decide) (qs1 rfl (qs1 rfl (qs1 rfl (qs1 rfl (qs1 rfl (qs1 rfl qs0)))))) ?_
  refine R_aload_n dX0_strikeVotes_17 rfl ?_
  refine R_callV (mc := mX3_years) (As := []) (r := 14) dX0_strikeVotes_18 lm_RX0_104 mv_X3_years rfl (by decide) rfl rfl rfl rfl (Nat.le_of_ble_eq_true rfl) c_years_14 ?_
  rintro _ _ ⟨rfl, rfl⟩
  refine R_top (y := nI (dY d)) hX.1 ?_
  refine R_iconst (v := nI 1) dX0_strikeVotes_21 rfl ?_
  refine R_isubN dX0_strikeVotes_22 hY1 ?_
  refine R_iload_n dX0_strikeVotes_23 rfl ?_
  refine R_iload dX0_strikeVotes_24 rfl ?_
  refine R_iaddN dX0_strikeVotes_26 ?_
  refine R_callS (mc := mJ9_min_7cf53) (As := [_, _]) dX0_strikeVotes_27 lm_RX0_123 mv_J9_min_7cf53 rfl rfl rfl (Nat.le_of_ble_eq_true rfl) c_min ?_
  rintro _ _ ⟨rfl, rfl⟩
  refine R_top (y := nI (min (dY d - 1) (y + dR d 3))) (q_hi (by omega) (by omega)) ?_
  refine R_istore (L' := [(0, .ref 36), (1, .ref 14), (2, .int (nI c)), (3, .int (nI y)), (4, .int (nI (dR d 3))), (5, .int (nI (y - dR d 3))), (6, .int (nI (min (dY d - 1) (y + dR d 3))))]) dX0_strikeVotes_30 (by decide) (qs1 rfl (qs1 rfl (qs1 rfl (qs1 rfl (qs1 rfl (qs1 rfl (qs1 rfl qs0))))))) ?_
  refine R_iconst (v := nI 0) dX0_strikeVotes_32 rfl ?_
  refine R_istore (L' := [(0, .ref 36), (1, .ref 14), (2, .int (nI c)), (3, .int (nI y)), (4, .int (nI (dR d 3))), (5, .int (nI (y - dR d 3))), (6, .int (nI (min (dY d - 1) (y + dR d 3)))), (7, .int (nI 0))]) dX0_strikeVotes_33 (by decide) (qs1 rfl (qs1 rfl (qs1 rfl (qs1 rfl (qs1 rfl (qs1 rfl (qs1 rfl (qs1 rfl qs0)))))))) ?_
  refine R_ls (L' := [(0, .ref 36), (1, .ref 14), (2, .int (nI c)), (3, .int (nI y)), (4, .int (nI (dR d 3))), (5, .int (nI (y - dR d 3))), (6, .int (nI (min (dY d - 1) (y + dR d 3)))), (7, .int (nI 0))]) (qs1 rfl (qs1 rfl (qs1 rfl (qs1 rfl (qs1 rfl (qs1 rfl (qs1 rfl (qs1 rfl qs0)))))))) ?_
  exact (l_stk1 hX hB hC hO hb hlt hW hc hy rfl rfl 18 0 M (by omega) (Nat.zero_le _) (by rw [stkT_0]; exact hO) (by rw [stkT_0]; exact hW) rfl (fun o ho => rfl))

-- ===== the pairs, the culprits =====
def plIn (d : dT) (u : Nat) : Nat → pT
  | 0 => []
  | v + 1 => plIn d u v ++ (if decide (u < v) && prb d u v then [(u, v)] else [])
def plTo (d : dT) : Nat → pT
  | 0 => []
  | u + 1 => plTo d u ++ plIn d u (dK d)
def tri (K : Nat) : Nat → Nat
  | 0 => 0
  | u + 1 => tri K u + (K - (u + 1))
theorem plIn_len (d : dT) (u : Nat) : ∀ v, (plIn d u v).length ≤ v - (u + 1)
  | 0 => by simp [plIn]
  | v + 1 => by
    have := plIn_len d u v
    unfold plIn
    rw [List.length_append]
    by_cases h : u < v
    · split <;> simp <;> omega
    · rw [if_neg (by simp [h])]; simp; omega
theorem plIn_0 (d : dT) (u : Nat) {v : Nat} (h : v ≤ u + 1) : plIn d u v = [] := List.eq_nil_of_length_eq_zero (by have := plIn_len d u v; omega)
theorem plTo_len (d : dT) : ∀ u, (plTo d u).length ≤ tri (dK d) u
  | 0 => Nat.le_refl 0
  | u + 1 => by
    have := plTo_len d u
    have h2 := plIn_len d u (dK d)
    unfold plTo tri
    rw [List.length_append]; omega
theorem tri_15 {K u v : Nat} (hK : K ≤ 6) (hu : u < K) (hv : v < K) (h : u < v) : tri K u + (v - (u + 1)) < 15 := by
  have key : ∀ K : Fin 7, ∀ u v : Fin 6, u.val < K.val → v.val < K.val → u.val < v.val → tri K.val u.val + (v.val - (u.val + 1)) < 15 := by decide +kernel
  exact key ⟨K, by omega⟩ ⟨u, by omega⟩ ⟨v, by omega⟩ hu hv h
theorem tri_15e {K : Nat} (hK : K ≤ 6) : tri K K ≤ 15 := by
  have key : ∀ K : Fin 7, tri K.val K.val ≤ 15 := by decide +kernel
  exact key ⟨K, by omega⟩
/-- every pair in the row is one -/
def plOk (d : dT) (P : pT) : Prop := ∀ p, p < P.length → pf P p < ps P p ∧ ps P p < dK d ∧ prb d (pf P p) (ps P p) = true
theorem plOk_nil (d : dT) : plOk d [] := fun p hp => absurd hp (Nat.not_lt_zero p)
theorem plOk_add {d : dT} {P : pT} {u v : Nat} (h : plOk d P) (h1 : u < v) (h2 : v < dK d) (h3 : prb d u v = true) : plOk d (P ++ [(u, v)]) := fun p hp => by
  rw [List.length_append] at hp
  rcases Nat.lt_or_ge p P.length with q | q
  · rw [(pf_app q).1, (pf_app q).2]; exact h p q
  · have e : p = P.length := by simp at hp; omega
    subst e; rw [pf_last.1, pf_last.2]; exact ⟨h1, h2, h3⟩
def bP (d : dT) (P : pT) : Nat → Nat → Bool := fun p t => brk d (pf P p) (ps P p) t
theorem pf_out {P : pT} {p : Nat} (h : P.length ≤ p) : pf P p = 0 ∧ ps P p = 0 := by
  simp [pf, ps, List.getD_eq_getElem?_getD, List.getElem?_eq_none h]
theorem bP_add (d : dT) (P : pT) (u v : Nat) : addB P (bP d P) (brk d u v) = bP d (P ++ [(u, v)]) := by
  funext p t
  unfold addB bP
  rcases Nat.lt_trichotomy p P.length with q | q | q
  · rw [if_neg (by omega), (pf_app q).1, (pf_app q).2]
  · subst q; rw [if_pos rfl, pf_last.1, pf_last.2]
  · rw [if_neg (by omega), (pf_out (by omega)).1, (pf_out (by omega)).2, (pf_out (P := P ++ [(u, v)]) (by simp; omega)).1, (pf_out (P := P ++ [(u, v)]) (by simp; omega)).2]
abbrev cT : Type := Nat × Nat × Nat × Int32
def culs (d : dT) (P : pT) : Nat → (Nat → Nat → Bool) → List cT
  | 0, _ => []
  | n + 1, B => match (fnd d (cnt P B)).2 with
    | none => []
    | some q => (q.1, q.2, (fnd d (cnt P B)).1, szF d P B q.1 q.2) :: culs d P n (stk d P B q.1 q.2)
def pL (d : dT) : pT := plTo d (dK d)
def cuL (d : dT) : List cT := culs d (pL d) 96 (bP d (pL d))
theorem culs_len (d : dT) (P : pT) : ∀ n B, (culs d P n B).length ≤ n
  | 0, _ => Nat.le_refl 0
  | n + 1, B => by
    unfold culs
    split
    · exact Nat.zero_le _
    · have := culs_len d P n
      simp only [List.length_cons]
      exact Nat.succ_le_succ (this _)
/-- the culprits' rows -/
def CF (N : qMem) (L : List cT) : Prop := ∀ i x, L[i]? = some x → N.1 86 i = nI x.1 ∧ N.1 87 i = nI x.2.1 ∧ N.1 88 i = nI x.2.2.1 ∧ N.1 89 i = x.2.2.2
def XCul (N : qMem) (d : dT) : Prop := N.1 36 9 = nI (cuL d).length ∧ CF N (cuL d) ∧ ∀ c t, c < dK d → t < dY d → N.1 (74 + c) t = nI (cnt (pL d) (bP d (pL d)) c t)
theorem BB_stk {d : dT} {P : pT} {B : Nat → Nat → Bool} {c y : Nat} (h : BB d P B) : BB d P (stk d P B c y) := fun p t hp ht => h p t hp (stk_iff.mp ht).1
theorem CF_add {N K : qMem} {L : List cT} {x : cT} (h : CF N L) (e : ∀ o j, 86 ≤ o → o < 90 → j < L.length → K.1 o j = N.1 o j) (h1 : K.1 86 L.length = nI x.1) (h2 : K.1 87 L.length = nI x.2.1) (h3 : K.1 88 L.length = nI x.2.2.1) (h4 : K.1 89 L.length = x.2.2.2) : CF K (L ++ [x]) := fun i y hy => by
  rcases Nat.lt_or_ge i L.length with q | q
  · rw [List.getElem?_append_left q] at hy
    rw [e 86 i (by omega) (by omega) q, e 87 i (by omega) (by omega) q, e 88 i (by omega) (by omega) q, e 89 i (by omega) (by omega) q]
    exact h i y hy
  · rw [List.getElem?_append_right q] at hy
    have hz : i - L.length < 1 := (List.getElem?_eq_some_iff.mp hy).1
    have e : i = L.length := by omega
    subst e
    rw [Nat.sub_self] at hy
    cases hy
    exact ⟨h1, h2, h3, h4⟩
theorem CB.mv3 {M N : qMem} {P : pT} {x : Int32} (h : CB M P) (e : ∀ o, (o < 44 ∨ (59 ≤ o ∧ o < 80) ∨ 86 ≤ o) → N.1 o = M.1 o) : CB (qIs N 36 9 x) P := ⟨by rw [qIs_nk (by decide), e 36 (by omega)]; exact h.1, h.2.1, fun p hp => by rw [qIs_no (by decide), qIs_no (by decide), e 37 (by omega), e 38 (by omega)]; exact h.2.2 p hp⟩
set_option maxRecDepth 100000 in
set_option maxHeartbeats 4000000 in
theorem l_rf3 {w : qWT} {M : qMem} {d : dT} (hX : XR 14 M d) (hB : dB d) (hY1 : 1 ≤ dY d) : ∀ (fu : Nat) (L : List cT) (B : Nat → Nat → Bool) (K : qMem), (97 - L.length) < fu → (L.length ≤ 96) → (qOff oCu M K) → (CB K (pL d)) → (CO K (pL d) B) → (CH K (pL d) d) → (BB d (pL d) B) → (CV 74 K (pL d) (bP d (pL d))) → (CV 80 K (pL d) B) → (CF K L) → (K.1 36 9 = nI L.length) → (K.1 36 1 = M.1 14 7) → (XZ_c K) → (L ++ culs d (pL d) (96 - L.length) B = cuL d) → (∀ p, p < (pL d).length → pf (pL d) p ≠ ps (pL d) p) → qRW 0 w mX0_refresh 74 [(0, .ref 36), (1, .ref 14)] [] K (fun v N => v = none ∧ XCul N d ∧ N.1 36 1 = M.1 14 7 ∧ XZ_c N ∧ qOff oCu M N) := by
  intro fu
  induction fu with
  | zero => intro L B K hn; exact absurd hn (Nat.not_lt_zero _)
  | succ fu ih =>
    intro L B K hn hn96 hO hC kO kH kB kV kW hL h11 h3 hZ hc hlp
    have hK6 := hB.2.1
    have hY16 := hB.1
    have hXK : XR 14 K d := hX.off hK6 (fun o h1 h2 => (hO o (by unfold oCu; omega)).1)
    refine R_aload_n dX0_refresh_74 rfl ?_
    refine R_getI dX0_refresh_75 (lf_RX0_67).get (by decide) rfl rfl ?_
    refine R_top (y := nI L.length) h11 ?_
    refine R_bipush (v := nI 96) dX0_refresh_78 rfl ?_
    refine R_icmp_geN (tgt := 131) dX0_refresh_80 (by decide) (by omega) (by omega) (fun h_94 => ?_) (fun h_94 => ?_)
    · refine R_return dX0_refresh_131 rfl ?_
      have e : L.length = 96 := by omega
      have e2 : L = cuL d := by rw [← hc, e]; simp [culs]
      rw [e2] at hL h11
      exact ⟨rfl, ⟨h11, hL, fun c t h1 h2 => kV c t (by omega) (by omega)⟩, h3, hZ, hO⟩
    · refine R_aload_n dX0_refresh_83 rfl ?_
      refine R_aload_n dX0_refresh_84 rfl ?_
      refine R_callV (mc := mX0_findCulprit) (As := [_]) (r := 36) dX0_refresh_85 lm_RX0_70 mv_X0_findCulprit rfl (by decide) rfl rfl rfl rfl (Nat.le_of_ble_eq_true rfl) (c_fnd hXK hB hC kO kH kB kW h_94 h11) ?_
      rintro _ _ (⟨hf, rfl, f2, f3, f4⟩ | ⟨q, hf, rfl, f1, f2, f3, f4, f5, f6, f7⟩)
      · refine R_if_eqN (tgt := 131) dX0_refresh_88 (by decide) (by omega) (fun h_101 => ?_) (fun h_101 => by exact absurd h_101 (by decide))
        refine R_return dX0_refresh_131 rfl ?_
        have e2 : L = cuL d := by rw [← hc, show 96 - L.length = (95 - L.length) + 1 by omega, culs, hf]; simp
        rw [e2] at hL h11 h_94 f3
        rename_i N2
        exact ⟨rfl, ⟨by rw [f2 36 (by omega) (by omega)]; exact h11, fun i x hi => by have hi2 := (List.getElem?_eq_some_iff.mp hi).1; rw [(f3 i (by omega)).1, (f3 i (by omega)).2, f2 88 (by omega) (by omega), f2 89 (by omega) (by omega)]; exact hL i x hi, fun c t h1 h2 => by rw [f2 (74 + c) (by omega) (by omega)]; exact kV c t (by omega) (by omega)⟩, by rw [f2 36 (by omega) (by omega)]; exact h3, by unfold XZ_c; rw [f4]; exact hZ, fun o ho => ⟨by have h9 : ¬ ((36 ≤ o ∧ o < 90) ∨ (106 ≤ o ∧ o < 117)) := ho; rw [f2 o (by omega) (by omega)]; exact (hO o ho).1, by rw [f4]; exact (hO o ho).2⟩⟩
      · rename_i K2
        have hfo : fOk (dK d) (dY d) (fnd d (cnt (pL d) B)).2 := fAl_ok (fun q hq => (by cases hq)) (dK d) (Nat.le_refl _)
        have hqo := hfo q hf
        refine R_if_eqN (tgt := 131) dX0_refresh_88 (by decide) (by omega) (fun h_101 => by exact absurd h_101 (by decide)) (fun h_101 => ?_)
        refine R_aload_n dX0_refresh_91 rfl ?_
        refine R_aload_n dX0_refresh_92 rfl ?_
        refine R_aload_n dX0_refresh_93 rfl ?_
        refine R_getR dX0_refresh_94 lg_RX0_45 (by decide) rfl rfl ?_
        refine R_iconst (v := nI 0) dX0_refresh_97 rfl ?_
        refine R_aald3C (r := 86) dX0_refresh_98 (by decide) rfl (by decide) (by decide) rfl ?_
        refine R_aload_n dX0_refresh_99 rfl ?_
        refine R_getI dX0_refresh_100 (lf_RX0_67).get (by decide) rfl rfl ?_
        refine R_top (y := nI L.length) (by rw [f5 36 (by omega)]; exact h11) ?_
        refine R_ialdN dX0_refresh_103 (by decide) rfl (by omega) (by decide) ?_
        refine R_top (y := nI q.1) f1 ?_
        refine R_aload_n dX0_refresh_104 rfl ?_
        refine R_getR dX0_refresh_105 lg_RX0_45 (by decide) rfl rfl ?_
        refine R_iconst (v := nI 1) dX0_refresh_108 rfl ?_
        refine R_aald3C (r := 87) dX0_refresh_109 (by decide) rfl (by decide) (by decide) rfl ?_
        refine R_aload_n dX0_refresh_110 rfl ?_
        refine R_getI dX0_refresh_111 (lf_RX0_67).get (by decide) rfl rfl ?_
        refine R_top (y := nI L.length) (by rw [f5 36 (by omega)]; exact h11) ?_
        refine R_ialdN dX0_refresh_114 (by decide) rfl (by omega) (by decide) ?_
        refine R_top (y := nI q.2) f2 ?_
        refine R_callV (mc := mX0_strikeVotes) (As := [_, _, _]) (r := 36) dX0_refresh_115 lm_RX0_74 mv_X0_strikeVotes rfl (by decide) rfl rfl rfl rfl (Nat.le_of_ble_eq_true rfl) (c_stk (hXK.off hK6 (fun o h1 h2 => f5 o (by omega))) hB (hC.mv (fun o h1 h2 => f5 o (by omega))) (kO.mv hC (fun o h1 h2 => f5 o (by omega))) kB hlp (kW.mv (fun c hc => f5 (80 + c) (by omega))) (c := q.1) (y := q.2) (by omega) (by omega) hY1) ?_
        rintro _ _ ⟨rfl, s1, s2, s3, s4⟩
        rename_i K3
        refine R_aload_n dX0_refresh_118 rfl ?_
        refine R_dup dX0_refresh_119 rfl ?_
        refine R_getI dX0_refresh_120 (lf_RX0_67).get (by decide) rfl rfl ?_
        refine R_top (y := nI L.length) (by rw [s4 36 (by omega), f5 36 (by omega)]; exact h11) ?_
        refine R_iconst (v := nI 1) dX0_refresh_123 rfl ?_
        refine R_iaddN dX0_refresh_124 ?_
        refine R_putI dX0_refresh_125 lf_RX0_67 (by decide) rfl rfl rfl rfl ?_
        refine R_goto (tgt := 74) dX0_refresh_128 (by decide) ?_
        refine R_ls (L' := [(0, .ref 36), (1, .ref 14)]) (qs1 rfl (qs1 rfl qs0)) ?_
        exact (by have hl : (L ++ [(q.1, q.2, (fnd d (cnt (pL d) B)).1, szF d (pL d) B q.1 q.2)]).length = L.length + 1 := (by simp); have hb : ∀ o, (o < 36 ∨ 90 ≤ o) → ¬ (106 ≤ o ∧ o < 117) → K3.1 o = M.1 o := (fun o ho ho2 => by rw [s4 o (by omega), f5 o (by omega)]; exact (hO o (by unfold oCu; omega)).1); refine ih (L ++ [(q.1, q.2, (fnd d (cnt (pL d) B)).1, szF d (pL d) B q.1 q.2)]) (stk d (pL d) B q.1 q.2) _ (by rw [hl]; omega) (by rw [hl]; omega) ?_ ?_ ?_ ?_ (BB_stk kB) ?_ ?_ ?_ ?_ ?_ ?_ ?_ hlp; exact fun o ho => ⟨by have h9 : ¬ ((36 ≤ o ∧ o < 90) ∨ (106 ≤ o ∧ o < 117)) := ho; rw [qIs_no (by omega)]; exact hb o (by omega) (by omega), by rw [qIs_2, s3, f7]; exact (hO o ho).2⟩; exact (hC.mv (fun o h1 h2 => f5 o (by omega))).mv3 s4; exact fun p t hp ht => (by have := hC.2.1; rw [qIs_no (by omega)]; exact s1 p t hp ht); exact fun p t hp ht hb => (by rw [qIs_2, s3, f7]; exact kH p t hp ht hb); exact fun c t hc ht => (by rw [qIs_no (by omega), s4 (74 + c) (by omega), f5 (74 + c) (by omega)]; exact kV c t hc ht); exact fun c t hc ht => (by rw [qIs_no (by omega)]; exact s2 c t hc ht); exact CF_add hL (fun o j h1 h2 hj => by rw [qIs_no (by omega), s4 o (by omega), f6 o j (by omega)]) (by rw [qIs_no (by omega), s4 86 (by omega)]; exact f1) (by rw [qIs_no (by omega), s4 87 (by omega)]; exact f2) (by rw [qIs_no (by omega), s4 88 (by omega)]; exact f3) (by rw [qIs_no (by omega), s4 89 (by omega)]; exact f4); rw [qIs_eq, hl]; (rw [qIs_nk (by omega), s4 36 (by omega), f5 36 (by omega)]; exact h3); (unfold XZ_c; rw [qIs_2, s3, f7]; exact hZ); (rw [hl, ← hc, List.append_assoc]; congr 1; rw [show 96 - L.length = (96 - (L.length + 1)) + 1 by omega, culs, hf]; rfl))

set_option maxRecDepth 100000 in
set_option maxHeartbeats 4000000 in
theorem l_rf2 {w : qWT} {M : qMem} {d : dT} (hX : XR 14 M d) (hB : dB d) (hY1 : 1 ≤ dY d) {u : Nat} (hu : u < dK d) (hk : ∀ K : qMem, (qOff oCu M K) → (CA K d (plTo d (u + 1)) (bP d (plTo d (u + 1)))) → (XZ_c K) → (K.1 36 1 = M.1 14 7) → (K.1 36 9 = nI 0) → (plOk d (plTo d (u + 1))) →  qRW 0 w mX0_refresh 68 [(0, .ref 36), (1, .ref 14), (2, .int (nI u))] [] K (fun v N => v = none ∧ XCul N d ∧ N.1 36 1 = M.1 14 7 ∧ XZ_c N ∧ qOff oCu M N)) : ∀ (fu : Nat) (v : Nat) (K : qMem), (dK d + 1 - v) < fu → (v ≤ dK d) → (u < v) → (qOff oCu M K) → (CA K d (plTo d u ++ plIn d u v) (bP d (plTo d u ++ plIn d u v))) → (XZ_c K) → (K.1 36 1 = M.1 14 7) → (K.1 36 9 = nI 0) → (plOk d (plTo d u ++ plIn d u v)) → qRW 0 w mX0_refresh 38 [(0, .ref 36), (1, .ref 14), (2, .int (nI u)), (3, .int (nI v))] [] K (fun v N => v = none ∧ XCul N d ∧ N.1 36 1 = M.1 14 7 ∧ XZ_c N ∧ qOff oCu M N) := by
  intro fu
  induction fu with
  | zero => intro v K hn; exact absurd hn (Nat.not_lt_zero _)
  | succ fu ih =>
    intro v K hn hv huv hO hA hZ h3 h11 hpl
    have hK6 := hB.2.1
    have hXK : XR 14 K d := hX.off hK6 (fun o h1 h2 => (hO o (by unfold oCu; omega)).1)
    refine R_iload_n dX0_refresh_38 rfl ?_
    refine R_aload_n dX0_refresh_39 rfl ?_
    refine R_callV (mc := mX3_stations) (As := []) (r := 14) dX0_refresh_40 lm_RX0_56 mv_X3_stations rfl (by decide) rfl rfl rfl rfl (Nat.le_of_ble_eq_true rfl) c_stations_14 ?_
    rintro _ _ ⟨rfl, rfl⟩
    refine R_top (y := nI (dK d)) hXK.2.1 ?_
    refine R_icmp_geN (tgt := 68) dX0_refresh_43 (by decide) (by omega) (by omega) (fun h_55 => ?_) (fun h_55 => ?_)
    · have e : v = dK d := by omega
      subst e
      refine R_ls (L' := [(0, .ref 36), (1, .ref 14), (2, .int (nI u))]) (qs1 rfl (qs1 rfl (qs1 rfl qs0))) ?_
      exact hk K hO hA hZ h3 h11 hpl
    · refine R_aload_n dX0_refresh_46 rfl ?_
      refine R_iload_n dX0_refresh_47 rfl ?_
      refine R_iload_n dX0_refresh_48 rfl ?_
      refine R_callV (mc := mX3_arePair) (As := [_, _]) (r := 14) dX0_refresh_49 lm_RX0_59 mv_X3_arePair rfl (by decide) rfl rfl rfl rfl (Nat.le_of_ble_eq_true rfl) (c_arePair hXK hB (by omega) (by omega)) ?_
      rintro _ _ ⟨rfl, ⟨rfl, hp⟩ | ⟨rfl, hp⟩⟩
      · refine R_if_eqN (tgt := 62) dX0_refresh_52 (by decide) (by omega) (fun h_67 => by exact absurd h_67 (by decide)) (fun h_67 => ?_)
        refine R_aload_n dX0_refresh_55 rfl ?_
        refine R_aload_n dX0_refresh_56 rfl ?_
        refine R_iload_n dX0_refresh_57 rfl ?_
        refine R_iload_n dX0_refresh_58 rfl ?_
        refine R_callV (mc := mX0_addPair) (As := [_, _, _]) (r := 36) dX0_refresh_59 lm_RX0_63 mv_X0_addPair rfl (by decide) rfl rfl rfl rfl (Nat.le_of_ble_eq_true rfl) (c_addPair hXK hB (by omega) (by omega) huv (by rw [List.length_append]; have q1 := plTo_len d u; have q2 := plIn_len d u v; have q3 := tri_15 hK6 (u := u) (v := v) (by omega) (by omega) huv; omega) hA hZ) ?_
        rintro _ _ ⟨rfl, hA2, hZ2, hO2, h32, h112⟩
        refine R_iincN (n := 1) (L' := [(0, .ref 36), (1, .ref 14), (2, .int (nI u)), (3, .int (nI (v + 1)))]) dX0_refresh_62 rfl (by decide) (qs1 rfl (qs1 rfl (qs1 rfl (qs1 rfl qs0)))) ?_
        refine R_goto (tgt := 38) dX0_refresh_65 (by decide) ?_
        refine R_ls (L' := [(0, .ref 36), (1, .ref 14), (2, .int (nI u)), (3, .int (nI (v + 1)))]) (qs1 rfl (qs1 rfl (qs1 rfl (qs1 rfl qs0)))) ?_
        exact (by have e : plIn d u (v + 1) = plIn d u v ++ (if decide (u < v) && prb d u v then [(u, v)] else []) := rfl; first | (rw [decide_eq_true huv, hp, Bool.true_and, if_pos rfl] at e; refine ih (v + 1) _ (by omega) (by omega) (by omega) (hO.tr hO2) ?_ hZ2 (h32.trans h3) (h112.trans h11) ?_ <;> rw [e, ← List.append_assoc] <;> first | (rw [← bP_add]; exact hA2) | exact plOk_add hpl huv (by omega) hp) | (rw [Bool.eq_false_iff.mpr hp, Bool.and_false, if_neg (by decide), List.append_nil] at e; refine ih (v + 1) _ (by omega) (by omega) (by omega) hO ?_ hZ h3 h11 ?_ <;> rw [e] <;> assumption))
      · refine R_if_eqN (tgt := 62) dX0_refresh_52 (by decide) (by omega) (fun h_67 => ?_) (fun h_67 => by exact absurd h_67 (by decide))
        refine R_iincN (n := 1) (L' := [(0, .ref 36), (1, .ref 14), (2, .int (nI u)), (3, .int (nI (v + 1)))]) dX0_refresh_62 rfl (by decide) (qs1 rfl (qs1 rfl (qs1 rfl (qs1 rfl qs0)))) ?_
        refine R_goto (tgt := 38) dX0_refresh_65 (by decide) ?_
        refine R_ls (L' := [(0, .ref 36), (1, .ref 14), (2, .int (nI u)), (3, .int (nI (v + 1)))]) (qs1 rfl (qs1 rfl (qs1 rfl (qs1 rfl qs0)))) ?_
        exact (by have e : plIn d u (v + 1) = plIn d u v ++ (if decide (u < v) && prb d u v then [(u, v)] else []) := rfl; first | (rw [decide_eq_true huv, hp, Bool.true_and, if_pos rfl] at e; refine ih (v + 1) _ (by omega) (by omega) (by omega) (hO.tr hO2) ?_ hZ2 (h32.trans h3) (h112.trans h11) ?_ <;> rw [e, ← List.append_assoc] <;> first | (rw [← bP_add]; exact hA2) | exact plOk_add hpl huv (by omega) hp) | (rw [Bool.eq_false_iff.mpr hp, Bool.and_false, if_neg (by decide), List.append_nil] at e; refine ih (v + 1) _ (by omega) (by omega) (by omega) hO ?_ hZ h3 h11 ?_ <;> rw [e] <;> assumption))
set_option maxRecDepth 100000 in
set_option maxHeartbeats 4000000 in
theorem l_rf1 {w : qWT} {M : qMem} {d : dT} (hX : XR 14 M d) (hB : dB d) (hY1 : 1 ≤ dY d) : ∀ (fu : Nat) (u : Nat) (K : qMem), (dK d + 1 - u) < fu → (u ≤ dK d) → (qOff oCu M K) → (CA K d (plTo d u) (bP d (plTo d u))) → (XZ_c K) → (K.1 36 1 = M.1 14 7) → (K.1 36 9 = nI 0) → (plOk d (plTo d u)) → qRW 0 w mX0_refresh 26 [(0, .ref 36), (1, .ref 14), (2, .int (nI u))] [] K (fun v N => v = none ∧ XCul N d ∧ N.1 36 1 = M.1 14 7 ∧ XZ_c N ∧ qOff oCu M N) := by
  intro fu
  induction fu with
  | zero => intro u K hn; exact absurd hn (Nat.not_lt_zero _)
  | succ fu ih =>
    intro u K hn hu hO hA hZ h3 h11 hpl
    have hK6 := hB.2.1
    have hXK : XR 14 K d := hX.off hK6 (fun o h1 h2 => (hO o (by unfold oCu; omega)).1)
    refine R_iload_n dX0_refresh_26 rfl ?_
    refine R_aload_n dX0_refresh_27 rfl ?_
    refine R_callV (mc := mX3_stations) (As := []) (r := 14) dX0_refresh_28 lm_RX0_56 mv_X3_stations rfl (by decide) rfl rfl rfl rfl (Nat.le_of_ble_eq_true rfl) c_stations_14 ?_
    rintro _ _ ⟨rfl, rfl⟩
    refine R_top (y := nI (dK d)) hXK.2.1 ?_
    refine R_icmp_geN (tgt := 74) dX0_refresh_31 (by decide) (by omega) (by omega) (fun h_40 => ?_) (fun h_40 => ?_)
    · have e : u = dK d := by omega
      subst e
      refine R_ls (L' := [(0, .ref 36), (1, .ref 14)]) (qs1 rfl (qs1 rfl qs0)) ?_
      exact l_rf3 hX hB hY1 98 [] (bP d (pL d)) K (by decide) (by decide) hO hA.1 hA.2.1 hA.2.2.2.1 (fun p t hp ht => ht) hA.2.2.2.2.1 hA.2.2.2.2.2 (fun i x hi => by simp at hi) h11 h3 hZ rfl (fun p hp => Nat.ne_of_lt (hpl p hp).1)
    · refine R_iload_n dX0_refresh_34 rfl ?_
      refine R_iconst (v := nI 1) dX0_refresh_35 rfl ?_
      refine R_iaddN dX0_refresh_36 ?_
      refine R_istore_n (L' := [(0, .ref 36), (1, .ref 14), (2, .int (nI u)), (3, .int (nI (u + 1)))]) dX0_refresh_37 (by decide) (qs1 rfl (qs1 rfl (qs1 rfl (qs1 rfl qs0)))) ?_
      refine R_ls (L' := [(0, .ref 36), (1, .ref 14), (2, .int (nI u)), (3, .int (nI (u + 1)))]) (qs1 rfl (qs1 rfl (qs1 rfl (qs1 rfl qs0)))) ?_
      exact (l_rf2 (w := w) hX hB hY1 (u := u) (by omega) (fun K a1 a2 a3 a4 a5 a6 => by refine R_iincN (n := 1) (L' := [(0, .ref 36), (1, .ref 14), (2, .int (nI (u + 1)))]) dX0_refresh_68 rfl (by decide) (qs1 rfl (qs1 rfl (qs1 rfl qs0))) ?_; refine R_goto (tgt := 26) dX0_refresh_71 (by decide) ?_; exact ih (u + 1) K (by omega) (by omega) a1 a2 a3 a4 a5 a6) (dK d + 2) (u + 1) K (by omega) (by omega) (by omega) hO (by rw [plIn_0 d u (Nat.le_refl _), List.append_nil]; exact hA) hZ h3 h11 (by rw [plIn_0 d u (Nat.le_refl _), List.append_nil]; exact hpl))
set_option maxRecDepth 100000 in
set_option maxHeartbeats 4000000 in
theorem c_refresh {M : qMem} {d : dT} (hX : XR 14 M d) (hB : dB d) (hY1 : 1 ≤ dY d) (hZ : XZ_c M) (hcache : M.1 36 1 = M.1 14 7 → XCul M d) : qSem 0 mX0_refresh [.ref 36, .ref 14] M (fun v N => v = none ∧ XCul N d ∧ N.1 36 1 = M.1 14 7 ∧ XZ_c N ∧ qOff oCu M N) := by
  have hK6 := hB.2.1
  refine qSem.of (by decide +kernel) (Nat.le_of_ble_eq_true rfl) (fun w => ?_)
  refine R_ls (L' := [(0, .ref 36), (1, .ref 14)]) (qs1 rfl (qs1 rfl qs0)) ?_
  refine R_aload_n dX0_refresh_0 rfl ?_
  refine R_getI dX0_refresh_1 (lf_RX0_18).get (by decide) rfl rfl ?_
  refine R_aload_n dX0_refresh_4 rfl ?_
  refine R_callV (mc := mX3_version) (As := []) (r := 14) dX0_refresh_5 lm_RX0_48 mv_X3_version rfl (by decide) rfl rfl rfl rfl (Nat.le_of_ble_eq_true rfl) c_version_14 ?_
  rintro _ _ ⟨rfl, rfl⟩
  refine R_icmp_ne (tgt := 12) dX0_refresh_8 (by decide) (fun h_11 => ?_) (fun h_11 => ?_)
  · refine R_aload_n dX0_refresh_12 rfl ?_
    refine R_aload_n dX0_refresh_13 rfl ?_
    refine R_callV (mc := mX3_version) (As := []) (r := 14) dX0_refresh_14 lm_RX0_48 mv_X3_version rfl (by decide) rfl rfl rfl rfl (Nat.le_of_ble_eq_true rfl) c_version_14 ?_
    rintro _ _ ⟨rfl, rfl⟩
    refine R_putI dX0_refresh_17 lf_RX0_18 (by decide) rfl rfl rfl rfl ?_
    refine R_aload_n dX0_refresh_20 rfl ?_
    refine R_callV (mc := mX0_clear) (As := []) (r := 36) dX0_refresh_21 lm_RX0_53 mv_X0_clear rfl (by decide) rfl rfl rfl rfl (Nat.le_of_ble_eq_true rfl) c_cclear ?_
    rintro _ _ ⟨rfl, k12, f11, f4, f3, hO, h2, hs⟩
    rename_i K1
    refine R_iconst (v := nI 0) dX0_refresh_24 rfl ?_
    refine R_istore_n (L' := [(0, .ref 36), (1, .ref 14), (2, .int (nI 0))]) dX0_refresh_25 (by decide) (qs1 rfl (qs1 rfl (qs1 rfl qs0))) ?_
    refine R_ls (L' := [(0, .ref 36), (1, .ref 14), (2, .int (nI 0))]) (qs1 rfl (qs1 rfl (qs1 rfl qs0))) ?_
    exact (by have hM : ∀ o, o ≠ 36 → (qIs M 36 1 (M.1 14 7)).1 o = M.1 o := (fun o ho => qIs_no ho); have hO2 : qOff oCu M K1 := (qOff.is qOff.rf (by unfold oCu; omega)).tr hO; refine l_rf1 hX hB hY1 (dK d + 2) 0 K1 (by omega) (Nat.zero_le _) hO2 ⟨⟨f4, Nat.zero_le _, fun p hp => absurd hp (Nat.not_lt_zero p)⟩, fun p t hp => absurd hp (Nat.not_lt_zero p), fun p t h1 h2 h3 => k12.1 p t h2 h3, fun p t hp => absurd hp (Nat.not_lt_zero p), fun c t hc ht => (k12.2 c t hc ht).1, fun c t hc ht => (k12.2 c t hc ht).2⟩ (by unfold XZ_c; rw [h2]; exact hZ) (by rw [f3, qIs_eq]) f11 (plOk_nil d))
  · refine R_return dX0_refresh_11 rfl ?_
    exact ⟨rfl, hcache h_11, h_11, hZ, qOff.rf⟩
