
-- ===== the model: all culprits =====
theorem fIn_val {f : Nat → Nat → Nat} {c : Nat} {s : Nat × Option (Nat × Nat)} (hs : ∀ q, s.2 = some q → s.1 = f q.1 q.2 ∧ 0 < s.1) : ∀ n q, (fIn f c s n).2 = some q → (fIn f c s n).1 = f q.1 q.2 ∧ 0 < (fIn f c s n).1
  | 0, q, h => hs q h
  | n + 1, q, h => by
    have e : fIn f c s (n + 1) = if (fIn f c s n).1 < f c n then (f c n, some (c, n)) else fIn f c s n := rfl
    rw [e] at h ⊢
    split at h
    · rename_i h1; rw [if_pos h1]; cases h; exact ⟨rfl, Nat.lt_of_le_of_lt (Nat.zero_le _) h1⟩
    · rename_i h1; rw [if_neg h1]; exact fIn_val hs n q h
theorem fAl_val {f : Nat → Nat → Nat} {Y : Nat} {s : Nat × Option (Nat × Nat)} (hs : ∀ q, s.2 = some q → s.1 = f q.1 q.2 ∧ 0 < s.1) : ∀ n q, (fAl f Y s n).2 = some q → (fAl f Y s n).1 = f q.1 q.2 ∧ 0 < (fAl f Y s n).1
  | 0, q, h => hs q h
  | n + 1, q, h => fIn_val (fun q h => fAl_val hs n q h) Y q h
def oC (x : Option (Nat × Nat)) : Int32 := match x with
  | none => -4
  | some q => nI q.1
def oT (x : Option (Nat × Nat)) : Int32 := match x with
  | none => -4
  | some q => nI q.2
theorem oC_4 {x : Option (Nat × Nat)} (h : ∀ q, x = some q → q.1 < 1000) : oC x = -4 ↔ x = none := by
  cases x with
  | none => exact ⟨fun _ => rfl, fun _ => rfl⟩
  | some q =>
    refine ⟨fun e => ?_, fun e => by cases e⟩
    have h1 := congrArg Int32.toInt e
    have h2 := h q rfl
    rw [show oC (some q) = nI q.1 from rfl, nI_toInt (by omega)] at h1
    have h3 : ((-4 : Int32)).toInt = -4 := rfl
    omega
theorem pL_15 {d : dT} (hB : dB d) : (pL d).length ≤ 15 := Nat.le_trans (plTo_len d (dK d)) (tri_15e hB.2.1)
def MFx (K : qMem) (d : dT) (i : Nat) (x : cT) : Prop := K.1 16 i = nI x.1 ∧ K.1 17 i = nI x.2.1 ∧ K.1 18 i = nI x.2.2.1 ∧ ∃ f, K.1 19 i = nI (wm f (dK d)) ∧ (∀ q, f q = true → q ≠ x.1) ∧ x.2.2.2 = rmean (zS d f x.1 x.2.1 (dK d)) x.2.2.1 ∧ 1 ≤ x.2.2.1 ∧ x.2.2.1 ≤ 6
def MCul (K : qMem) (d : dT) : Prop := K.1 0 25 = nI (cuL d).length ∧ BW K 14 d (Fb d) ∧ ∀ i x, (cuL d)[i]? = some x → MFx K d i x
theorem MFx.off {K N : qMem} {d : dT} {i : Nat} {x : cT} (h : MFx K d i x) (e : ∀ o, 16 ≤ o → o < 20 → N.1 o i = K.1 o i) : MFx N d i x := by
  obtain ⟨h1, h2, h3, f, h4, h5⟩ := h
  exact ⟨by rw [e 16 (by omega) (by omega)]; exact h1, by rw [e 17 (by omega) (by omega)]; exact h2, by rw [e 18 (by omega) (by omega)]; exact h3, f, by rw [e 19 (by omega) (by omega)]; exact h4, h5⟩
theorem MCul.off {K N : qMem} {d : dT} (h : MCul K d) (e0 : N.1 0 25 = K.1 0 25) (e : ∀ o, 14 ≤ o → o < 20 → N.1 o = K.1 o) : MCul N d :=
  ⟨by rw [e0]; exact h.1, h.2.1.off (e 14 (by omega) (by omega)), fun i x hi => (h.2.2 i x hi).off (fun o a b => by rw [e o (by omega) b])⟩
set_option maxRecDepth 100000 in
set_option maxHeartbeats 4000000 in
theorem m_kn2 {w : qWT} {K : qMem} {Q : qQ} {d : dT} (hX : MR K d) (hB : dB d) (hY4 : 4 ≤ dY d) {B : Nat → Nat → Bool} {F : Nat → Nat → Nat → Bool} (hR : RB d B F) (hF : BW K 15 d F) {c : Nat} (hc : c < dK d) (hk : qRW 1 w mX8_know 108 [(0, .ref 0), (1, .int (nI 1)), (2, .int (nI ((fAl (cnt (pL d) B) (dY d) (dR d 2 - 1, none) (c + 1)).1))), (3, .int (oC (fAl (cnt (pL d) B) (dY d) (dR d 2 - 1, none) (c + 1)).2)), (4, .int (oT (fAl (cnt (pL d) B) (dY d) (dR d 2 - 1, none) (c + 1)).2)), (5, .int (nI c))] [] K Q) : ∀ (fu : Nat) (t : Nat), (dY d + 1 - t) < fu → (t ≤ dY d) → qRW 1 w mX8_know 60 [(0, .ref 0), (1, .int (nI 1)), (2, .int (nI ((fIn (cnt (pL d) B) c (fAl (cnt (pL d) B) (dY d) (dR d 2 - 1, none) c) t).1))), (3, .int (oC (fIn (cnt (pL d) B) c (fAl (cnt (pL d) B) (dY d) (dR d 2 - 1, none) c) t).2)), (4, .int (oT (fIn (cnt (pL d) B) c (fAl (cnt (pL d) B) (dY d) (dR d 2 - 1, none) c) t).2)), (5, .int (nI c)), (6, .int (nI t))] [] K Q := by
  intro fu
  induction fu with
  | zero => intro t hn; exact absurd hn (Nat.not_lt_zero _)
  | succ fu ih =>
    intro t hn ht
    have hK6 := hB.2.1
    have hY16 := hB.1
    have h15 := pL_15 hB
    have hs15 := fAl_b (f := (cnt (pL d) B)) (Y := dY d) (s := (dR d 2 - 1, none)) (fun a b => cnt_15 h15 a b) (by have := hB.2.2.2.2.2.1; show dR d 2 - 1 ≤ 15; omega)
    have hi15 := fIn_b (f := (cnt (pL d) B)) (c := c) (s := fAl (cnt (pL d) B) (dY d) (dR d 2 - 1, none) c) (fun a b => cnt_15 h15 a b) (hs15 c) t
    have hct := cnt_15 (B := B) h15 c t
    have hW6 := wm_lt (wF F c t) (dK d)
    have hp6 : 2 ^ dK d ≤ 2 ^ 6 := Nat.pow_le_pow_right (by decide) hK6
    refine R_iload dX8_know_60 rfl ?_
    refine R_aload_n dX8_know_62 rfl ?_
    refine R_getI dX8_know_63 (lf_RX8_151).get (by decide) rfl rfl ?_
    refine R_top (y := nI (dY d)) hX.1.2.1 ?_
    refine R_icmp_geN (tgt := 108) dX8_know_66 (by decide) (by omega) (by omega) (fun h_66 => ?_) (fun h_66 => ?_)
    · refine R_ls (L' := [(0, .ref 0), (1, .int (nI 1)), (2, .int (nI ((fIn (cnt (pL d) B) c (fAl (cnt (pL d) B) (dY d) (dR d 2 - 1, none) c) t).1))), (3, .int (oC (fIn (cnt (pL d) B) c (fAl (cnt (pL d) B) (dY d) (dR d 2 - 1, none) c) t).2)), (4, .int (oT (fIn (cnt (pL d) B) c (fAl (cnt (pL d) B) (dY d) (dR d 2 - 1, none) c) t).2)), (5, .int (nI c))]) (qs1 rfl (qs1 rfl (qs1 rfl (qs1 rfl (qs1 rfl (qs1 rfl qs0)))))) ?_
      have e : t = dY d := by omega
      subst e
      exact hk
    · refine R_aload_n dX8_know_69 rfl ?_
      refine R_aload_n dX8_know_70 rfl ?_
      refine R_getR dX8_know_71 lg_RX8_53 (by decide) rfl rfl ?_
      refine R_iload dX8_know_74 rfl ?_
      refine R_iload dX8_know_76 rfl ?_
      refine R_callV (mc := mX8_withWhom) (As := [_, _, _]) (r := 0) dX8_know_78 lm_RX8_256 mv_X8_withWhom rfl (by decide) rfl rfl rfl rfl (Nat.le_of_ble_eq_true rfl) (m_with15 hX hB hF hc (by omega)) ?_
      rintro _ _ ⟨rfl, rfl⟩
      refine R_callS (mc := mX8_ones) (As := [_]) dX8_know_81 lm_RX8_260 mv_X8_ones rfl rfl rfl (Nat.le_of_ble_eq_true rfl) (m_ones (by omega)) ?_
      rintro _ _ ⟨rfl, rfl⟩
      refine R_top (y := nI (cnt (pL d) B c t)) (by rw [pc_wm hK6, cnt_pop hR hc (by omega)]) ?_
      refine R_istore (L' := [(0, .ref 0), (1, .int (nI 1)), (2, .int (nI ((fIn (cnt (pL d) B) c (fAl (cnt (pL d) B) (dY d) (dR d 2 - 1, none) c) t).1))), (3, .int (oC (fIn (cnt (pL d) B) c (fAl (cnt (pL d) B) (dY d) (dR d 2 - 1, none) c) t).2)), (4, .int (oT (fIn (cnt (pL d) B) c (fAl (cnt (pL d) B) (dY d) (dR d 2 - 1, none) c) t).2)), (5, .int (nI c)), (6, .int (nI t)), (7, .int (nI (cnt (pL d) B c t)))]) dX8_know_84 (by decide) (qs1 rfl (qs1 rfl (qs1 rfl (qs1 rfl (qs1 rfl (qs1 rfl (qs1 rfl (qs1 rfl qs0)))))))) ?_
      refine R_iload dX8_know_86 rfl ?_
      refine R_iload_n dX8_know_88 rfl ?_
      refine R_icmp_leN (tgt := 102) dX8_know_89 (by decide) (by omega) (by omega) (fun h_89 => ?_) (fun h_89 => ?_)
      · refine R_iincN (n := 1) (L' := [(0, .ref 0), (1, .int (nI 1)), (2, .int (nI ((fIn (cnt (pL d) B) c (fAl (cnt (pL d) B) (dY d) (dR d 2 - 1, none) c) t).1))), (3, .int (oC (fIn (cnt (pL d) B) c (fAl (cnt (pL d) B) (dY d) (dR d 2 - 1, none) c) t).2)), (4, .int (oT (fIn (cnt (pL d) B) c (fAl (cnt (pL d) B) (dY d) (dR d 2 - 1, none) c) t).2)), (5, .int (nI c)), (6, .int (nI (t + 1))), (7, .int (nI (cnt (pL d) B c t)))]) dX8_know_102 rfl (by decide) (qs1 rfl (qs1 rfl (qs1 rfl (qs1 rfl (qs1 rfl (qs1 rfl (qs1 rfl (qs1 rfl qs0)))))))) ?_
        refine R_goto (tgt := 60) dX8_know_105 (by decide) ?_
        refine R_ls (L' := [(0, .ref 0), (1, .int (nI 1)), (2, .int (nI ((fIn (cnt (pL d) B) c (fAl (cnt (pL d) B) (dY d) (dR d 2 - 1, none) c) t).1))), (3, .int (oC (fIn (cnt (pL d) B) c (fAl (cnt (pL d) B) (dY d) (dR d 2 - 1, none) c) t).2)), (4, .int (oT (fIn (cnt (pL d) B) c (fAl (cnt (pL d) B) (dY d) (dR d 2 - 1, none) c) t).2)), (5, .int (nI c)), (6, .int (nI (t + 1)))]) (qs1 rfl (qs1 rfl (qs1 rfl (qs1 rfl (qs1 rfl (qs1 rfl (qs1 rfl qs0))))))) ?_
        exact (by have h := ih (t + 1) (by omega) (by omega); rw [show fIn (cnt (pL d) B) c (fAl (cnt (pL d) B) (dY d) (dR d 2 - 1, none) c) (t + 1) = (if (fIn (cnt (pL d) B) c (fAl (cnt (pL d) B) (dY d) (dR d 2 - 1, none) c) t).1 < cnt (pL d) B c t then (cnt (pL d) B c t, some (c, t)) else fIn (cnt (pL d) B) c (fAl (cnt (pL d) B) (dY d) (dR d 2 - 1, none) c) t) from rfl, if_neg (by omega)] at h; exact h)
      · refine R_iload dX8_know_92 rfl ?_
        refine R_istore_n (L' := [(0, .ref 0), (1, .int (nI 1)), (2, .int (nI (cnt (pL d) B c t))), (3, .int (oC (fIn (cnt (pL d) B) c (fAl (cnt (pL d) B) (dY d) (dR d 2 - 1, none) c) t).2)), (4, .int (oT (fIn (cnt (pL d) B) c (fAl (cnt (pL d) B) (dY d) (dR d 2 - 1, none) c) t).2)), (5, .int (nI c)), (6, .int (nI t)), (7, .int (nI (cnt (pL d) B c t)))]) dX8_know_94 (by decide) (qs1 rfl (qs1 rfl (qs1 rfl (qs1 rfl (qs1 rfl (qs1 rfl (qs1 rfl (qs1 rfl qs0)))))))) ?_
        refine R_iload dX8_know_95 rfl ?_
        refine R_istore_n (L' := [(0, .ref 0), (1, .int (nI 1)), (2, .int (nI (cnt (pL d) B c t))), (3, .int (nI c)), (4, .int (oT (fIn (cnt (pL d) B) c (fAl (cnt (pL d) B) (dY d) (dR d 2 - 1, none) c) t).2)), (5, .int (nI c)), (6, .int (nI t)), (7, .int (nI (cnt (pL d) B c t)))]) dX8_know_97 (by decide) (qs1 rfl (qs1 rfl (qs1 rfl (qs1 rfl (qs1 rfl (qs1 rfl (qs1 rfl (qs1 rfl qs0)))))))) ?_
        refine R_iload dX8_know_98 rfl ?_
        refine R_istore (L' := [(0, .ref 0), (1, .int (nI 1)), (2, .int (nI (cnt (pL d) B c t))), (3, .int (nI c)), (4, .int (nI t)), (5, .int (nI c)), (6, .int (nI t)), (7, .int (nI (cnt (pL d) B c t)))]) dX8_know_100 (by decide) (qs1 rfl (qs1 rfl (qs1 rfl (qs1 rfl (qs1 rfl (qs1 rfl (qs1 rfl (qs1 rfl qs0)))))))) ?_
        refine R_iincN (n := 1) (L' := [(0, .ref 0), (1, .int (nI 1)), (2, .int (nI (cnt (pL d) B c t))), (3, .int (nI c)), (4, .int (nI t)), (5, .int (nI c)), (6, .int (nI (t + 1))), (7, .int (nI (cnt (pL d) B c t)))]) dX8_know_102 rfl (by decide) (qs1 rfl (qs1 rfl (qs1 rfl (qs1 rfl (qs1 rfl (qs1 rfl (qs1 rfl (qs1 rfl qs0)))))))) ?_
        refine R_goto (tgt := 60) dX8_know_105 (by decide) ?_
        refine R_ls (L' := [(0, .ref 0), (1, .int (nI 1)), (2, .int (nI (cnt (pL d) B c t))), (3, .int (nI c)), (4, .int (nI t)), (5, .int (nI c)), (6, .int (nI (t + 1)))]) (qs1 rfl (qs1 rfl (qs1 rfl (qs1 rfl (qs1 rfl (qs1 rfl (qs1 rfl qs0))))))) ?_
        exact (by have h := ih (t + 1) (by omega) (by omega); rw [show fIn (cnt (pL d) B) c (fAl (cnt (pL d) B) (dY d) (dR d 2 - 1, none) c) (t + 1) = (if (fIn (cnt (pL d) B) c (fAl (cnt (pL d) B) (dY d) (dR d 2 - 1, none) c) t).1 < cnt (pL d) B c t then (cnt (pL d) B c t, some (c, t)) else fIn (cnt (pL d) B) c (fAl (cnt (pL d) B) (dY d) (dR d 2 - 1, none) c) t) from rfl, if_pos (by omega)] at h; exact h)
set_option maxRecDepth 100000 in
set_option maxHeartbeats 4000000 in
theorem m_kn1 {w : qWT} {K : qMem} {Q : qQ} {d : dT} (hX : MR K d) (hB : dB d) (hY4 : 4 ≤ dY d) {B : Nat → Nat → Bool} {F : Nat → Nat → Nat → Bool} (hR : RB d B F) (hF : BW K 15 d F) (hk : qRW 1 w mX8_know 114 [(0, .ref 0), (1, .int (nI 1)), (2, .int (nI ((fAl (cnt (pL d) B) (dY d) (dR d 2 - 1, none) (dK d)).1))), (3, .int (oC (fAl (cnt (pL d) B) (dY d) (dR d 2 - 1, none) (dK d)).2)), (4, .int (oT (fAl (cnt (pL d) B) (dY d) (dR d 2 - 1, none) (dK d)).2))] [] K Q) : ∀ (fu : Nat) (c : Nat), (dK d + 1 - c) < fu → (c ≤ dK d) → qRW 1 w mX8_know 48 [(0, .ref 0), (1, .int (nI 1)), (2, .int (nI ((fAl (cnt (pL d) B) (dY d) (dR d 2 - 1, none) c).1))), (3, .int (oC (fAl (cnt (pL d) B) (dY d) (dR d 2 - 1, none) c).2)), (4, .int (oT (fAl (cnt (pL d) B) (dY d) (dR d 2 - 1, none) c).2)), (5, .int (nI c))] [] K Q := by
  intro fu
  induction fu with
  | zero => intro c hn; exact absurd hn (Nat.not_lt_zero _)
  | succ fu ih =>
    intro c hn hc
    have hK6 := hB.2.1
    have hY16 := hB.1
    have h15 := pL_15 hB
    have hs15 := fAl_b (f := (cnt (pL d) B)) (Y := dY d) (s := (dR d 2 - 1, none)) (fun a b => cnt_15 h15 a b) (by have := hB.2.2.2.2.2.1; show dR d 2 - 1 ≤ 15; omega)
    refine R_iload dX8_know_48 rfl ?_
    refine R_aload_n dX8_know_50 rfl ?_
    refine R_getI dX8_know_51 (lf_RX8_148).get (by decide) rfl rfl ?_
    refine R_top (y := nI (dK d)) hX.1.1 ?_
    refine R_icmp_geN (tgt := 114) dX8_know_54 (by decide) (by omega) (by omega) (fun h_54 => ?_) (fun h_54 => ?_)
    · refine R_ls (L' := [(0, .ref 0), (1, .int (nI 1)), (2, .int (nI ((fAl (cnt (pL d) B) (dY d) (dR d 2 - 1, none) c).1))), (3, .int (oC (fAl (cnt (pL d) B) (dY d) (dR d 2 - 1, none) c).2)), (4, .int (oT (fAl (cnt (pL d) B) (dY d) (dR d 2 - 1, none) c).2))]) (qs1 rfl (qs1 rfl (qs1 rfl (qs1 rfl (qs1 rfl qs0))))) ?_
      have e : c = dK d := by omega
      subst e
      exact hk
    · refine R_iconst (v := nI 0) dX8_know_57 rfl ?_
      refine R_istore (L' := [(0, .ref 0), (1, .int (nI 1)), (2, .int (nI ((fAl (cnt (pL d) B) (dY d) (dR d 2 - 1, none) c).1))), (3, .int (oC (fAl (cnt (pL d) B) (dY d) (dR d 2 - 1, none) c).2)), (4, .int (oT (fAl (cnt (pL d) B) (dY d) (dR d 2 - 1, none) c).2)), (5, .int (nI c)), (6, .int (nI 0))]) dX8_know_58 (by decide) (qs1 rfl (qs1 rfl (qs1 rfl (qs1 rfl (qs1 rfl (qs1 rfl (qs1 rfl qs0))))))) ?_
      refine R_ls (L' := [(0, .ref 0), (1, .int (nI 1)), (2, .int (nI ((fAl (cnt (pL d) B) (dY d) (dR d 2 - 1, none) c).1))), (3, .int (oC (fAl (cnt (pL d) B) (dY d) (dR d 2 - 1, none) c).2)), (4, .int (oT (fAl (cnt (pL d) B) (dY d) (dR d 2 - 1, none) c).2)), (5, .int (nI c)), (6, .int (nI 0))]) (qs1 rfl (qs1 rfl (qs1 rfl (qs1 rfl (qs1 rfl (qs1 rfl (qs1 rfl qs0))))))) ?_
      exact (m_kn2 (w := w) hX hB hY4 hR hF (c := c) (by omega) (by have h := ih (c + 1) (by omega) (by omega); refine R_iincN (n := 1) (L' := [(0, .ref 0), (1, .int (nI 1)), (2, .int (nI ((fAl (cnt (pL d) B) (dY d) (dR d 2 - 1, none) (c + 1)).1))), (3, .int (oC (fAl (cnt (pL d) B) (dY d) (dR d 2 - 1, none) (c + 1)).2)), (4, .int (oT (fAl (cnt (pL d) B) (dY d) (dR d 2 - 1, none) (c + 1)).2)), (5, .int (nI ((c + 1))))]) dX8_know_108 rfl (by decide) (qs1 rfl (qs1 rfl (qs1 rfl (qs1 rfl (qs1 rfl (qs1 rfl qs0)))))) ?_; refine R_goto (tgt := 48) dX8_know_111 (by decide) ?_; exact h) (dY d + 2) 0 (by omega) (Nat.zero_le _))

theorem knw_add {M K N : qMem} {d : dT} {L : List cT} {B : Nat → Nat → Bool} {F : Nat → Nat → Nat → Bool} (hB : dB d) {q : Nat × Nat} (hq : (fnd d (cnt (pL d) B)).2 = some q) (hR : RB d B F) (h14 : BW K 14 d (Fb d)) (hcu : cuL d = L ++ culs d (pL d) (96 - L.length) B) (hL : L.length + nz (cnt (pL d) B) 96 ≤ 96) (hM : ∀ i x, L[i]? = some x → MFx K d i x) (h22 : K.1 0 22 = nI 1) (hO : cOff sCu M K) (h : FD K N d F q.1 q.2 L.length) :
    ∃ L2 : List cT, ∃ B2 : Nat → Nat → Bool, ∃ F2 : Nat → Nat → Nat → Bool, L2.length = L.length + 1 ∧ L2.length + nz (cnt (pL d) B2) 96 ≤ 96 ∧ RB d B2 F2 ∧ BW N 15 d F2 ∧ BW N 14 d (Fb d) ∧ cuL d = L2 ++ culs d (pL d) (96 - L2.length) B2 ∧ (∀ i x, L2[i]? = some x → MFx N d i x) ∧ N.1 0 25 = nI L2.length ∧ N.1 0 22 = nI 1 ∧ cOff sCu M N := by
  obtain ⟨f1, f2, f3, f4, f5, f6, f7, f8, f9⟩ := h
  have hK6 := hB.2.1
  have hY16 := hB.1
  have hfo : fOk (dK d) (dY d) (fnd d (cnt (pL d) B)).2 := fAl_ok (fun q hq => (by cases hq)) (dK d) (Nat.le_refl _)
  obtain ⟨q1, q2⟩ := hfo q hq
  obtain ⟨v1, v2⟩ := fAl_val (f := cnt (pL d) B) (Y := dY d) (s := (dR d 2 - 1, none)) (fun q h => by cases h) (dK d) q hq
  have v1 : (fnd d (cnt (pL d) B)).1 = cnt (pL d) B q.1 q.2 := v1
  have v2 : 0 < (fnd d (cnt (pL d) B)).1 := v2
  have hz := nz_stk (d := d) (P := pL d) (B := B) (c := q.1) (t := q.2) (by omega) (by omega) (by omega)
  have hpop := cnt_pop hR q1 q2
  have hpl := pop_le (wF F q.1 q.2) (dK d)
  obtain ⟨m, hm⟩ : ∃ m, 96 - L.length = m + 1 := ⟨95 - L.length, by omega⟩
  refine ⟨L ++ [(q.1, q.2, (fnd d (cnt (pL d) B)).1, szF d (pL d) B q.1 q.2)], stk d (pL d) B q.1 q.2, ctF d F q.1 q.2, by simp, by rw [List.length_append]; show L.length + 1 + _ ≤ 96; omega, RB_cut hR _ _, f1, h14.off f2, ?_, fun i x hi => ?_, by rw [List.length_append]; exact f3, f4.trans h22, hO.tr f9⟩
  · rw [hcu, hm, List.length_append]
    have e : culs d (pL d) (m + 1) B = (q.1, q.2, (fnd d (cnt (pL d) B)).1, szF d (pL d) B q.1 q.2) :: culs d (pL d) m (stk d (pL d) B q.1 q.2) := by
      show (match (fnd d (cnt (pL d) B)).2 with | none => _ | some q => _) = _; rw [hq]
    rw [e, List.append_assoc, show 96 - (L.length + [(q.1, q.2, (fnd d (cnt (pL d) B)).1, szF d (pL d) B q.1 q.2)].length) = m by simp; omega]; rfl
  · rcases Nat.lt_or_ge i L.length with z | z
    · rw [List.getElem?_append_left z] at hi
      refine (hM i x hi).off (fun o a b => ?_)
      have ho : o = 16 ∨ o = 17 ∨ o = 18 ∨ o = 19 := by omega
      rcases ho with rfl | rfl | rfl | rfl
      · rw [f5, if_neg (by omega)]
      · rw [f6, if_neg (by omega)]
      · rw [f7, if_neg (by omega)]
      · rw [f8, if_neg (by omega)]
    · have hl := (List.getElem?_eq_some_iff.mp hi).1
      rw [List.length_append] at hl
      have e : i = L.length := by simp at hl; omega
      subst e
      rw [List.getElem?_concat_length] at hi
      cases hi
      refine ⟨by rw [f5, if_pos rfl], by rw [f6, if_pos rfl], by rw [f7, if_pos rfl, v1, hpop], wF F q.1 q.2, by rw [f8, if_pos rfl], fun p hp => ?_, ?_, v2, by show (fnd d (cnt (pL d) B)).1 ≤ 6; omega⟩
      · unfold wF at hp; rw [Bool.and_eq_true, decide_eq_true_eq] at hp; exact hp.1
      · show szF d (pL d) B q.1 q.2 = _
        unfold szF; rw [szT_z hR q1 q2, v1]

theorem culs_none {d : dT} {P : pT} {B : Nat → Nat → Bool} (h : (fnd d (cnt P B)).2 = none) : ∀ n, culs d P n B = []
  | 0 => rfl
  | n + 1 => by show (match (fnd d (cnt P B)).2 with | none => _ | some q => _) = _; rw [h]

theorem knw_lt {d : dT} {L : List cT} {B : Nat → Nat → Bool} (hB : dB d) {q : Nat × Nat} (hq : (fnd d (cnt (pL d) B)).2 = some q) (hL : L.length + nz (cnt (pL d) B) 96 ≤ 96) : L.length < 96 := by
  have hK6 := hB.2.1
  have hY16 := hB.1
  have hfo : fOk (dK d) (dY d) (fnd d (cnt (pL d) B)).2 := fAl_ok (fun q hq => (by cases hq)) (dK d) (Nat.le_refl _)
  obtain ⟨q1, q2⟩ := hfo q hq
  obtain ⟨v1, v2⟩ := fAl_val (f := cnt (pL d) B) (Y := dY d) (s := (dR d 2 - 1, none)) (fun q h => by cases h) (dK d) q hq
  have hz := nz_stk (d := d) (P := pL d) (B := B) (c := q.1) (t := q.2) (by omega) (by omega) (by omega)
  omega
set_option maxRecDepth 100000 in
set_option maxHeartbeats 4000000 in
theorem m_kn114a {w : qWT} {M : qMem} {d : dT} (hX0 : MR M d) (hB : dB d) (hK2 : 2 ≤ dK d) (hY4 : 4 ≤ dY d) {L : List cT} {B : Nat → Nat → Bool} {F : Nat → Nat → Nat → Bool} {K : qMem} (hL : L.length + nz (cnt (pL d) B) 96 ≤ 96) (hR : RB d B F) (hF : BW K 15 d F) (h14 : BW K 14 d (Fb d)) (hcu : cuL d = L ++ culs d (pL d) (96 - L.length) B) (hM : ∀ i x, L[i]? = some x → MFx K d i x) (h25 : K.1 0 25 = nI L.length) (h22 : K.1 0 22 = nI 1) (hO : cOff sCu M K) (hq : (fnd d (cnt (pL d) B)).2 = none) : qRW 1 w mX8_know 114 [(0, .ref 0), (1, .int (nI 1)), (2, .int (nI ((fnd d (cnt (pL d) B)).1))), (3, .int (-4)), (4, .int (-4))] [] K (fun v N => v = none ∧ MCul N d ∧ N.1 0 22 = nI 1 ∧ cOff sCu M N) := by
  refine R_iload_n dX8_know_114 rfl ?_
  refine R_bipush (v := -4) dX8_know_115 rfl ?_
  refine R_icmp_eq (tgt := 124) dX8_know_117 (by decide) (fun h_117 => ?_) (fun h_117 => by exact absurd h_117 (by decide))
  refine R_iconst (v := nI 0) dX8_know_124 rfl ?_
  refine R_istore_n (L' := [(0, .ref 0), (1, .int (nI 0)), (2, .int (nI ((fnd d (cnt (pL d) B)).1))), (3, .int (-4)), (4, .int (-4))]) dX8_know_125 (by decide) (qs1 rfl (qs1 rfl (qs1 rfl (qs1 rfl (qs1 rfl qs0))))) ?_
  refine R_iload_n dX8_know_126 rfl ?_
  refine R_if_eqN (tgt := 137) dX8_know_127 (by decide) (by omega) (fun h_127 => ?_) (fun h_127 => by exact absurd h_127 (by decide))
  refine R_goto (tgt := 24) dX8_know_137 (by decide) ?_
  refine R_iload_n dX8_know_24 rfl ?_
  refine R_if_eqN (tgt := 140) dX8_know_25 (by decide) (by omega) (fun h_25 => ?_) (fun h_25 => by exact absurd h_25 (by decide))
  refine R_return dX8_know_140 rfl ?_
  rw [culs_none hq, List.append_nil] at hcu
  exact ⟨rfl, ⟨by rw [hcu]; exact h25, h14, by rw [hcu]; exact hM⟩, h22, hO⟩
set_option maxRecDepth 100000 in
set_option maxHeartbeats 4000000 in
theorem m_kn114b {w : qWT} {M : qMem} {d : dT} (hX0 : MR M d) (hB : dB d) (hK2 : 2 ≤ dK d) (hY4 : 4 ≤ dY d) {L : List cT} {B : Nat → Nat → Bool} {F : Nat → Nat → Nat → Bool} {K : qMem} (hL : L.length + nz (cnt (pL d) B) 96 ≤ 96) (hR : RB d B F) (hF : BW K 15 d F) (h14 : BW K 14 d (Fb d)) (hcu : cuL d = L ++ culs d (pL d) (96 - L.length) B) (hM : ∀ i x, L[i]? = some x → MFx K d i x) (h25 : K.1 0 25 = nI L.length) (h22 : K.1 0 22 = nI 1) (hO : cOff sCu M K) {q : Nat × Nat} (hq : (fnd d (cnt (pL d) B)).2 = some q) (hk : ∀ (L2 : List cT) (B : Nat → Nat → Bool) (F : Nat → Nat → Nat → Bool) (K : qMem), L2.length = L.length + 1 → (L2.length + nz (cnt (pL d) B) 96 ≤ 96) → (RB d B F) → (BW K 15 d F) → (BW K 14 d (Fb d)) → (cuL d = L2 ++ culs d (pL d) (96 - L2.length) B) → (∀ i x, L2[i]? = some x → MFx K d i x) → (K.1 0 25 = nI L2.length) → (K.1 0 22 = nI 1) → (cOff sCu M K) → qRW 1 w mX8_know 24 [(0, .ref 0), (1, .int (nI 1))] [] K (fun v N => v = none ∧ MCul N d ∧ N.1 0 22 = nI 1 ∧ cOff sCu M N)) : qRW 1 w mX8_know 114 [(0, .ref 0), (1, .int (nI 1)), (2, .int (nI ((fnd d (cnt (pL d) B)).1))), (3, .int (nI (q.1))), (4, .int (nI (q.2)))] [] K (fun v N => v = none ∧ MCul N d ∧ N.1 0 22 = nI 1 ∧ cOff sCu M N) := by
  have hX := hX0.cu hO
  have hK6 := hB.2.1
  have hY16 := hB.1
  have hfo : fOk (dK d) (dY d) (fnd d (cnt (pL d) B)).2 := fAl_ok (fun q hq => (by cases hq)) (dK d) (Nat.le_refl _)
  obtain ⟨hq1, hq2⟩ := hfo q hq
  have hl96 : L.length < 96 := knw_lt hB hq hL
  refine R_iload_n dX8_know_114 rfl ?_
  refine R_bipush (v := -4) dX8_know_115 rfl ?_
  refine R_icmp_eq (tgt := 124) dX8_know_117 (by decide) (fun h_117 => by exact absurd h_117 (fun e => by have h9 := (oC_4 (x := some q) (fun p hp => by cases hp; omega)).mp e; cases h9)) (fun h_117 => ?_)
  refine R_iconst (v := nI 1) dX8_know_120 rfl ?_
  refine R_goto (tgt := 125) dX8_know_121 (by decide) ?_
  refine R_istore_n (L' := [(0, .ref 0), (1, .int (nI 1)), (2, .int (nI ((fnd d (cnt (pL d) B)).1))), (3, .int (nI (q.1))), (4, .int (nI (q.2)))]) dX8_know_125 (by decide) (qs1 rfl (qs1 rfl (qs1 rfl (qs1 rfl (qs1 rfl qs0))))) ?_
  refine R_iload_n dX8_know_126 rfl ?_
  refine R_if_eqN (tgt := 137) dX8_know_127 (by decide) (by omega) (fun h_127 => by exact absurd h_127 (by decide)) (fun h_127 => ?_)
  refine R_aload_n dX8_know_130 rfl ?_
  refine R_iload_n dX8_know_131 rfl ?_
  refine R_iload dX8_know_132 rfl ?_
  refine R_callV (mc := mX8_finds) (As := [_, _]) (r := 0) dX8_know_134 lm_RX8_266 mv_X8_finds rfl (by decide) rfl rfl rfl rfl (Nat.le_of_ble_eq_true rfl) (m_finds hX hB hK2 hY4 hF hq1 hq2 (n := L.length) hl96 h25) ?_
  rintro _ _ ⟨rfl, hFD⟩
  obtain ⟨L2, B2, F2, g1, g2, g3, g4, g5, g6, g7, g8, g9, g10⟩ := knw_add hB hq hR h14 hcu hL hM h22 hO hFD
  refine R_goto (tgt := 24) dX8_know_137 (by decide) ?_
  refine R_ls (L' := [(0, .ref 0), (1, .int (nI 1))]) (qs1 rfl (qs1 rfl qs0)) ?_
  exact (hk L2 B2 F2 _ g1 g2 g3 g4 g5 g6 g7 g8 g9 g10)
set_option maxRecDepth 100000 in
set_option maxHeartbeats 4000000 in
theorem m_kn0 {w : qWT} {M : qMem} {d : dT} (hX0 : MR M d) (hB : dB d) (hK2 : 2 ≤ dK d) (hY4 : 4 ≤ dY d) : ∀ (fu : Nat) (L : List cT) (B : Nat → Nat → Bool) (F : Nat → Nat → Nat → Bool) (K : qMem), (97 - L.length) < fu → (L.length + nz (cnt (pL d) B) 96 ≤ 96) → (RB d B F) → (BW K 15 d F) → (BW K 14 d (Fb d)) → (cuL d = L ++ culs d (pL d) (96 - L.length) B) → (∀ i x, L[i]? = some x → MFx K d i x) → (K.1 0 25 = nI L.length) → (K.1 0 22 = nI 1) → (cOff sCu M K) → qRW 1 w mX8_know 24 [(0, .ref 0), (1, .int (nI 1))] [] K (fun v N => v = none ∧ MCul N d ∧ N.1 0 22 = nI 1 ∧ cOff sCu M N) := by
  intro fu
  induction fu with
  | zero => intro L B F K hn; exact absurd hn (Nat.not_lt_zero _)
  | succ fu ih =>
    intro L B F K hn hL hR hF h14 hcu hM h25 h22 hO
    have hX := hX0.cu hO
    have hR2 := hB.2.2.2.2.2.1
    refine R_iload_n dX8_know_24 rfl ?_
    refine R_if_eqN (tgt := 140) dX8_know_25 (by decide) (by omega) (fun h_25 => by exact absurd h_25 (by decide)) (fun h_25 => ?_)
    refine R_aload_n dX8_know_28 rfl ?_
    refine R_getR dX8_know_29 lg_RX8_19 (by decide) rfl rfl ?_
    refine R_bipush (v := nI 99) dX8_know_32 rfl ?_
    refine R_ialdN dX8_know_34 (by decide) rfl (by omega) (by decide) ?_
    refine R_top (y := nI (dR d 2)) (hX.r (k := 2) (by omega)) ?_
    refine R_iconst (v := nI 1) dX8_know_35 rfl ?_
    refine R_isubN dX8_know_36 (by omega) ?_
    refine R_istore_n (L' := [(0, .ref 0), (1, .int (nI 1)), (2, .int (nI ((dR d 2) - 1)))]) dX8_know_37 (by decide) (qs1 rfl (qs1 rfl (qs1 rfl qs0))) ?_
    refine R_bipush (v := -4) dX8_know_38 rfl ?_
    refine R_istore_n (L' := [(0, .ref 0), (1, .int (nI 1)), (2, .int (nI ((dR d 2) - 1))), (3, .int (-4))]) dX8_know_40 (by decide) (qs1 rfl (qs1 rfl (qs1 rfl (qs1 rfl qs0)))) ?_
    refine R_bipush (v := -4) dX8_know_41 rfl ?_
    refine R_istore (L' := [(0, .ref 0), (1, .int (nI 1)), (2, .int (nI ((dR d 2) - 1))), (3, .int (-4)), (4, .int (-4))]) dX8_know_43 (by decide) (qs1 rfl (qs1 rfl (qs1 rfl (qs1 rfl (qs1 rfl qs0))))) ?_
    refine R_iconst (v := nI 0) dX8_know_45 rfl ?_
    refine R_istore (L' := [(0, .ref 0), (1, .int (nI 1)), (2, .int (nI ((dR d 2) - 1))), (3, .int (-4)), (4, .int (-4)), (5, .int (nI 0))]) dX8_know_46 (by decide) (qs1 rfl (qs1 rfl (qs1 rfl (qs1 rfl (qs1 rfl (qs1 rfl qs0)))))) ?_
    refine R_ls (L' := [(0, .ref 0), (1, .int (nI 1)), (2, .int (nI ((fAl (cnt (pL d) B) (dY d) (dR d 2 - 1, none) 0).1))), (3, .int (oC (fAl (cnt (pL d) B) (dY d) (dR d 2 - 1, none) 0).2)), (4, .int (oT (fAl (cnt (pL d) B) (dY d) (dR d 2 - 1, none) 0).2)), (5, .int (nI 0))]) (qs1 rfl (qs1 rfl (qs1 rfl (qs1 rfl (qs1 rfl (qs1 rfl qs0)))))) ?_
    exact m_kn1 hX hB hY4 hR hF (by
      cases hq : (fnd d (cnt (pL d) B)).2 with
      | none => have h := m_kn114a (w := w) hX0 hB hK2 hY4 hL hR hF h14 hcu hM h25 h22 hO hq; rw [show fAl (cnt (pL d) B) (dY d) (dR d 2 - 1, none) (dK d) = fnd d (cnt (pL d) B) from rfl, hq]; exact h
      | some q => have h := m_kn114b (w := w) hX0 hB hK2 hY4 hL hR hF h14 hcu hM h25 h22 hO hq (fun L2 B2 F2 K2 e a1 a2 a3 a4 a5 a6 a7 a8 a9 => ih L2 B2 F2 K2 (by have := knw_lt hB hq hL; omega) a1 a2 a3 a4 a5 a6 a7 a8 a9); rw [show fAl (cnt (pL d) B) (dY d) (dR d 2 - 1, none) (dK d) = fnd d (cnt (pL d) B) from rfl, hq]; exact h) (dK d + 2) 0 (by omega) (Nat.zero_le _)
set_option maxRecDepth 100000 in
set_option maxHeartbeats 4000000 in
theorem m_know0 {M : qMem} {d : dT} (hX : MR M d) (hB : dB d) (hK2 : 2 ≤ dK d) (hY4 : 4 ≤ dY d) (h0 : M.1 0 22 = 0) : qSem 1 mX8_know [.ref 0] M (fun v N => v = none ∧ MCul N d ∧ N.1 0 22 = nI 1 ∧ cOff sCu M N) := by
  refine qSem.of (by decide +kernel) (Nat.le_of_ble_eq_true rfl) (fun w => ?_)
  refine R_ls (L' := [(0, .ref 0)]) (qs1 rfl qs0) ?_
  refine R_aload_n dX8_know_0 rfl ?_
  refine R_getI dX8_know_1 (lf_RX8_157).get (by decide) rfl rfl ?_
  refine R_if_eq (tgt := 8) dX8_know_4 (by decide) (fun h_4 => ?_) (fun h_4 => by exact absurd h0 h_4)
  refine R_aload_n dX8_know_8 rfl ?_
  refine R_iconst (v := nI 1) dX8_know_9 rfl ?_
  refine R_putI dX8_know_10 lf_RX8_157 (by decide) rfl rfl rfl rfl ?_
  refine R_aload_n dX8_know_13 rfl ?_
  refine R_callV (mc := mX8_findBreaks) (As := []) (r := 0) dX8_know_14 lm_RX8_263 mv_X8_findBreaks rfl (by decide) rfl rfl rfl rfl (Nat.le_of_ble_eq_true rfl) (m_breaks (hX.off rfl rfl rfl rfl rfl) hB hK2 hY4) ?_
  rintro _ _ ⟨rfl, k14, k15, hO1⟩
  refine R_aload_n dX8_know_17 rfl ?_
  refine R_iconst (v := nI 0) dX8_know_18 rfl ?_
  refine R_putI dX8_know_19 lf_RX8_253 (by decide) rfl rfl rfl rfl ?_
  refine R_iconst (v := nI 1) dX8_know_22 rfl ?_
  refine R_istore_n (L' := [(0, .ref 0), (1, .int (nI 1))]) dX8_know_23 (by decide) (qs1 rfl (qs1 rfl qs0)) ?_
  refine R_ls (L' := [(0, .ref 0), (1, .int (nI 1))]) (qs1 rfl (qs1 rfl qs0)) ?_
  exact (m_kn0 (M := M) hX hB hK2 hY4 98 [] (bP d (pL d)) (Fb d) _ (by decide) (Nat.le_trans (by rw [List.length_nil, Nat.zero_add]; exact Nat.le_refl _) (nz_le _ 96)) (RB_0 d) (k15.off (by rw [qIs_no (by omega)])) (k14.off (by rw [qIs_no (by omega)])) rfl (fun i x h => (by cases h)) (by rw [qIs_eq]; rfl) (by rw [qIs_nk (by omega), (hO1 0 22 (by unfold sBr; omega)).1, qIs_eq]) (((cOff.rf.is (by unfold sCu; omega)).tr hO1.br).is (by unfold sCu; omega)))
set_option maxRecDepth 100000 in
set_option maxHeartbeats 4000000 in
theorem m_know1 {M : qMem} {d : dT} (hX : MR M d) (hB : dB d) (hK2 : 2 ≤ dK d) (hY4 : 4 ≤ dY d) (h0 : ¬ M.1 0 22 = 0) : qSem 1 mX8_know [.ref 0] M (fun v N => v = none ∧ N = M) := by
  refine qSem.of (by decide +kernel) (Nat.le_of_ble_eq_true rfl) (fun w => ?_)
  refine R_ls (L' := [(0, .ref 0)]) (qs1 rfl qs0) ?_
  refine R_aload_n dX8_know_0 rfl ?_
  refine R_getI dX8_know_1 (lf_RX8_157).get (by decide) rfl rfl ?_
  refine R_if_eq (tgt := 8) dX8_know_4 (by decide) (fun h_4 => by exact absurd h_4 h0) (fun h_4 => ?_)
  refine R_return dX8_know_7 rfl ?_
  exact ⟨rfl, rfl⟩
