
-- ===== the model: all culprits =====
theorem fIn_val {f : Nat → Nat → Nat} {c : Nat} {s : Nat × Option (Nat × Nat)} (hs : ∀ q, s.2 = some q → s.1 = f q.1 q.2 ∧ 0 < s.1) : ∀ n q, (fIn f c s n).2 = some q → (fIn f c s n).1 = f q.1 q.2 ∧ 0 < (fIn f c s n).1
  | 0, q, h => hs q h
  | n + 1, q, h => by
    have e : fIn f c s (n + 1) = if (fIn f c s n).1 < f c n then (f c n, some (c, n)) else fIn f c s n := rfl
    rw [e] at h ⊢
    split at h
    · rename_i h1; rw [if_pos h1]; cases h; exact ⟨rfl, Nat.lt_of_le_of_lt (Nat.zero_le _) h1⟩
    · rename_i h1; rw [if_neg h1]; exact fIn_val hs n q h
theorem fAl_val {f : Nat → Nat → Nat} {Y : Nat} {s : Nat × Option (Nat × Nat)} (hs : ∀ q, s.2 = some q → s.1 = f q.1 q.2 ∧ 0 < s.1) : ∀ n q, (fAl f Y s n).2 = some q → (fAl f Y s n).1 = f q.1 q.2 ∧ 0 < (fAl f Y s n).1
  | 0, q, h => hs q h
  | n + 1, q, h => fIn_val (fun q h => fAl_val hs n q h) Y q h
def oC (x : Option (Nat × Nat)) : Int32 := match x with
  | none => -4
  | some q => nI q.1
def oT (x : Option (Nat × Nat)) : Int32 := match x with
  | none => -4
  | some q => nI q.2
theorem oC_4 {x : Option (Nat × Nat)} (h : ∀ q, x = some q → q.1 < 1000) : oC x = -4 ↔ x = none := by
  cases x with
  | none => exact ⟨fun _ => rfl, fun _ => rfl⟩
  | some q =>
    refine ⟨fun e => ?_, fun e => by cases e⟩
    have h1 := congrArg Int32.toInt e
    have h2 := h q rfl
    rw [show oC (some q) = nI q.1 from rfl, nI_toInt (by omega)] at h1
    have h3 : ((-4 : Int32)).toInt = -4 := rfl
    omega
theorem pL_15 {d : dT} (hB : dB d) : (pL d).length ≤ 15 := Nat.le_trans (plTo_len d (dK d)) (tri_15e hB.2.1)
def MFx (K : qMem) (d : dT) (i : Nat) (x : cT) : Prop := K.1 16 i = nI x.1 ∧ K.1 17 i = nI x.2.1 ∧ K.1 18 i = nI x.2.2.1 ∧ ∃ f, K.1 19 i = nI (wm f (dK d)) ∧ (∀ q, f q = true → q ≠ x.1) ∧ x.2.2.2 = rmean (zS d f x.1 x.2.1 (dK d)) x.2.2.1 ∧ 1 ≤ x.2.2.1 ∧ x.2.2.1 ≤ 6
def MCul (K : qMem) (d : dT) : Prop := K.1 0 25 = nI (cuL d).length ∧ BW K 14 d (Fb d) ∧ ∀ i x, (cuL d)[i]? = some x → MFx K d i x
theorem MFx.off {K N : qMem} {d : dT} {i : Nat} {x : cT} (h : MFx K d i x) (e : ∀ o, 16 ≤ o → o < 20 → N.1 o i = K.1 o i) : MFx N d i x := by
  obtain ⟨h1, h2, h3, f, h4, h5⟩ := h
  exact ⟨by rw [e 16 (by omega) (by omega)]; exact h1, by rw [e 17 (by omega) (by omega)]; exact h2, by rw [e 18 (by omega) (by omega)]; exact h3, f, by rw [e 19 (by omega) (by omega)]; exact h4, h5⟩
theorem MCul.off {K N : qMem} {d : dT} (h : MCul K d) (e0 : N.1 0 25 = K.1 0 25) (e : ∀ o, 14 ≤ o → o < 20 → N.1 o = K.1 o) : MCul N d :=
  ⟨by rw [e0]; exact h.1, h.2.1.off (e 14 (by omega) (by omega)), fun i x hi => (h.2.2 i x hi).off (fun o a b => by rw [e o (by omega) b])⟩
set_option maxRecDepth 100000 in
set_option maxHeartbeats 4000000 in
theorem m_kn2 {w : qWT} {K : qMem} {Q : qQ} {d : dT} (hX : MR K d) (hB : dB d) (hY4 : 4 ≤ dY d) {B : Nat → Nat → Bool} {F : Nat → Nat → Nat → Bool} (hR : RB d B F) (hF : BW K 15 d F) {c : Nat} (hc : c < dK d) (hk : qRW 1 w mX8_know 108 [(0, .ref 0), (1, .int (nI 1)), (2, .int (nI ((fAl (cnt (pL d) B) (dY d) (dR d 2 - 1, none) (c + 1)).1))), (3, .int (oC (fAl (cnt (pL d) B) (dY d) (dR d 2 - 1, none) (c + 1)).2)), (4, .int (oT (fAl (cnt (pL d) B) (dY d) (dR d 2 - 1, none) (c + 1)).2)), (5, .int (nI c))] [] K Q) : ∀ (fu : Nat) (t : Nat), (dY d + 1 - t) < fu → (t ≤ dY d) → qRW 1 w mX8_know 60 [(0, .ref 0), (1, .int (nI 1)), (2, .int (nI ((fIn (cnt (pL d) B) c (fAl (cnt (pL d) B) (dY d) (dR d 2 - 1, none) c) t).1))), (3, .int (oC (fIn (cnt (pL d) B) c (fAl (cnt (pL d) B) (dY d) (dR d 2 - 1, none) c) t).2)), (4, .int (oT (fIn (cnt (pL d) B) c (fAl (cnt (pL d) B) (dY d) (dR d 2 - 1, none) c) t).2)), (5, .int (nI c)), (6, .int (nI t))] [] K Q := by
  intro fu
  induction fu with
  | zero => intro t hn; exact absurd hn (Nat.not_lt_zero _)
  | succ fu ih =>
    intro t hn ht
    have hK6 := hB.2.1
    have hY16 := hB.1
    have h15 := pL_15 hB
    have hs15 := fAl_b (f := (cnt (pL d) B)) (Y := dY d) (s := (dR d 2 - 1, none)) (fun a b => cnt_15 h15 a b) (by have := hB.2.2.2.2.2.1; show dR d 2 - 1 ≤ 15; omega)
    have hi15 := fIn_b (f := (cnt (pL d) B)) (c := c) (s := fAl (cnt (pL d) B) (dY d) (dR d 2 - 1, none) c) (fun a b => cnt_15 h15 a b) (hs15 c) t
    have hct := cnt_15 (B := B) h15 c t
    have hW6 := wm_lt (wF F c t) (dK d)
    have hp6 : 2 ^ dK d ≤ 2 ^ 6 := Nat.pow_le_pow_right (by decide) hK6
    refine R_iload dX8_know_60 rfl ?_
    refine R_aload_n dX8_know_62 rfl ?_
    refine R_getI dX8_know_63 (lf_RX8_151).get (by decide) rfl rfl ?_
    refine R_top (y := nI (dY d)) hX.1.2.1 ?_
    refine R_icmp_geN (tgt := 108) dX8_know_66 (by decide) (by omega) (by omega) (fun h_66 => ?_) (fun h_66 => ?_)
    · refine R_ls (L' := [(0, .ref 0), (1, .int (nI 1)), (2, .int (nI ((fIn (cnt (pL d) B) c (fAl (cnt (pL d) B) (dY d) (dR d 2 - 1, none) c) t).1))), (3, .int (oC (fIn (cnt (pL d) B) c (fAl (cnt (pL d) B) (dY d) (dR d 2 - 1, none) c) t).2)), (4, .int (oT (fIn (cnt (pL d) B) c (fAl (cnt (pL d) B) (dY d) (dR d 2 - 1, none) c) t).2)), (5, .int (nI c))]) (qs1 rfl (qs1 rfl (qs1 rfl (qs1 rfl (qs1 rfl (qs1 rfl qs0)))))) ?_
      have e : t = dY d := by omega
      subst e
      exact hk
    · refine R_aload_n dX8_know_69 rfl ?_
      refine R_aload_n dX8_know_70 rfl ?_
      refine R_getR dX8_know_71 lg_RX8_53 (by decide) rfl rfl ?_
      refine R_iload dX8_know_74 rfl ?_
      refine R_iload dX8_know_76 rfl ?_
      refine R_callV (mc := mX8_withWhom) (As := [_, _, _]) (r := 0) dX8_know_78 lm_RX8_256 mv_X8_withWhom rfl (by decide) rfl rfl rfl rfl (Nat.le_of_ble_eq_true rfl) (m_with15 hX hB hF hc (by omega)) ?_
      rintro _ _ ⟨rfl, rfl⟩
      refine R_callS (mc := mX8_ones) (As := [_]) dX8_know_81 lm_RX8_260 mv_X8_ones rfl rfl rfl (Nat.le_of_ble_eq_true rfl) (m_ones (by omega)) ?_
      rintro _ _ ⟨rfl, rfl⟩
      refine R_top (y := nI (cnt (pL d) B c t)) (by rw [pc_wm hK6, cnt_pop hR hc (by omega)]) ?_
      refine R_istore (L' := [(0, .ref 0), (1, .int (nI 1)), (2, .int (nI ((fIn (cnt (pL d) B) c (fAl (cnt (pL d) B) (dY d) (dR d 2 - 1, none) c) t).1))), (3, .int (oC (fIn (cnt (pL d) B) c (fAl (cnt (pL d) B) (dY d) (dR d 2 - 1, none) c) t).2)), (4, .int (oT (fIn (cnt (pL d) B) c (fAl (cnt (pL d) B) (dY d) (dR d 2 - 1, none) c) t).2)), (5, .int (nI c)), (6, .int (nI t)), (7, .int (nI (cnt (pL d) B c t)))]) dX8_know_84 (by decide) (qs1 rfl (qs1 rfl (qs1 rfl (qs1 rfl (qs1 rfl (qs1 rfl (qs1 rfl (qs1 rfl qs0)))))))) ?_
      refine R_iload dX8_know_86 rfl ?_
      refine R_iload_n dX8_know_88 rfl ?_
      refine R_icmp_leN (tgt := 102) dX8_know_89 (by decide) (by omega) (by omega) (fun h_89 => ?_) (fun h_89 => ?_)
      · refine R_iincN (n := 1) (L' := [(0, .ref 0), (1, .int (nI 1)), (2, .int (nI ((fIn (cnt (pL d) B) c (fAl (cnt (pL d) B) (dY d) (dR d 2 - 1, none) c) t).1))), (3, .int (oC (fIn (cnt (pL d) B) c (fAl (cnt (pL d) B) (dY d) (dR d 2 - 1, none) c) t).2)), (4, .int (oT (fIn (cnt (pL d) B) c (fAl (cnt (pL d) B) (dY d) (dR d 2 - 1, none) c) t).2)), (5, .int (nI c)), (6, .int (nI (t + 1))), (7, .int (nI (cnt (pL d) B c t)))]) dX8_know_102 rfl (by decide) (qs1 rfl (qs1 rfl (qs1 rfl (qs1 rfl (qs1 rfl (qs1 rfl (qs1 rfl (qs1 rfl qs0)))))))) ?_
        refine R_goto (tgt := 60) dX8_know_105 (by decide) ?_
        refine R_ls (L' := [(0, .ref 0), (1, .int (nI 1)), (2, .int (nI ((fIn (cnt (pL d) B) c (fAl (cnt (pL d) B) (dY d) (dR d 2 - 1, none) c) t).1))), (3, .int (oC (fIn (cnt (pL d) B) c (fAl (cnt (pL d) B) (dY d) (dR d 2 - 1, none) c) t).2)), (4, .int (oT (fIn (cnt (pL d) B) c (fAl (cnt (pL d) B) (dY d) (dR d 2 - 1, none) c) t).2)), (5, .int (nI c)), (6, .int (nI (t + 1)))]) (qs1 rfl (qs1 rfl (qs1 rfl (qs1 rfl (qs1 rfl (qs1 rfl (qs1 rfl qs0))))))) ?_
        exact (by have h := ih (t + 1) (by omega) (by omega); rw [show fIn (cnt (pL d) B) c (fAl (cnt (pL d) B) (dY d) (dR d 2 - 1, none) c) (t + 1) = (if (fIn (cnt (pL d) B) c (fAl (cnt (pL d) B) (dY d) (dR d 2 - 1, none) c) t).1 < cnt (pL d) B c t then (cnt (pL d) B c t, some (c, t)) else fIn (cnt (pL d) B) c (fAl (cnt (pL d) B) (dY d) (dR d 2 - 1, none) c) t) from rfl, if_neg (by omega)] at h; exact h)
      · refine R_iload dX8_know_92 rfl ?_
        refine R_istore_n (L' := [(0, .ref 0), (1, .int (nI 1)), (2, .int (nI (cnt (pL d) B c t))), (3, .int (oC (fIn (cnt (pL d) B) c (fAl (cnt (pL d) B) (dY d) (dR d 2 - 1, none) c) t).2)), (4, .int (oT (fIn (cnt (pL d) B) c (fAl (cnt (pL d) B) (dY d) (dR d 2 - 1, none) c) t).2)), (5, .int (nI c)), (6, .int (nI t)), (7, .int (nI (cnt (pL d) B c t)))]) dX8_know_94 (by decide) (qs1 rfl (qs1 rfl (qs1 rfl (qs1 rfl (qs1 rfl (qs1 rfl (qs1 rfl (qs1 rfl qs0)))))))) ?_
        refine R_iload dX8_know_95 rfl ?_
        refine R_istore_n (L' := [(0, .ref 0), (1, .int (nI 1)), (2, .int (nI (cnt (pL d) B c t))), (3, .int (nI c)), (4, .int (oT (fIn (cnt (pL d) B) c (fAl (cnt (pL d) B) (dY d) (dR d 2 - 1, none) c) t).2)), (5, .int (nI c)), (6, .int (nI t)), (7, .int (nI (cnt (pL d) B c t)))]) dX8_know_97 (by decide) (qs1 rfl (qs1 rfl (qs1 rfl (qs1 rfl (qs1 rfl (qs1 rfl (qs1 rfl (qs1 rfl qs0)))))))) ?_
        refine R_iload dX8_know_98 rfl ?_
        refine R_istore (L' := [(0, .ref 0), (1, .int (nI 1)), (2, .int (nI (cnt (pL d) B c t))), (3, .int (nI c)), (4, .int (nI t)), (5, .int (nI c)), (6, .int (nI t)), (7, .int (nI (cnt (pL d) B c t)))]) dX8_know_100 (by decide) (qs1 rfl (qs1 rfl (qs1 rfl (qs1 rfl (qs1 rfl (qs1 rfl (qs1 rfl (qs1 rfl qs0)))))))) ?_
        refine R_iincN (n := 1) (L' := [(0, .ref 0), (1, .int (nI 1)), (2, .int (nI (cnt (pL d) B c t))), (3, .int (nI c)), (4, .int (nI t)), (5, .int (nI c)), (6, .int (nI (t + 1))), (7, .int (nI (cnt (pL d) B c t)))]) dX8_know_102 rfl (by decide) (qs1 rfl (qs1 rfl (qs1 rfl (qs1 rfl (qs1 rfl (qs1 rfl (qs1 rfl (qs1 rfl qs0)))))))) ?_
        refine R_goto (tgt := 60) dX8_know_105 (by decide) ?_
        refine R_ls (L' := [(0, .ref 0), (1, .int (nI 1)), (2, .int (nI (cnt (pL d) B c t))), (3, .int (nI c)), (4, .int (nI t)), (5, .int (nI c)), (6, .int (nI (t + 1)))]) (qs1 rfl (qs1 rfl (qs1 rfl (qs1 rfl (qs1 rfl (qs1 rfl (qs1 rfl qs0))))))) ?_
        exact (by have h := ih (t + 1) (by omega) (by omega); rw [show fIn (cnt (pL d) B) c (fAl (cnt (pL d) B) (dY d) (dR d 2 - 1, none) c) (t + 1) = (if (fIn (cnt (pL d) B) c (fAl (cnt (pL d) B) (dY d) (dR d 2 - 1, none) c) t).1 < cnt (pL d) B c t then (cnt (pL d) B c t, some (c, t)) else fIn (cnt (pL d) B) c (fAl (cnt (pL d) B) (dY d) (dR d 2 - 1, none) c) t) from rfl, if_pos (by omega)] at h; exact h)
set_option maxRecDepth 100000 in
set_option maxHeartbeats 4000000 in
theorem m_kn1 {w : qWT} {K : qMem} {Q : qQ} {d : dT} (hX : MR K d) (hB : dB d) (hY4 : 4 ≤ dY d) {B : Nat → Nat → Bool} {F : Nat → Nat → Nat → Bool} (hR : RB d B F) (hF : BW K 15 d F) (hk : qRW 1 w mX8_know 114 [(0, .ref 0), (1, .int (nI 1)), (2, .int (nI ((fAl (cnt (pL d) B) (dY d) (dR d 2 - 1, none) (dK d)).1))), (3, .int (oC (fAl (cnt (pL d) B) (dY d) (dR d 2 - 1, none) (dK d)).2)), (4, .int (oT (fAl (cnt (pL d) B) (dY d) (dR d 2 - 1, none) (dK d)).2))] [] K Q) : ∀ (fu : Nat) (c : Nat), (dK d + 1 - c) < fu → (c ≤ dK d) → qRW 1 w mX8_know 48 [(0, .ref 0), (1, .int (nI 1)), (2, .int (nI ((fAl (cnt (pL d) B) (dY d) (dR d 2 - 1, none) c).1))), (3, .int (oC (fAl (cnt (pL d) B) (dY d) (dR d 2 - 1, none) c).2)), (4, .int (oT (fAl (cnt (pL d) B) (dY d) (dR d 2 - 1, none) c).2)), (5, .int (nI c))] [] K Q := by
  intro fu
  induction fu with
  | zero => intro c hn; exact absurd hn (Nat.not_lt_zero _)
  | succ fu ih =>
    intro c hn hc
    have hK6 := hB.2.1
    have hY16 := hB.1
    have h15 := pL_15 hB
    have hs15 := fAl_b (f := (cnt (pL d) B)) (Y := dY d) (s := (dR d 2 - 1, none)) (fun a b => cnt_15 h15 a b) (by have := hB.2.2.2.2.2.1; show dR d 2 - 1 ≤ 15; omega)
    refine R_iload dX8_know_48 rfl ?_
    refine R_aload_n dX8_know_50 rfl ?_
    refine R_getI dX8_know_51 (lf_RX8_148).get (by decide) rfl rfl ?_
    refine R_top (y := nI (dK d)) hX.1.1 ?_
    refine R_icmp_geN (tgt := 114) dX8_know_54 (by decide) (by omega) (by omega) (fun h_54 => ?_) (fun h_54 => ?_)
    · refine R_ls (L' := [(0, .ref 0), (1, .int (nI 1)), (2, .int (nI ((fAl (cnt (pL d) B) (dY d) (dR d 2 - 1, none) c).1))), (3, .int (oC (fAl (cnt (pL d) B) (dY d) (dR d 2 - 1, none) c).2)), (4, .int (oT (fAl (cnt (pL d) B) (dY d) (dR d 2 - 1, none) c).2))]) (qs1 rfl (qs1 rfl (qs1 rfl (qs1 rfl (qs1 rfl qs0))))) ?_
      have e : c = dK d := by omega
      subst e
      exact hk
    · refine R_iconst (v := nI 0) dX8_know_57 rfl ?_
      refine R_istore (L' := [(0, .ref 0), (1, .int (nI 1)), (2, .int (nI ((fAl (cnt (pL d) B) (dY d) (dR d 2 - 1, none) c).1))), (3, .int (oC (fAl (cnt (pL d) B) (dY d) (dR d 2 - 1, none) c).2)), (4, .int (oT (fAl (cnt (pL d) B) (dY d) (dR d 2 - 1, none) c).2)), (5, .int (nI c)), (6, .int (nI 0))]) dX8_know_58 (by decide) (qs1 rfl (qs1 rfl (qs1 rfl (qs1 rfl (qs1 rfl (qs1 rfl (qs1 rfl qs0))))))) ?_
      refine R_ls (L' := [(0, .ref 0), (1, .int (nI 1)), (2, .int (nI ((fAl (cnt (pL d) B) (dY d) (dR d 2 - 1, none) c).1))), (3, .int (oC (fAl (cnt (pL d) B) (dY d) (dR d 2 - 1, none) c).2)), (4, .int (oT (fAl (cnt (pL d) B) (dY d) (dR d 2 - 1, none) c).2)), (5, .int (nI c)), (6, .int (nI 0))]) (qs1 rfl (qs1 rfl (qs1 rfl (qs1 rfl (qs1 rfl (qs1 rfl (qs1 rfl qs0))))))) ?_
      exact (m_kn2 (w := w) hX hB hY4 hR hF (c := c) (by omega) (by have h := ih (c + 1) (by omega) (by omega); refine R_iincN (n := 1) (L' := [(0, .ref 0), (1, .int (nI 1)), (2, .int (nI ((fAl (cnt (pL d) B) (dY d) (dR d 2 - 1, none) (c + 1)).1))), (3, .int (oC (fAl (cnt (pL d) B) (dY d) (dR d 2 - 1, none) (c + 1)).2)), (4, .int (oT (fAl (cnt (pL d) B) (dY d) (dR d 2 - 1, none) (c + 1)).2)), (5, .int (nI ((c + 1))))]) dX8_know_108 rfl (by decide) (qs1 rfl (qs1 rfl (qs1 rfl (qs1 rfl (qs1 rfl (qs1 rfl qs0)))))) ?_; refine R_goto (tgt := 48) dX8_know_111 (by decide) ?_; exact h) (dY d + 2) 0 (by omega) (Nat.zero_le _))

theorem knw_add {M K N : qMem} {d : dT} {L : List cT} {B : Nat → Nat → Bool} {F : Nat → Nat → Nat → Bool} (hB : dB d) {q : Nat × Nat} (hq : (fnd d (cnt (pL d) B)).2 = some q) (hR : RB d B F) (h14 : BW K 14 d (Fb d)) (hcu : cuL d = L ++ culs d (pL d) (96 - L.length) B) (hL : L.length + nz (cnt (pL d) B) 96 ≤ 96) (hM : ∀ i x, L[i]? = some x → MFx K d i x) (h22 : K.1 0 22 = nI 1) (hO : cOff sCu M K) (h : FD K N d F q.1 q.2 L.length) :
    ∃ L2 : List cT, ∃ B2 : Nat → Nat → Bool, ∃ F2 : Nat → Nat → Nat → Bool, L2.length = L.length + 1 ∧ L2.length + nz (cnt (pL d) B2) 96 ≤ 96 ∧ RB d B2 F2 ∧ BW N 15 d F2 ∧ BW N 14 d (Fb d) ∧ cuL d = L2 ++ culs d (pL d) (96 - L2.length) B2 ∧ (∀ i x, L2[i]? = some x → MFx N d i x) ∧ N.1 0 25 = nI L2.length ∧ N.1 0 22 = nI 1 ∧ cOff sCu M N := by
  obtain ⟨f1, f2, f3, f4, f5, f6, f7, f8, f9⟩ := h
  have hK6 := hB.2.1
  have hY16 := hB.1
  have hfo : fOk (dK d) (dY d) (fnd d (cnt (pL d) B)).2 := fAl_ok (fun q hq => (by cases hq)) (dK d) (Nat.le_refl _)
  obtain ⟨q1, q2⟩ := hfo q hq
  obtain ⟨v1, v2⟩ := fAl_val (f := cnt (pL d) B) (Y := dY d) (s := (dR d 2 - 1, none)) (fun q h => by cases h) (dK d) q hq
  have v1 : (fnd d (cnt (pL d) B)).1 = cnt (pL d) B q.1 q.2 := v1
  have v2 : 0 < (fnd d (cnt (pL d) B)).1 := v2
  have hz := nz_stk (d := d) (P := pL d) (B := B) (c := q.1) (t := q.2) (by omega) (by omega) (by omega)
  have hpop := cnt_pop hR q1 q2
  have hpl := pop_le (wF F q.1 q.2) (dK d)
  obtain ⟨m, hm⟩ : ∃ m, 96 - L.length = m + 1 := ⟨95 - L.length, by omega⟩
  refine ⟨L ++ [(q.1, q.2, (fnd d (cnt (pL d) B)).1, szF d (pL d) B q.1 q.2)], stk d (pL d) B q.1 q.2, ctF d F q.1 q.2, by simp, by rw [List.length_append]; show L.length + 1 + _ ≤ 96; omega, RB_cut hR _ _, f1, h14.off f2, ?_, fun i x hi => ?_, by rw [List.length_append]; exact f3, f4.trans h22, hO.tr f9⟩
  · rw [hcu, hm, List.length_append]
    have e : culs d (pL d) (m + 1) B = (q.1, q.2, (fnd d (cnt (pL d) B)).1, szF d (pL d) B q.1 q.2) :: culs d (pL d) m (stk d (pL d) B q.1 q.2) := by
      show (match (fnd d (cnt (pL d) B)).2 with | none => _ | some q => _) = _; rw [hq]
    rw [e, List.append_assoc, show 96 - (L.length + [(q.1, q.2, (fnd d (cnt (pL d) B)).1, szF d (pL d) B q.1 q.2)].length) = m by simp; omega]; rfl
  · rcases Nat.lt_or_ge i L.length with z | z
    · rw [List.getElem?_append_left z] at hi
      refine (hM i x hi).off (fun o a b => ?_)
      have ho : o = 16 ∨ o = 17 ∨ o = 18 ∨ o = 19 := by omega
      rcases ho with rfl | rfl | rfl | rfl
      · rw [f5, if_neg (by omega)]
      · rw [f6, if_neg (by omega)]
      · rw [f7, if_neg (by omega)]
      · rw [f8, if_neg (by omega)]
    · have hl := (List.getElem?_eq_some_iff.mp hi).1
      rw [List.length_append] at hl
      have e : i = L.length := by simp at hl; omega
      subst e
      rw [List.getElem?_concat_length] at hi
      cases hi
      refine ⟨by rw [f5, if_pos rfl], by rw [f6, if_pos rfl], by rw [f7, if_pos rfl, v1, hpop], wF F q.1 q.2, by rw [f8, if_pos rfl], fun p hp => ?_, ?_, v2, by show (fnd d (cnt (pL d) B)).1 ≤ 6; omega⟩
      · unfold wF at hp; rw [Bool.and_eq_true, decide_eq_true_eq] at hp; exact hp.1
      · show szF d (pL d) B q.1 q.2 = _
        unfold szF; rw [szT_z hR q1 q2, v1]
