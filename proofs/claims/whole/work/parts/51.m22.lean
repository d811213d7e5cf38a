
-- ===== the model: mending =====
def bn (x : Bool) : Nat := if x then 1 else 0
def flg (d : dT) (c : Nat) (z : Int32) (q : Nat) : Bool := decide (z ≠ 0) && cnS d c z q
theorem bn_0 {x : Bool} : bn x = 0 ↔ x = false := by cases x <;> decide
theorem flg_f {d : dT} {c q : Nat} {z : Int32} (h : flg d c z q = false) : flg d c z (q + 1) = false := by
  unfold flg at *
  rw [Bool.and_eq_false_iff] at h ⊢
  rcases h with h | h
  · exact Or.inl h
  · refine Or.inr ?_; show (cnS d c z q && _) = false; rw [h]; rfl
theorem flg_s {d : dT} {c q : Nat} {z : Int32} (h : ¬ flg d c z q = false) : flg d c z (q + 1) = (match dV d c q with | some v => decide (okI (v + z)) | none => true) := by
  have h : flg d c z q = true := Bool.not_eq_false _ |>.mp h
  unfold flg at *
  rw [Bool.and_eq_true] at h
  show (decide (z ≠ 0) && (cnS d c z q && _)) = _
  rw [h.1, h.2]; rfl
set_option maxRecDepth 100000 in
set_option maxHeartbeats 4000000 in
theorem m_mdF {w : qWT} {M : qMem} {Q : qQ} {d : dT} (hX : MR M d) (hB : dB d) {c t i : Nat} {z : Int32} (hc : c < dK d) (ht : t < dY d) (hk : qRW 1 w mX8_mend 129 [(0, .ref 0), (1, .int (nI i)), (2, .int (nI c)), (3, .int (nI t)), (4, .int z), (5, .int (nI (bn (flg d c z t))))] [] M Q) : ∀ (fu : Nat) (q : Nat), (t + 1 - q) < fu → (q ≤ t) → qRW 1 w mX8_mend 72 [(0, .ref 0), (1, .int (nI i)), (2, .int (nI c)), (3, .int (nI t)), (4, .int (z)), (5, .int (nI (bn (flg d c z q)))), (6, .int (nI q))] [] M Q := by
  intro fu
  induction fu with
  | zero => intro q hn; exact absurd hn (Nat.not_lt_zero _)
  | succ fu ih =>
    intro q hn hq
    have hK6 := hB.2.1
    have hY16 := hB.1
    have hb1 : bn (flg d c z q) ≤ 1 := by unfold bn; split <;> omega
    refine R_iload dX8_mend_72 rfl ?_
    refine R_iload_n dX8_mend_74 rfl ?_
    refine R_icmp_geN (tgt := 129) dX8_mend_75 (by decide) (by omega) (by omega) (fun h_75 => ?_) (fun h_75 => ?_)
    · have e : q = t := by omega
      subst e
      refine R_ls (L' := [(0, .ref 0), (1, .int (nI i)), (2, .int (nI c)), (3, .int (nI q)), (4, .int z), (5, .int (nI (bn (flg d c z q))))]) (qs1 rfl (qs1 rfl (qs1 rfl (qs1 rfl (qs1 rfl (qs1 rfl qs0)))))) ?_
      exact hk
    · refine R_iload dX8_mend_78 rfl ?_
      refine R_if_eqN (tgt := 120) dX8_mend_80 (by decide) (by omega) (fun h_80 => ?_) (fun h_80 => ?_)
      · have hf := bn_0.mp (show bn (flg d c z q) = 0 by omega)
        refine R_iconst (v := nI 0) dX8_mend_120 rfl ?_
        refine R_istore (L' := [(0, .ref 0), (1, .int (nI i)), (2, .int (nI c)), (3, .int (nI t)), (4, .int (z)), (5, .int (nI 0)), (6, .int (nI q))]) dX8_mend_121 (by decide) (qs1 rfl (qs1 rfl (qs1 rfl (qs1 rfl (qs1 rfl (qs1 rfl (qs1 rfl qs0))))))) ?_
        refine R_iincN (n := 1) (L' := [(0, .ref 0), (1, .int (nI i)), (2, .int (nI c)), (3, .int (nI t)), (4, .int (z)), (5, .int (nI 0)), (6, .int (nI (q + 1)))]) dX8_mend_123 rfl (by decide) (qs1 rfl (qs1 rfl (qs1 rfl (qs1 rfl (qs1 rfl (qs1 rfl (qs1 rfl qs0))))))) ?_
        refine R_goto (tgt := 72) dX8_mend_126 (by decide) ?_
        refine R_ls (L' := [(0, .ref 0), (1, .int (nI i)), (2, .int (nI c)), (3, .int (nI t)), (4, .int (z)), (5, .int (nI 0)), (6, .int (nI (q + 1)))]) (qs1 rfl (qs1 rfl (qs1 rfl (qs1 rfl (qs1 rfl (qs1 rfl (qs1 rfl qs0))))))) ?_
        exact (by have h := ih (q + 1) (by omega) (by omega); rw [show bn (flg d c z (q + 1)) = 0 from bn_0.mpr (flg_f hf)] at h; exact h)
      · have hf : ¬ flg d c z q = false := fun e => by rw [bn_0.mpr e] at h_80; omega
        refine R_aload_n dX8_mend_83 rfl ?_
        refine R_iload_n dX8_mend_84 rfl ?_
        refine R_iload dX8_mend_85 rfl ?_
        refine R_callV (mc := mX8_isThere) (As := [_, _]) (r := 0) dX8_mend_87 lm_RX8_184 mv_X8_isThere rfl (by decide) rfl rfl rfl rfl (Nat.le_of_ble_eq_true rfl) (m_isT hX hB hc (by omega)) ?_
        rintro _ _ ⟨rfl, ⟨rfl, hp⟩ | ⟨rfl, hp⟩⟩
        · obtain ⟨v, ev⟩ := Option.isSome_iff_exists.mp hp
          refine R_if_eqN (tgt := 116) dX8_mend_90 (by decide) (by omega) (fun h_90 => by exact absurd h_90 (by decide)) (fun h_90 => ?_)
          refine R_aload_n dX8_mend_93 rfl ?_
          refine R_iload_n dX8_mend_94 rfl ?_
          refine R_iload dX8_mend_95 rfl ?_
          refine R_callV (mc := mX8_valueOf) (As := [_, _]) (r := 0) dX8_mend_97 lm_RX8_164 mv_X8_valueOf rfl (by decide) rfl rfl rfl rfl (Nat.le_of_ble_eq_true rfl) (m_val hX hB hc (by omega)) ?_
          rintro _ _ ⟨rfl, rfl⟩
          refine R_top (y := v) (by rw [ev]; rfl) ?_
          refine R_iload dX8_mend_100 rfl ?_
          refine R_iadd dX8_mend_102 ?_
          refine R_i2l dX8_mend_103 ?_
          refine R_ldc2 dX8_mend_104 lc_RX8_177 ?_
          refine R_ldc2 dX8_mend_107 lc_RX8_179 ?_
          refine R_callS (mc := mX8_in) (As := [_, _, _]) dX8_mend_110 lm_RX8_98 mv_X8_in rfl rfl rfl (Nat.le_of_ble_eq_true rfl) m_in ?_
          rintro _ _ ⟨rfl, ⟨rfl, hv⟩ | ⟨rfl, hv⟩⟩
          · rw [in_val] at hv
            refine R_if_eqN (tgt := 120) dX8_mend_113 (by decide) (by omega) (fun h_113 => by exact absurd h_113 (by decide)) (fun h_113 => ?_)
            refine R_iconst (v := nI 1) dX8_mend_116 rfl ?_
            refine R_goto (tgt := 121) dX8_mend_117 (by decide) ?_
            refine R_istore (L' := [(0, .ref 0), (1, .int (nI i)), (2, .int (nI c)), (3, .int (nI t)), (4, .int (z)), (5, .int (nI 1)), (6, .int (nI q))]) dX8_mend_121 (by decide) (qs1 rfl (qs1 rfl (qs1 rfl (qs1 rfl (qs1 rfl (qs1 rfl (qs1 rfl qs0))))))) ?_
            refine R_iincN (n := 1) (L' := [(0, .ref 0), (1, .int (nI i)), (2, .int (nI c)), (3, .int (nI t)), (4, .int (z)), (5, .int (nI 1)), (6, .int (nI (q + 1)))]) dX8_mend_123 rfl (by decide) (qs1 rfl (qs1 rfl (qs1 rfl (qs1 rfl (qs1 rfl (qs1 rfl (qs1 rfl qs0))))))) ?_
            refine R_goto (tgt := 72) dX8_mend_126 (by decide) ?_
            refine R_ls (L' := [(0, .ref 0), (1, .int (nI i)), (2, .int (nI c)), (3, .int (nI t)), (4, .int (z)), (5, .int (nI 1)), (6, .int (nI (q + 1)))]) (qs1 rfl (qs1 rfl (qs1 rfl (qs1 rfl (qs1 rfl (qs1 rfl (qs1 rfl qs0))))))) ?_
            exact (by have h := ih (q + 1) (by omega) (by omega); rw [show bn (flg d c z (q + 1)) = 1 from by rw [flg_s hf, ev]; unfold bn; rw [if_pos (decide_eq_true hv)]] at h; exact h)
          · rw [in_val] at hv
            refine R_if_eqN (tgt := 120) dX8_mend_113 (by decide) (by omega) (fun h_113 => ?_) (fun h_113 => by exact absurd h_113 (by decide))
            refine R_iconst (v := nI 0) dX8_mend_120 rfl ?_
            refine R_istore (L' := [(0, .ref 0), (1, .int (nI i)), (2, .int (nI c)), (3, .int (nI t)), (4, .int (z)), (5, .int (nI 0)), (6, .int (nI q))]) dX8_mend_121 (by decide) (qs1 rfl (qs1 rfl (qs1 rfl (qs1 rfl (qs1 rfl (qs1 rfl (qs1 rfl qs0))))))) ?_
            refine R_iincN (n := 1) (L' := [(0, .ref 0), (1, .int (nI i)), (2, .int (nI c)), (3, .int (nI t)), (4, .int (z)), (5, .int (nI 0)), (6, .int (nI (q + 1)))]) dX8_mend_123 rfl (by decide) (qs1 rfl (qs1 rfl (qs1 rfl (qs1 rfl (qs1 rfl (qs1 rfl (qs1 rfl qs0))))))) ?_
            refine R_goto (tgt := 72) dX8_mend_126 (by decide) ?_
            refine R_ls (L' := [(0, .ref 0), (1, .int (nI i)), (2, .int (nI c)), (3, .int (nI t)), (4, .int (z)), (5, .int (nI 0)), (6, .int (nI (q + 1)))]) (qs1 rfl (qs1 rfl (qs1 rfl (qs1 rfl (qs1 rfl (qs1 rfl (qs1 rfl qs0))))))) ?_
            exact (by have h := ih (q + 1) (by omega) (by omega); rw [show bn (flg d c z (q + 1)) = 0 from by rw [flg_s hf, ev]; unfold bn; rw [if_neg (by simpa using hv)]] at h; exact h)
        · have ev : dV d c q = none := Option.not_isSome_iff_eq_none.mp hp
          refine R_if_eqN (tgt := 116) dX8_mend_90 (by decide) (by omega) (fun h_90 => ?_) (fun h_90 => by exact absurd h_90 (by decide))
          refine R_iconst (v := nI 1) dX8_mend_116 rfl ?_
          refine R_goto (tgt := 121) dX8_mend_117 (by decide) ?_
          refine R_istore (L' := [(0, .ref 0), (1, .int (nI i)), (2, .int (nI c)), (3, .int (nI t)), (4, .int (z)), (5, .int (nI 1)), (6, .int (nI q))]) dX8_mend_121 (by decide) (qs1 rfl (qs1 rfl (qs1 rfl (qs1 rfl (qs1 rfl (qs1 rfl (qs1 rfl qs0))))))) ?_
          refine R_iincN (n := 1) (L' := [(0, .ref 0), (1, .int (nI i)), (2, .int (nI c)), (3, .int (nI t)), (4, .int (z)), (5, .int (nI 1)), (6, .int (nI (q + 1)))]) dX8_mend_123 rfl (by decide) (qs1 rfl (qs1 rfl (qs1 rfl (qs1 rfl (qs1 rfl (qs1 rfl (qs1 rfl qs0))))))) ?_
          refine R_goto (tgt := 72) dX8_mend_126 (by decide) ?_
          refine R_ls (L' := [(0, .ref 0), (1, .int (nI i)), (2, .int (nI c)), (3, .int (nI t)), (4, .int (z)), (5, .int (nI 1)), (6, .int (nI (q + 1)))]) (qs1 rfl (qs1 rfl (qs1 rfl (qs1 rfl (qs1 rfl (qs1 rfl (qs1 rfl qs0))))))) ?_
          exact (by have h := ih (q + 1) (by omega) (by omega); rw [show bn (flg d c z (q + 1)) = 1 from by rw [flg_s hf, ev]; rfl] at h; exact h)

theorem shV_at {d : dT} {c q : Nat} {z : Int32} {a t : Nat} : dV (shV d c q z) a t = if a = c ∧ t < q then (dV d a t).map (fun x => x + z) else dV d a t := rfl
theorem MR_sh {K : qMem} {d : dT} {c q : Nat} {z x : Int32} (hK : dK d ≤ 6) (hY : dY d ≤ 16) (h : MR K (shV d c q z)) (hc : c < dK d) (hq : q < dY d) (hx : x = encM ((dV d c q).map (fun v => v + z))) : MR (qIs K 4 (16 * c + q) x) (shV d c (q + 1) z) := by
  obtain ⟨⟨h1, h2, h3, h4⟩, h5, h6, h7⟩ := h
  refine ⟨⟨by rw [qIs_no (by decide)]; exact h1, by rw [qIs_no (by decide)]; exact h2, fun a ha => by rw [qIs_no (by decide)]; exact h3 a ha, fun a ha => by rw [qIs_no (by decide)]; exact h4 a ha⟩, fun a b ha hb => ?_, by rw [qIs_nk (by omega)]; exact h6, fun k hk => by rw [qIs_nk (by omega)]; exact h7 k hk⟩
  have ha : a < dK d := ha
  have hb : b < dY d := hb
  have h5b := h5 a b ha hb
  rw [shV_at] at h5b ⊢
  rw [qIs_1]
  by_cases e : a = c ∧ b = q
  · rw [if_pos ⟨rfl, by rw [e.1, e.2, Nat.zero_add]⟩, if_pos ⟨e.1, by omega⟩, e.1, e.2]; exact hx
  · rw [if_neg (by omega), h5b]
    by_cases e2 : a = c ∧ b < q
    · rw [if_pos e2, if_pos ⟨e2.1, by omega⟩]
    · rw [if_neg e2, if_neg (by omega)]
theorem cnS_le {d : dT} {c : Nat} {z : Int32} {q t : Nat} (h : cnS d c z t = true) (hq : q ≤ t) : cnS d c z q = true := cnS_iff.mpr (fun b hb => cnS_iff.mp h b (by omega))
set_option maxRecDepth 100000 in
set_option maxHeartbeats 4000000 in
theorem m_mdS {w : qWT} {M K0 : qMem} {Q : qQ} {d : dT} (hB : dB d) {c t i : Nat} {z : Int32} (hc : c < dK d) (ht : t < dY d) (hcn : cnS d c z t = true) (hk : ∀ K : qMem, MR K (shV d c t z) → (∀ o, o ≠ 4 → K.1 o = K0.1 o) → (∀ k, 96 ≤ k → K.1 4 k = K0.1 4 k) → qRW 1 w mX8_mend 187 [(0, .ref 0), (1, .int (nI i)), (2, .int (nI c)), (3, .int (nI t)), (4, .int z)] [] K Q) : ∀ (fu : Nat) (q : Nat) (K : qMem), (t + 1 - q) < fu → (q ≤ t) → (MR K (shV d c q z)) → (∀ o, o ≠ 4 → K.1 o = K0.1 o) → (∀ k, 96 ≤ k → K.1 4 k = K0.1 4 k) → qRW 1 w mX8_mend 144 [(0, .ref 0), (1, .int (nI i)), (2, .int (nI c)), (3, .int (nI t)), (4, .int (z)), (6, .int (nI q))] [] K Q := by
  intro fu
  induction fu with
  | zero => intro q K hn; exact absurd hn (Nat.not_lt_zero _)
  | succ fu ih =>
    intro q K hn hq hR hE hF
    have hK6 := hB.2.1
    have hY16 := hB.1
    have hBq : dB (shV d c q z) := dB_shV hB (cnS_le hcn hq)
    have evq : dV (shV d c q z) c q = dV d c q := by rw [shV_at, if_neg (by omega)]
    refine R_iload dX8_mend_144 rfl ?_
    refine R_iload_n dX8_mend_146 rfl ?_
    refine R_icmp_geN (tgt := 187) dX8_mend_147 (by decide) (by omega) (by omega) (fun h_147 => ?_) (fun h_147 => ?_)
    · have e : q = t := by omega
      subst e
      refine R_ls (L' := [(0, .ref 0), (1, .int (nI i)), (2, .int (nI c)), (3, .int (nI q)), (4, .int z)]) (qs1 rfl (qs1 rfl (qs1 rfl (qs1 rfl (qs1 rfl qs0))))) ?_
      exact hk K hR hE hF
    · refine R_aload_n dX8_mend_150 rfl ?_
      refine R_getR dX8_mend_151 lg_RX8_19 (by decide) rfl rfl ?_
      refine R_bipush (v := nI 16) dX8_mend_154 rfl ?_
      refine R_iload_n dX8_mend_156 rfl ?_
      refine R_imulN dX8_mend_157 ?_
      refine R_iload dX8_mend_158 rfl ?_
      refine R_iaddN dX8_mend_160 ?_
      refine R_dup2 dX8_mend_161 rfl rfl ?_
      refine R_ialdN dX8_mend_162 (by decide) rfl (by omega) (by decide) ?_
      refine R_top (y := encM (dV d c q)) (by rw [← evq]; exact hR.v (show c < dK (shV d c q z) from hc) (show q < dY (shV d c q z) by have e9 : dY (shV d c q z) = dY d := rfl; omega)) ?_
      refine R_aload_n dX8_mend_163 rfl ?_
      refine R_iload_n dX8_mend_164 rfl ?_
      refine R_iload dX8_mend_165 rfl ?_
      refine R_callV (mc := mX8_isThere) (As := [_, _]) (r := 0) dX8_mend_167 lm_RX8_184 mv_X8_isThere rfl (by decide) rfl rfl rfl rfl (Nat.le_of_ble_eq_true rfl) (m_isT hR hBq (show c < dK (shV d c q z) from hc) (show q < dY (shV d c q z) by have e9 : dY (shV d c q z) = dY d := rfl; omega)) ?_
      rintro _ _ ⟨rfl, ⟨rfl, hp⟩ | ⟨rfl, hp⟩⟩
      · rw [evq] at hp
        obtain ⟨v, ev⟩ := Option.isSome_iff_exists.mp hp
        refine R_if_eqN (tgt := 178) dX8_mend_170 (by decide) (by omega) (fun h_170 => by exact absurd h_170 (by decide)) (fun h_170 => ?_)
        refine R_iload dX8_mend_173 rfl ?_
        refine R_goto (tgt := 179) dX8_mend_175 (by decide) ?_
        refine R_iadd dX8_mend_179 ?_
        refine R_iastN dX8_mend_180 (by decide) rfl (by omega) (by decide) ?_
        refine R_iincN (n := 1) (L' := [(0, .ref 0), (1, .int (nI i)), (2, .int (nI c)), (3, .int (nI t)), (4, .int (z)), (6, .int (nI (q + 1)))]) dX8_mend_181 rfl (by decide) (qs1 rfl (qs1 rfl (qs1 rfl (qs1 rfl (qs1 rfl (qs1 rfl qs0)))))) ?_
        refine R_goto (tgt := 144) dX8_mend_184 (by decide) ?_
        refine R_ls (L' := [(0, .ref 0), (1, .int (nI i)), (2, .int (nI c)), (3, .int (nI t)), (4, .int (z)), (6, .int (nI (q + 1)))]) (qs1 rfl (qs1 rfl (qs1 rfl (qs1 rfl (qs1 rfl (qs1 rfl qs0)))))) ?_
        exact (ih (q + 1) _ (by omega) (by omega) (MR_sh hK6 hY16 hR hc (by omega) (by rw [ev]; rfl)) (fun o ho => by rw [qIs_no ho]; exact hE o ho) (fun k hk => by rw [qIs_nk (by omega)]; exact hF k hk))
      · rw [evq] at hp
        have ev : dV d c q = none := Option.not_isSome_iff_eq_none.mp hp
        refine R_if_eqN (tgt := 178) dX8_mend_170 (by decide) (by omega) (fun h_170 => ?_) (fun h_170 => by exact absurd h_170 (by decide))
        refine R_iconst (v := nI 0) dX8_mend_178 rfl ?_
        refine R_iadd dX8_mend_179 ?_
        refine R_iastN dX8_mend_180 (by decide) rfl (by omega) (by decide) ?_
        refine R_iincN (n := 1) (L' := [(0, .ref 0), (1, .int (nI i)), (2, .int (nI c)), (3, .int (nI t)), (4, .int (z)), (6, .int (nI (q + 1)))]) dX8_mend_181 rfl (by decide) (qs1 rfl (qs1 rfl (qs1 rfl (qs1 rfl (qs1 rfl (qs1 rfl qs0)))))) ?_
        refine R_goto (tgt := 144) dX8_mend_184 (by decide) ?_
        refine R_ls (L' := [(0, .ref 0), (1, .int (nI i)), (2, .int (nI c)), (3, .int (nI t)), (4, .int (z)), (6, .int (nI (q + 1)))]) (qs1 rfl (qs1 rfl (qs1 rfl (qs1 rfl (qs1 rfl (qs1 rfl qs0)))))) ?_
        exact (ih (q + 1) _ (by omega) (by omega) (MR_sh hK6 hY16 hR hc (by omega) (by rw [ev]; rfl)) (fun o ho => by rw [qIs_no ho]; exact hE o ho) (fun k hk => by rw [qIs_nk (by omega)]; exact hF k hk))
