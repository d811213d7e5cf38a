
-- ===== the model: the best segmentation =====
theorem cst_v {l : List (Nat × Int32)} {R k p : Nat} {s : Int} (hk : k < 1000) (hp : p ≤ 99999) (h : rst l.length R (fz l) k 0 = some s) : Int64.ofInt s + 720720 * (nI p).toInt64 * (nI k).toInt64 = Int64.ofInt (vl l.length R (fz l) (sP p) 0 k) := by
  rw [j_n (by omega), j_n (by omega), show (720720 : Int64) = Int64.ofInt 720720 from rfl, ← Int64.ofInt_mul, ← Int64.ofInt_mul, ← Int64.ofInt_add]
  unfold vl sP; rw [h]; rfl
theorem vm_b {l : List (Nat × Int32)} (hb : serB l) (hl : l.length ≤ 16) {R k p : Nat} {s : Int} (hk : k < 16) (hp : p ≤ 99999) (h : rst l.length R (fz l) k 0 = some s) : -1000000000000000000 ≤ vl l.length R (fz l) (sP p) 0 k ∧ vl l.length R (fz l) (sP p) 0 k ≤ 1000000000000000000 := by
  have h1 := rst_ok hb hl hk s h
  have h2 := sP_b hp
  have h3 : sP p * (k : Int) ≤ 72071279280 * 16 := Int.mul_le_mul h2.2 (by omega) (by omega) (by omega)
  have h4 : 0 ≤ sP p * (k : Int) := Int.mul_nonneg h2.1 (by omega)
  unfold vl; rw [h]
  show -1000000000000000000 ≤ s + sP p * k ∧ s + sP p * k ≤ 1000000000000000000
  constructor <;> omega
theorem encF_some {x : Option Int} (h : okF x) (hn : ¬ FAR ≤ encF x) : ∃ r, x = some r := by
  cases x with
  | none => exact absurd ((encF_ge h).mpr rfl) hn
  | some r => exact ⟨r, rfl⟩
theorem nx_at {n R : Nat} {f : Nat → Nat → Int} {k i j X : Nat} (h4 : ∀ a, i + R ≤ a → a < X → isx n R f k i a = false) (hj : i + R ≤ j) (hj2 : j ≤ X) (h : isx n R f k i j = true) : j = X := by
  rcases Nat.lt_or_ge j X with z | z
  · rw [h4 j hj z] at h; cases h
  · omega
theorem j_lt {a b : Int} (ha : -1000000000000000000 ≤ a ∧ a ≤ 1000000000000000000) (hb : -1000000000000000000 ≤ b ∧ b ≤ 1000000000000000000) : Int64.ofInt b ≤ Int64.ofInt a ↔ b ≤ a := by
  rw [Int64.le_iff_toInt_le, j_ofI (by omega) (by omega), j_ofI (by omega) (by omega)]
set_option maxRecDepth 100000 in
set_option maxHeartbeats 4000000 in
theorem m_bbL {w : qWT} {M : qMem} {l : List (Nat × Int32)} {R p : Nat} (hb : serB l) (hl16 : l.length ≤ 16) (hR : 1 ≤ R) (hp : p ≤ 99999) (hA : LR M l R) : ∀ (fu : Nat) (m : Nat), (16 - m) < fu → (m ≤ 15) → qRW 1 w mX8_breaksBy 4 [(0, .ref 0), (1, .int (nI p)), (2, .int (nI (bk l.length R (fz l) (sP p) 0 m))), (3, .int (nI (m + 1)))] [] M (qr (nI (bkN l R p)) M) := by
  intro fu
  induction fu with
  | zero => intro m hn; exact absurd hn (Nat.not_lt_zero _)
  | succ fu ih =>
    intro m hn hm
    have hle := bk_le l.length R (fz l) (sP p) 0 m
    obtain ⟨s0, hs0⟩ := Option.isSome_iff_exists.mp (bk_spec l.length R (fz l) (sP p) (i := 0) (Or.inl rfl) m).1
    refine R_iload_n dX8_breaksBy_4 rfl ?_
    refine R_bipush (v := nI 16) dX8_breaksBy_5 rfl ?_
    refine R_icmp_geN (tgt := 80) dX8_breaksBy_7 (by decide) (by omega) (by omega) (fun h_7 => ?_) (fun h_7 => ?_)
    · refine R_iload_n dX8_breaksBy_80 rfl ?_
      refine R_ireturn dX8_breaksBy_81 rfl rfl ?_
      have e : m = 15 := by omega
      subst e
      exact ⟨rfl, rfl⟩
    · refine R_aload_n dX8_breaksBy_10 rfl ?_
      refine R_getR dX8_breaksBy_11 lg_RX8_44 (by decide) rfl rfl ?_
      refine R_bipush (v := nI 17) dX8_breaksBy_14 rfl ?_
      refine R_iload_n dX8_breaksBy_16 rfl ?_
      refine R_imulN dX8_breaksBy_17 ?_
      refine R_laldN dX8_breaksBy_18 (by decide) rfl (by omega) (by decide) ?_
      refine R_topL (y := encF (rst l.length R (fz l) (m + 1) 0)) (hA (m + 1) 0 (by omega) (by omega)) ?_
      refine R_ldc2 dX8_breaksBy_19 lc_RX8_223 ?_
      refine R_iload_n dX8_breaksBy_22 rfl ?_
      refine R_i2l dX8_breaksBy_23 ?_
      refine R_lmul dX8_breaksBy_24 ?_
      refine R_iload_n dX8_breaksBy_25 rfl ?_
      refine R_i2l dX8_breaksBy_26 ?_
      refine R_lmul dX8_breaksBy_27 ?_
      refine R_ladd dX8_breaksBy_28 ?_
      refine R_topL (y := encF (rst l.length R (fz l) (m + 1) 0) + 720720 * (nI p).toInt64 * (nI (m + 1)).toInt64) rfl ?_
      refine R_lstore (L' := [(0, .ref 0), (1, .int (nI p)), (2, .int (nI (bk l.length R (fz l) (sP p) 0 m))), (3, .int (nI (m + 1))), (4, .long (encF (rst l.length R (fz l) (m + 1) 0) + 720720 * (nI p).toInt64 * (nI (m + 1)).toInt64))]) dX8_breaksBy_29 (by decide) (qs1 rfl (qs1 rfl (qs1 rfl (qs1 rfl (qs1 rfl qs0))))) ?_
      refine R_aload_n dX8_breaksBy_31 rfl ?_
      refine R_getR dX8_breaksBy_32 lg_RX8_44 (by decide) rfl rfl ?_
      refine R_bipush (v := nI 17) dX8_breaksBy_35 rfl ?_
      refine R_iload_n dX8_breaksBy_37 rfl ?_
      refine R_imulN dX8_breaksBy_38 ?_
      refine R_laldN dX8_breaksBy_39 (by decide) rfl (by omega) (by decide) ?_
      refine R_topL (y := encF (rst l.length R (fz l) (m + 1) 0)) (hA (m + 1) 0 (by omega) (by omega)) ?_
      refine R_ldc2 dX8_breaksBy_40 lc_RX8_229 ?_
      refine R_lc_ge (tgt := 74) dX8_breaksBy_43 dX8_breaksBy_44 (by decide) (fun h_43 => ?_) (fun h_43 => ?_)
      · have hno := (encF_ge (rst_ok hb hl16 (by omega))).mp h_43
        refine R_iincN (n := 1) (L' := [(0, .ref 0), (1, .int (nI p)), (2, .int (nI (bk l.length R (fz l) (sP p) 0 m))), (3, .int (nI ((m + 1) + 1))), (4, .long (encF (rst l.length R (fz l) (m + 1) 0) + 720720 * (nI p).toInt64 * (nI (m + 1)).toInt64))]) dX8_breaksBy_74 rfl (by decide) (qs1 rfl (qs1 rfl (qs1 rfl (qs1 rfl (qs1 rfl qs0))))) ?_
        refine R_goto (tgt := 4) dX8_breaksBy_77 (by decide) ?_
        refine R_ls (L' := [(0, .ref 0), (1, .int (nI p)), (2, .int (nI (bk l.length R (fz l) (sP p) 0 m))), (3, .int (nI ((m + 1) + 1)))]) (qs1 rfl (qs1 rfl (qs1 rfl (qs1 rfl qs0)))) ?_
        exact (by have h := ih (m + 1) (by omega) (by omega); rw [show bk l.length R (fz l) (sP p) 0 (m + 1) = (if (rst l.length R (fz l) (m + 1) 0).isSome ∧ vl l.length R (fz l) (sP p) 0 (m + 1) < vl l.length R (fz l) (sP p) 0 (bk l.length R (fz l) (sP p) 0 m) then m + 1 else bk l.length R (fz l) (sP p) 0 m) from rfl, if_neg (fun z => by rw [hno] at z; exact absurd z.1 (by decide))] at h; exact h)
      · obtain ⟨s1, hs1⟩ := encF_some (rst_ok hb hl16 (by omega)) h_43
        have hv1 := vm_b hb hl16 (show m + 1 < 16 by omega) hp hs1
        have hv0 := vm_b hb hl16 (show bk l.length R (fz l) (sP p) 0 m < 16 by omega) hp hs0
        refine R_lload dX8_breaksBy_47 rfl ?_
        refine R_topL (y := Int64.ofInt (vl l.length R (fz l) (sP p) 0 (m + 1))) (by rw [hs1]; exact cst_v (by omega) hp hs1) ?_
        refine R_aload_n dX8_breaksBy_49 rfl ?_
        refine R_getR dX8_breaksBy_50 lg_RX8_44 (by decide) rfl rfl ?_
        refine R_bipush (v := nI 17) dX8_breaksBy_53 rfl ?_
        refine R_iload_n dX8_breaksBy_55 rfl ?_
        refine R_imulN dX8_breaksBy_56 ?_
        refine R_laldN dX8_breaksBy_57 (by decide) rfl (by omega) (by decide) ?_
        refine R_topL (y := encF (rst l.length R (fz l) (bk l.length R (fz l) (sP p) 0 m) 0)) (hA _ 0 (by omega) (by omega)) ?_
        refine R_ldc2 dX8_breaksBy_58 lc_RX8_223 ?_
        refine R_iload_n dX8_breaksBy_61 rfl ?_
        refine R_i2l dX8_breaksBy_62 ?_
        refine R_lmul dX8_breaksBy_63 ?_
        refine R_iload_n dX8_breaksBy_64 rfl ?_
        refine R_i2l dX8_breaksBy_65 ?_
        refine R_lmul dX8_breaksBy_66 ?_
        refine R_ladd dX8_breaksBy_67 ?_
        refine R_topL (y := Int64.ofInt (vl l.length R (fz l) (sP p) 0 (bk l.length R (fz l) (sP p) 0 m))) (by rw [hs0]; exact cst_v (by omega) hp hs0) ?_
        refine R_lc_ge (tgt := 74) dX8_breaksBy_68 dX8_breaksBy_69 (by decide) (fun h_68 => ?_) (fun h_68 => ?_)
        · refine R_iincN (n := 1) (L' := [(0, .ref 0), (1, .int (nI p)), (2, .int (nI (bk l.length R (fz l) (sP p) 0 m))), (3, .int (nI ((m + 1) + 1))), (4, .long (encF (rst l.length R (fz l) (m + 1) 0) + 720720 * (nI p).toInt64 * (nI (m + 1)).toInt64))]) dX8_breaksBy_74 rfl (by decide) (qs1 rfl (qs1 rfl (qs1 rfl (qs1 rfl (qs1 rfl qs0))))) ?_
          refine R_goto (tgt := 4) dX8_breaksBy_77 (by decide) ?_
          refine R_ls (L' := [(0, .ref 0), (1, .int (nI p)), (2, .int (nI (bk l.length R (fz l) (sP p) 0 m))), (3, .int (nI ((m + 1) + 1)))]) (qs1 rfl (qs1 rfl (qs1 rfl (qs1 rfl qs0)))) ?_
          exact (by have h := ih (m + 1) (by omega) (by omega); rw [show bk l.length R (fz l) (sP p) 0 (m + 1) = (if (rst l.length R (fz l) (m + 1) 0).isSome ∧ vl l.length R (fz l) (sP p) 0 (m + 1) < vl l.length R (fz l) (sP p) 0 (bk l.length R (fz l) (sP p) 0 m) then m + 1 else bk l.length R (fz l) (sP p) 0 m) from rfl, if_neg (fun z => by have := (j_lt hv1 hv0).mp h_68; omega)] at h; exact h)
        · refine R_iload_n dX8_breaksBy_72 rfl ?_
          refine R_istore_n (L' := [(0, .ref 0), (1, .int (nI p)), (2, .int (nI (m + 1))), (3, .int (nI (m + 1))), (4, .long (encF (rst l.length R (fz l) (m + 1) 0) + 720720 * (nI p).toInt64 * (nI (m + 1)).toInt64))]) dX8_breaksBy_73 (by decide) (qs1 rfl (qs1 rfl (qs1 rfl (qs1 rfl (qs1 rfl qs0))))) ?_
          refine R_iincN (n := 1) (L' := [(0, .ref 0), (1, .int (nI p)), (2, .int (nI (m + 1))), (3, .int (nI ((m + 1) + 1))), (4, .long (encF (rst l.length R (fz l) (m + 1) 0) + 720720 * (nI p).toInt64 * (nI (m + 1)).toInt64))]) dX8_breaksBy_74 rfl (by decide) (qs1 rfl (qs1 rfl (qs1 rfl (qs1 rfl (qs1 rfl qs0))))) ?_
          refine R_goto (tgt := 4) dX8_breaksBy_77 (by decide) ?_
          refine R_ls (L' := [(0, .ref 0), (1, .int (nI p)), (2, .int (nI (m + 1))), (3, .int (nI ((m + 1) + 1)))]) (qs1 rfl (qs1 rfl (qs1 rfl (qs1 rfl qs0)))) ?_
          exact (by have h := ih (m + 1) (by omega) (by omega); rw [show bk l.length R (fz l) (sP p) 0 (m + 1) = (if (rst l.length R (fz l) (m + 1) 0).isSome ∧ vl l.length R (fz l) (sP p) 0 (m + 1) < vl l.length R (fz l) (sP p) 0 (bk l.length R (fz l) (sP p) 0 m) then m + 1 else bk l.length R (fz l) (sP p) 0 m) from rfl, if_pos ⟨by rw [hs1]; rfl, Int.not_le.mp (fun z => h_68 ((j_lt hv1 hv0).mpr z))⟩] at h; exact h)
set_option maxRecDepth 100000 in
set_option maxHeartbeats 4000000 in
theorem m_bb {M : qMem} {l : List (Nat × Int32)} {R p : Nat} (hb : serB l) (hl16 : l.length ≤ 16) (hR : 1 ≤ R) (hp : p ≤ 99999) (hA : LR M l R) : qSem 1 mX8_breaksBy [.ref 0, .int (nI p)] M (qr (nI (bkN l R p)) M) := by
  refine qSem.of (by decide +kernel) (Nat.le_of_ble_eq_true rfl) (fun w => ?_)
  refine R_ls (L' := [(0, .ref 0), (1, .int (nI p))]) (qs1 rfl (qs1 rfl qs0)) ?_
  refine R_iconst (v := nI 0) dX8_breaksBy_0 rfl ?_
  refine R_istore_n (L' := [(0, .ref 0), (1, .int (nI p)), (2, .int (nI 0))]) dX8_breaksBy_1 (by decide) (qs1 rfl (qs1 rfl (qs1 rfl qs0))) ?_
  refine R_iconst (v := nI 1) dX8_breaksBy_2 rfl ?_
  refine R_istore_n (L' := [(0, .ref 0), (1, .int (nI p)), (2, .int (nI 0)), (3, .int (nI 1))]) dX8_breaksBy_3 (by decide) (qs1 rfl (qs1 rfl (qs1 rfl (qs1 rfl qs0)))) ?_
  refine R_ls (L' := [(0, .ref 0), (1, .int (nI p)), (2, .int (nI 0)), (3, .int (nI 1))]) (qs1 rfl (qs1 rfl (qs1 rfl (qs1 rfl qs0)))) ?_
  exact (m_bbL hb hl16 hR hp hA 17 0 (by omega) (by omega))

def FB (N : qMem) (l : List (Nat × Int32)) (R p : Nat) : Prop := MS N l ∧ LR N l R ∧ N.1 0 20 = nI (bkN l R p) ∧ ∀ a, a < bkN l R p → N.1 13 a = nI (stN l R p (a + 1))
theorem LR.off {M N : qMem} {l : List (Nat × Int32)} {R : Nat} (h : LR M l R) (e : N.2 12 = M.2 12) : LR N l R := fun a b ha hb => by rw [e]; exact h a b ha hb
set_option maxRecDepth 100000 in
set_option maxHeartbeats 4000000 in
theorem m_fbJ {w : qWT} {M : qMem} {d : dT} {l : List (Nat × Int32)} {R p : Nat} (hb : serB l) (hl16 : l.length ≤ 16) (hR : 1 ≤ R) (hR4 : R ≤ 4) {u v_ q : Nat} (hq : q < bkN l R p) (hk : ∀ K : qMem, MR K d → MS K l → LR K l R → K.1 0 20 = nI (bkN l R p) → (∀ a, a < q + 1 → K.1 13 a = nI (stN l R p (a + 1))) → cOff sSc M K → qRW 1 w mX8_findBest 131 [(0, .ref 0), (1, .int (nI u)), (2, .int (nI v_)), (3, .int (nI (stN l R p (q + 1)))), (4, .int (nI (bkN l R p - q)))] [] K (fun v N => v = none ∧ FB N l R p ∧ cOff sSc M N)) : ∀ (fu : Nat) (j : Nat) (K : qMem), (200 - j) < fu → (stN l R p q + R ≤ j) → (j ≤ nx l.length R (fz l) (bkN l R p - q) (stN l R p q)) → (MR K d) → (dR d 0 = R) → (MS K l) → (LR K l R) → (K.1 0 20 = nI (bkN l R p)) → (∀ a, a < q → K.1 13 a = nI (stN l R p (a + 1))) → (cOff sSc M K) → qRW 1 w mX8_findBest 45 [(0, .ref 0), (1, .int (nI u)), (2, .int (nI v_)), (3, .int (nI (stN l R p q))), (4, .int (nI (bkN l R p - q))), (5, .int (nI j))] [] K (fun v N => v = none ∧ FB N l R p ∧ cOff sSc M N) := by
  intro fu
  induction fu with
  | zero => intro j K hn; exact absurd hn (Nat.not_lt_zero _)
  | succ fu ih =>
    intro j K hn hj hj2 hX hR0 hS hA h20 h13 hO
    obtain ⟨ho1, ho2⟩ := stp_ok (R := R) (f := fz l) (P := sP p) hR hl16 q (Nat.le_of_lt hq)
    have hb15 := bkN_le l R p
    obtain ⟨kk, hkk⟩ : ∃ kk, bkN l R p - q = kk + 1 := ⟨bkN l R p - q - 1, by omega⟩
    have hsm : (rst l.length R (fz l) (kk + 1) (stN l R p q)).isSome := by have h := (bk_spec l.length R (fz l) (sP p) (i := stN l R p q) ho1 15).1; have e2 : bk l.length R (fz l) (sP p) (stN l R p q) 15 = kk + 1 := (ho2.trans hkk); rw [e2] at h; exact h
    obtain ⟨nx1, nx2, nx3, nx4⟩ := nx_spec l.length R (fz l) hsm
    have hstep : stN l R p (q + 1) = nx l.length R (fz l) (kk + 1) (stN l R p q) := by show (if q < bkN l R p then nx l.length R (fz l) (bkN l R p - q) (stN l R p q) else l.length) = _; rw [if_pos hq, hkk]
    have hkl : bkN l R p - q - 1 = kk := by omega
    have hj3 : j ≤ nx l.length R (fz l) (kk + 1) (stN l R p q) := by rw [hkk] at hj2; exact hj2
    obtain ⟨r1, hr1⟩ := Option.isSome_iff_exists.mp hsm
    have hok := rst_ok hb hl16 (R := R) (k := kk) (i := j) (by omega)
    have hok1 := rst_ok hb hl16 (R := R) (k := kk + 1) (i := stN l R p q) (by omega) r1 hr1
    refine R_aload_n dX8_findBest_45 rfl ?_
    refine R_getR dX8_findBest_46 lg_RX8_44 (by decide) rfl rfl ?_
    refine R_bipush (v := nI 17) dX8_findBest_49 rfl ?_
    refine R_iload dX8_findBest_51 rfl ?_
    refine R_iconst (v := nI 1) dX8_findBest_53 rfl ?_
    refine R_isubN dX8_findBest_54 (by omega) ?_
    refine R_top (y := nI kk) (by rw [hkl]) ?_
    refine R_imulN dX8_findBest_55 ?_
    refine R_iload dX8_findBest_56 rfl ?_
    refine R_iaddN dX8_findBest_58 ?_
    refine R_laldN dX8_findBest_59 (by decide) rfl (by omega) (by decide) ?_
    refine R_topL (y := encF (rst l.length R (fz l) kk j)) (hA kk j (by omega) (by omega)) ?_
    refine R_ldc2 dX8_findBest_60 lc_RX8_229 ?_
    refine R_lc_ge (tgt := 108) dX8_findBest_63 dX8_findBest_64 (by decide) (fun h_63 => ?_) (fun h_63 => ?_)
    · have hno := (encF_ge hok).mp h_63
      refine R_iincN (n := 1) (L' := [(0, .ref 0), (1, .int (nI u)), (2, .int (nI v_)), (3, .int (nI (stN l R p q))), (4, .int (nI (bkN l R p - q))), (5, .int (nI (j + 1)))]) dX8_findBest_108 rfl (by decide) (qs1 rfl (qs1 rfl (qs1 rfl (qs1 rfl (qs1 rfl (qs1 rfl qs0)))))) ?_
      refine R_goto (tgt := 45) dX8_findBest_111 (by decide) ?_
      refine R_ls (L' := [(0, .ref 0), (1, .int (nI u)), (2, .int (nI v_)), (3, .int (nI (stN l R p q))), (4, .int (nI (bkN l R p - q))), (5, .int (nI (j + 1)))]) (qs1 rfl (qs1 rfl (qs1 rfl (qs1 rfl (qs1 rfl (qs1 rfl qs0)))))) ?_
      exact (ih (j + 1) K (by omega) (by omega) (by rw [hkk]; have hne : ¬ isx l.length R (fz l) (kk + 1) (stN l R p q) j = true := (fun z => by obtain ⟨r, z1, _⟩ := (isx_iff l.length R (fz l)).mp z; rw [Nat.add_sub_cancel, hno] at z1; cases z1); rcases Nat.lt_or_ge j (nx l.length R (fz l) (kk + 1) (stN l R p q)) with z | z; exact z; exact absurd (by rw [show j = nx l.length R (fz l) (kk + 1) (stN l R p q) by omega]; exact nx3) hne) hX hR0 hS hA h20 h13 hO)
    · obtain ⟨r, hr⟩ := encF_some hok h_63
      have hrb := hok r hr
      have hfb := fz_b hb hl16 (stN l R p q) j (by omega)
      refine R_aload_n dX8_findBest_67 rfl ?_
      refine R_iload_n dX8_findBest_68 rfl ?_
      refine R_iload dX8_findBest_69 rfl ?_
      refine R_iconst (v := nI 1) dX8_findBest_71 rfl ?_
      refine R_isubN dX8_findBest_72 (by omega) ?_
      refine R_callV (mc := mX8_spreadOf) (As := [_, _]) (r := 0) dX8_findBest_73 lm_RX8_231 mv_X8_spreadOf rfl (by decide) rfl rfl rfl rfl (Nat.le_of_ble_eq_true rfl) (m_spr hS (i := stN l R p q) (j := j - 1) (by omega) (by omega)) ?_
      rintro _ _ ⟨rfl, rfl⟩
      refine R_topL (y := Int64.ofInt (fz l (stN l R p q) j)) (by rw [fz_I, show j - 1 + 1 = j by omega]) ?_
      refine R_aload_n dX8_findBest_76 rfl ?_
      refine R_getR dX8_findBest_77 lg_RX8_44 (by decide) rfl rfl ?_
      refine R_bipush (v := nI 17) dX8_findBest_80 rfl ?_
      refine R_iload dX8_findBest_82 rfl ?_
      refine R_iconst (v := nI 1) dX8_findBest_84 rfl ?_
      refine R_isubN dX8_findBest_85 (by omega) ?_
      refine R_top (y := nI kk) (by rw [hkl]) ?_
      refine R_imulN dX8_findBest_86 ?_
      refine R_iload dX8_findBest_87 rfl ?_
      refine R_iaddN dX8_findBest_89 ?_
      refine R_laldN dX8_findBest_90 (by decide) rfl (by omega) (by decide) ?_
      refine R_topL (y := Int64.ofInt r) ((hA kk j (by omega) (by omega)).trans (by show encF (rst l.length R (fz l) kk j) = _; rw [hr]; rfl)) ?_
      refine R_ladd dX8_findBest_91 ?_
      refine R_topL (y := Int64.ofInt (fz l (stN l R p q) j + r)) (Int64.ofInt_add _ _).symm ?_
      refine R_aload_n dX8_findBest_92 rfl ?_
      refine R_getR dX8_findBest_93 lg_RX8_44 (by decide) rfl rfl ?_
      refine R_bipush (v := nI 17) dX8_findBest_96 rfl ?_
      refine R_iload dX8_findBest_98 rfl ?_
      refine R_imulN dX8_findBest_100 ?_
      refine R_iload_n dX8_findBest_101 rfl ?_
      refine R_iaddN dX8_findBest_102 ?_
      refine R_laldN dX8_findBest_103 (by decide) rfl (by omega) (by decide) ?_
      refine R_topL (y := Int64.ofInt r1) (by rw [hkk]; exact (hA (kk + 1) (stN l R p q) (by omega) (by omega)).trans (by show encF (rst l.length R (fz l) (kk + 1) (stN l R p q)) = _; rw [hr1]; rfl)) ?_
      refine R_lc_eq (tgt := 114) dX8_findBest_104 dX8_findBest_105 (by decide) (fun h_104 => ?_) (fun h_104 => ?_)
      · have he : fz l (stN l R p q) j + r = r1 := by have h := congrArg Int64.toInt h_104; rw [j_ofI (by omega) (by omega), j_ofI (by omega) (by omega)] at h; exact h
        have hjx : j = stN l R p (q + 1) := by rw [hstep]; exact nx_at nx4 hj hj3 ((isx_iff l.length R (fz l)).mpr ⟨r, by rw [Nat.add_sub_cancel]; exact hr, by rw [hr1, he]⟩)
        refine R_aload_n dX8_findBest_114 rfl ?_
        refine R_getR dX8_findBest_115 lg_RX8_47 (by decide) rfl rfl ?_
        refine R_aload_n dX8_findBest_118 rfl ?_
        refine R_getI dX8_findBest_119 (lf_RX8_240).get (by decide) rfl rfl ?_
        refine R_top (y := nI (bkN l R p)) h20 ?_
        refine R_iload dX8_findBest_122 rfl ?_
        refine R_isubN dX8_findBest_124 (by omega) ?_
        refine R_top (y := nI q) (by rw [show bkN l R p - (bkN l R p - q) = q by omega]) ?_
        refine R_iload dX8_findBest_125 rfl ?_
        refine R_iastN dX8_findBest_127 (by decide) rfl (by omega) (by decide) ?_
        refine R_iload dX8_findBest_128 rfl ?_
        refine R_istore_n (L' := [(0, .ref 0), (1, .int (nI u)), (2, .int (nI v_)), (3, .int (nI j)), (4, .int (nI (bkN l R p - q))), (5, .int (nI j))]) dX8_findBest_130 (by decide) (qs1 rfl (qs1 rfl (qs1 rfl (qs1 rfl (qs1 rfl (qs1 rfl qs0)))))) ?_
        refine R_ls (L' := [(0, .ref 0), (1, .int (nI u)), (2, .int (nI v_)), (3, .int (nI (stN l R p (q + 1)))), (4, .int (nI (bkN l R p - q)))]) (qs1 rfl (qs1 rfl (qs1 rfl (qs1 (by rw [← hjx]; rfl) (qs1 rfl qs0))))) ?_
        exact hk _ (hX.off rfl rfl rfl rfl rfl) (hS.off rfl rfl rfl) (hA.off rfl) (by rw [qIs_no (by omega)]; exact h20) (fun a ha => by rw [qIs_1]; by_cases e : a = q; rw [if_pos ⟨rfl, e⟩, hjx, e]; rw [if_neg (fun z => e z.2)]; exact h13 a (by omega)) (hO.is (by unfold sSc; omega))
      · refine R_iincN (n := 1) (L' := [(0, .ref 0), (1, .int (nI u)), (2, .int (nI v_)), (3, .int (nI (stN l R p q))), (4, .int (nI (bkN l R p - q))), (5, .int (nI (j + 1)))]) dX8_findBest_108 rfl (by decide) (qs1 rfl (qs1 rfl (qs1 rfl (qs1 rfl (qs1 rfl (qs1 rfl qs0)))))) ?_
        refine R_goto (tgt := 45) dX8_findBest_111 (by decide) ?_
        refine R_ls (L' := [(0, .ref 0), (1, .int (nI u)), (2, .int (nI v_)), (3, .int (nI (stN l R p q))), (4, .int (nI (bkN l R p - q))), (5, .int (nI (j + 1)))]) (qs1 rfl (qs1 rfl (qs1 rfl (qs1 rfl (qs1 rfl (qs1 rfl qs0)))))) ?_
        exact (ih (j + 1) K (by omega) (by omega) (by rw [hkk]; have hne : ¬ isx l.length R (fz l) (kk + 1) (stN l R p q) j = true := (fun z => by obtain ⟨r9, z1, z2⟩ := (isx_iff l.length R (fz l)).mp z; rw [Nat.add_sub_cancel, hr] at z1; cases z1; rw [hr1] at z2; cases z2; exact h_104 rfl); rcases Nat.lt_or_ge j (nx l.length R (fz l) (kk + 1) (stN l R p q)) with z | z; exact z; exact absurd (by rw [show j = nx l.length R (fz l) (kk + 1) (stN l R p q) by omega]; exact nx3) hne) hX hR0 hS hA h20 h13 hO)
set_option maxRecDepth 100000 in
set_option maxHeartbeats 4000000 in
theorem m_fbQ {w : qWT} {M : qMem} {d : dT} {l : List (Nat × Int32)} {R p : Nat} (hb : serB l) (hl16 : l.length ≤ 16) (hR : 1 ≤ R) (hR4 : R ≤ 4) {u v_ : Nat} : ∀ (fu : Nat) (q : Nat) (K : qMem), (bkN l R p + 1 - q) < fu → (q ≤ bkN l R p) → (MR K d) → (dR d 0 = R) → (MS K l) → (LR K l R) → (K.1 0 20 = nI (bkN l R p)) → (∀ a, a < q → K.1 13 a = nI (stN l R p (a + 1))) → (cOff sSc M K) → qRW 1 w mX8_findBest 29 [(0, .ref 0), (1, .int (nI u)), (2, .int (nI v_)), (3, .int (nI (stN l R p q))), (4, .int (nI (bkN l R p - q)))] [] K (fun v N => v = none ∧ FB N l R p ∧ cOff sSc M N) := by
  intro fu
  induction fu with
  | zero => intro q K hn; exact absurd hn (Nat.not_lt_zero _)
  | succ fu ih =>
    intro q K hn hq0 hX hR0 hS hA h20 h13 hO
    have hb15 := bkN_le l R p
    refine R_iload dX8_findBest_29 rfl ?_
    refine R_if_leN (tgt := 137) dX8_findBest_31 (by decide) (by omega) (fun h_31 => ?_) (fun h_31 => ?_)
    · refine R_return dX8_findBest_137 rfl ?_
      have e : q = bkN l R p := by omega
      subst e
      exact ⟨rfl, ⟨hS, hA, h20, h13⟩, hO⟩
    · refine R_iload_n dX8_findBest_34 rfl ?_
      refine R_aload_n dX8_findBest_35 rfl ?_
      refine R_getR dX8_findBest_36 lg_RX8_19 (by decide) rfl rfl ?_
      refine R_bipush (v := nI 97) dX8_findBest_39 rfl ?_
      refine R_ialdN dX8_findBest_41 (by decide) rfl (by omega) (by decide) ?_
      refine R_top (y := nI R) (by rw [← hR0]; exact hX.r (k := 0) (by omega)) ?_
      refine R_iaddN dX8_findBest_42 ?_
      refine R_istore (L' := [(0, .ref 0), (1, .int (nI u)), (2, .int (nI v_)), (3, .int (nI (stN l R p q))), (4, .int (nI (bkN l R p - q))), (5, .int (nI ((stN l R p q) + R)))]) dX8_findBest_43 (by decide) (qs1 rfl (qs1 rfl (qs1 rfl (qs1 rfl (qs1 rfl (qs1 rfl qs0)))))) ?_
      have hq : q < bkN l R p := by omega
      obtain ⟨ho1, ho2⟩ := stp_ok (R := R) (f := fz l) (P := sP p) hR hl16 q (Nat.le_of_lt hq)
      have hb15 := bkN_le l R p
      obtain ⟨kk, hkk⟩ : ∃ kk, bkN l R p - q = kk + 1 := ⟨bkN l R p - q - 1, by omega⟩
      have hsm : (rst l.length R (fz l) (kk + 1) (stN l R p q)).isSome := by have h := (bk_spec l.length R (fz l) (sP p) (i := stN l R p q) ho1 15).1; have e2 : bk l.length R (fz l) (sP p) (stN l R p q) 15 = kk + 1 := (ho2.trans hkk); rw [e2] at h; exact h
      obtain ⟨nx1, nx2, nx3, nx4⟩ := nx_spec l.length R (fz l) hsm
      have hstep : stN l R p (q + 1) = nx l.length R (fz l) (kk + 1) (stN l R p q) := by show (if q < bkN l R p then nx l.length R (fz l) (bkN l R p - q) (stN l R p q) else l.length) = _; rw [if_pos hq, hkk]
      have hkl : bkN l R p - q - 1 = kk := by omega
      refine R_ls (L' := [(0, .ref 0), (1, .int (nI u)), (2, .int (nI v_)), (3, .int (nI (stN l R p q))), (4, .int (nI (bkN l R p - q))), (5, .int (nI ((stN l R p q) + R)))]) (qs1 rfl (qs1 rfl (qs1 rfl (qs1 rfl (qs1 rfl (qs1 rfl qs0)))))) ?_
      exact (m_fbJ (w := w) hb hl16 hR hR4 hq (fun K hX hS hA h20 h13 hO => by refine R_iinc (n := -1) (v := nI (bkN l R p - (q + 1))) (L' := [(0, .ref 0), (1, .int (nI u)), (2, .int (nI v_)), (3, .int (nI (stN l R p (q + 1)))), (4, .int (nI (bkN l R p - (q + 1))))]) dX8_findBest_131 rfl ((q_dec (bkN l R p - q) (by omega)).trans (by rw [show bkN l R p - q - 1 = bkN l R p - (q + 1) by omega])) (by decide) (qs1 rfl (qs1 rfl (qs1 rfl (qs1 rfl (qs1 rfl qs0))))) ?_; refine R_goto (tgt := 29) dX8_findBest_134 (by decide) ?_; exact ih (q + 1) K (by omega) (by omega) hX hR0 hS hA h20 h13 hO) 201 (stN l R p q + R) K (by omega) (Nat.le_refl _) (by rw [hkk]; omega) hX hR0 hS hA h20 h13 hO)
set_option maxRecDepth 100000 in
set_option maxHeartbeats 4000000 in
theorem m_best {M : qMem} {d : dT} (hX : MR M d) (hB : dB d) (hK2 : 2 ≤ dK d) (hY4 : 4 ≤ dY d) {u v_ : Nat} (hu : u < dK d) (hv : v_ < dK d) : qSem 1 mX8_findBest [.ref 0, .int (nI u), .int (nI v_)] M (fun v N => v = none ∧ FB N (ser d u v_) (dR d 0) (dR d 4) ∧ cOff sSc M N) := by
  have hK6 := hB.2.1
  have hY16 := hB.1
  have hb15 := bkN_le (ser d u v_) (dR d 0) (dR d 4)
  refine qSem.of (by decide +kernel) (Nat.le_of_ble_eq_true rfl) (fun w => ?_)
  refine R_ls (L' := [(0, .ref 0), (1, .int (nI u)), (2, .int (nI v_))]) (qs1 rfl (qs1 rfl (qs1 rfl qs0))) ?_
  refine R_aload_n dX8_findBest_0 rfl ?_
  refine R_iload_n dX8_findBest_1 rfl ?_
  refine R_iload_n dX8_findBest_2 rfl ?_
  refine R_callV (mc := mX8_learn) (As := [_, _]) (r := 0) dX8_findBest_3 lm_RX8_234 mv_X8_learn rfl (by decide) rfl rfl rfl rfl (Nat.le_of_ble_eq_true rfl) (m_learn hX hB hK2 hY4 hu hv) ?_
  rintro _ _ ⟨rfl, hS, hA, hO1⟩
  have hX1 := hX.sc hO1
  have hl16 := hS.2.1
  refine R_aload_n dX8_findBest_6 rfl ?_
  refine R_aload_n dX8_findBest_7 rfl ?_
  refine R_aload_n dX8_findBest_8 rfl ?_
  refine R_getR dX8_findBest_9 lg_RX8_19 (by decide) rfl rfl ?_
  refine R_bipush (v := nI 96) dX8_findBest_12 rfl ?_
  refine R_ialdN dX8_findBest_14 (by decide) rfl (by omega) (by decide) ?_
  refine R_top (y := nI (dR d 4)) hX1.p ?_
  refine R_callV (mc := mX8_breaksBy) (As := [_]) (r := 0) dX8_findBest_15 lm_RX8_237 mv_X8_breaksBy rfl (by decide) rfl rfl rfl rfl (Nat.le_of_ble_eq_true rfl) (m_bb (ser_b hB u v_) hl16 hB.2.2.2.1.1 hB.2.2.2.2.2.2.2 hA) ?_
  rintro _ _ ⟨rfl, rfl⟩
  refine R_putI dX8_findBest_18 lf_RX8_240 (by decide) rfl rfl rfl rfl ?_
  refine R_iconst (v := nI 0) dX8_findBest_21 rfl ?_
  refine R_istore_n (L' := [(0, .ref 0), (1, .int (nI u)), (2, .int (nI v_)), (3, .int (nI 0))]) dX8_findBest_22 (by decide) (qs1 rfl (qs1 rfl (qs1 rfl (qs1 rfl qs0)))) ?_
  refine R_aload_n dX8_findBest_23 rfl ?_
  refine R_getI dX8_findBest_24 (lf_RX8_240).get (by decide) rfl rfl ?_
  refine R_top (y := nI (bkN (ser d u v_) (dR d 0) (dR d 4))) (by rw [qIs_eq]) ?_
  refine R_istore (L' := [(0, .ref 0), (1, .int (nI u)), (2, .int (nI v_)), (3, .int (nI 0)), (4, .int (nI (bkN (ser d u v_) (dR d 0) (dR d 4))))]) dX8_findBest_27 (by decide) (qs1 rfl (qs1 rfl (qs1 rfl (qs1 rfl (qs1 rfl qs0))))) ?_
  refine R_ls (L' := [(0, .ref 0), (1, .int (nI u)), (2, .int (nI v_)), (3, .int (nI (stN (ser d u v_) (dR d 0) (dR d 4) 0))), (4, .int (nI (bkN (ser d u v_) (dR d 0) (dR d 4) - 0)))]) (qs1 rfl (qs1 rfl (qs1 rfl (qs1 rfl (qs1 rfl qs0))))) ?_
  exact m_fbQ (d := d) (ser_b hB u v_) hl16 hB.2.2.2.1.1 hB.2.2.2.1.2 (bkN (ser d u v_) (dR d 0) (dR d 4) + 2) 0 _ (by omega) (Nat.zero_le _) (hX1.off rfl rfl rfl rfl rfl) rfl (hS.off rfl rfl rfl) (hA.off rfl) (by rw [qIs_eq]) (fun a ha => absurd ha (Nat.not_lt_zero a)) (hO1.is (by unfold sSc; omega))
