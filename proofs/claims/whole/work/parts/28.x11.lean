
-- ===== day =====
theorem q_dy1 {p k : Nat} (hp : p ≤ 9999) (hk : k ≤ 20) : (7919 * (nI p).toInt64 + 6151 * (nI k).toInt64 + 1 : Int64) = Int64.ofInt ((7919 * p + 6151 * k + 1 : Nat) : Int) := by
  rw [j_n (by omega), j_n (by omega), show (7919 : Int64) = Int64.ofInt 7919 from rfl, show (6151 : Int64) = Int64.ofInt 6151 from rfl, show (1 : Int64) = Int64.ofInt 1 from rfl, ← Int64.ofInt_mul, ← Int64.ofInt_mul, ← Int64.ofInt_add, ← Int64.ofInt_add]
  congr 1
theorem q_dy2 {p k : Nat} (hp : p ≤ 9999) (hk : k ≤ 20) : (Int64.ofInt ((7919 * p + 6151 * k + 1 : Nat) : Int) * Int64.ofInt ((7919 * p + 6151 * k + 1 : Nat) : Int) - Int64.ofInt ((7919 * p + 6151 * k + 1 : Nat) : Int) * Int64.ofInt ((7919 * p + 6151 * k + 1 : Nat) : Int) / 65521 * 65521 : Int64).toInt32 = nI (dyN p k) := by
  unfold dyN
  generalize hm : 7919 * p + 6151 * k + 1 = m
  have hm2 : m ≤ 100000000 := by omega
  have hq : m * m ≤ 10000000000000000 := Nat.mul_le_mul hm2 hm2
  rw [← Int64.ofInt_mul, show ((m : Nat) : Int) * ((m : Nat) : Int) = ((m * m : Nat) : Int) from (Int.natCast_mul m m).symm]
  generalize hz : m * m = z at *
  have hmod : z % 65521 < 65521 := Nat.mod_lt _ (by decide)
  have e : (Int64.ofInt ((z : Nat) : Int) / 65521 : Int64) = Int64.ofInt ((z / 65521 : Nat) : Int) := by
    apply Int64.toInt_inj.mp
    rw [Int64.toInt_div_of_ne_right _ _ (by decide), j_ofI (by omega) (by omega), j_ofI (by omega) (by omega), show (65521 : Int64).toInt = 65521 from rfl, Int.tdiv_eq_ediv_of_nonneg (by omega)]
    omega
  rw [e, show (65521 : Int64) = Int64.ofInt 65521 from rfl, ← Int64.ofInt_mul, ← Int64.ofInt_sub, show ((z : Nat) : Int) - ((z / 65521 : Nat) : Int) * 65521 = ((z % 65521 : Nat) : Int) by omega]
  rw [Int64.toInt32_ofInt]; rfl
theorem dyV_okv {x : Nat} : ∀ v, dyV x = some v → okv v := fun v h => by
  unfold dyV at h
  split at h
  · cases h
  · cases h; exact okv_n (by have := Nat.mod_lt (x / 128) (show 30 > 0 by decide); omega)
theorem rDayTo_le (s : sT) (p : Nat) : ∀ k, (rDayTo s p k).1 ≤ k
  | 0 => Nat.le_refl 0
  | k + 1 => by
    have := rDayTo_le s p k
    have h : (rDayTo s p (k + 1)).1 = (rDayTo s p k).1 + (rDay1 (rDayTo s p k).2 (dyN p k)).1 := rfl
    have h2 : (rDay1 (rDayTo s p k).2 (dyN p k)).1 ≤ 1 := by unfold rDay1; split <;> simp
    omega
theorem dyN_lt (p k : Nat) : dyN p k < 65521 := Nat.mod_lt _ (by decide)
theorem rDay_0 {s : sT} {p k : Nat} (h : encX (dV (sD (rDayTo s p k).2) (dyN p k % dK (sD (rDayTo s p k).2)) (dyN p k / 8 % dY (sD (rDayTo s p k).2))) = encX (dyV (dyN p k))) : rDayTo s p (k + 1) = rDayTo s p k := by
  show ((rDayTo s p k).1 + (rDay1 (rDayTo s p k).2 (dyN p k)).1, (rDay1 (rDayTo s p k).2 (dyN p k)).2) = _
  unfold rDay1; rw [if_pos h]; rfl
theorem rDay_1 {s : sT} {p k : Nat} (h : ¬ encX (dV (sD (rDayTo s p k).2) (dyN p k % dK (sD (rDayTo s p k).2)) (dyN p k / 8 % dY (sD (rDayTo s p k).2))) = encX (dyV (dyN p k))) : rDayTo s p (k + 1) = ((rDayTo s p k).1 + 1, chV (rDayTo s p k).2 (dyN p k % dK (sD (rDayTo s p k).2)) (dyN p k / 8 % dY (sD (rDayTo s p k).2)) (dyV (dyN p k))) := by
  show ((rDayTo s p k).1 + (rDay1 (rDayTo s p k).2 (dyN p k)).1, (rDay1 (rDayTo s p k).2 (dyN p k)).2) = _
  unfold rDay1; rw [if_neg h]
set_option maxRecDepth 100000 in
set_option maxHeartbeats 4000000 in
theorem c_rem {M : qMem} {a b : Nat} (ha : a < 2147483648) (hb : 1 ≤ b) (hb2 : b < 2147483648) : qSem 0 mX7_remainder [.int (nI a), .int (nI b)] M (qr (nI (a % b)) M) := by
  refine qSem.of (by decide +kernel) (Nat.le_of_ble_eq_true rfl) (fun w => ?_)
  refine R_ls (L' := [(0, .int (nI a)), (1, .int (nI b))]) (qs1 rfl (qs1 rfl qs0)) ?_
  refine R_iload_n dX7_remainder_0 rfl ?_
  refine R_iconst (v := nI 1) dX7_remainder_1 rfl ?_
  refine R_icmp_geN (tgt := 9) dX7_remainder_2 (by decide) (by omega) (by omega) (fun h_2 => ?_) (fun h_2 => by exact absurd hb (by omega))
  refine R_iload_n dX7_remainder_9 rfl ?_
  refine R_iload_n dX7_remainder_10 rfl ?_
  refine R_iremN dX7_remainder_11 (by omega) (by omega) (by omega) ?_
  refine R_ireturn dX7_remainder_12 rfl rfl ?_
  exact ⟨rfl, rfl⟩
set_option maxRecDepth 100000 in
set_option maxHeartbeats 4000000 in
theorem l_day {w : qWT} {vb : Nat} {M : qMem} {s : sT} (hI : XI vb M s) {cp cn : Nat} (hcp : cp ≤ 9999) (hcn : cn ≤ 20) (hvb : vb + 20 < 2000000000) : ∀ (fu : Nat) (k : Nat) (K : qMem), (cn + 1 - k) < fu → (k ≤ cn) → (XI (vb + k) K (rDayTo s cp k).2) → qRW 0 w mX7_day 29 [(0, .ref 0), (1, .int (nI cp)), (2, .int (nI cn)), (3, .int (nI ((rDayTo s cp k).1))), (4, .int (nI k))] [] K (fun r N => r = some (.int (nI (rDayTo s cp cn).1)) ∧ XI (vb + 20) N (rDayTo s cp cn).2) := by
  intro fu
  induction fu with
  | zero => intro k K hn; exact absurd hn (Nat.not_lt_zero _)
  | succ fu ih =>
    intro k K hn hk hIK
    have hX := hIK.1
    have hB := hIK.2.1
    have hK6 := hB.2.1
    have hY16 := hB.1
    have hK2 := hIK.2.2.1.2
    have hY4 := hIK.2.2.1.1
    have hle := rDayTo_le s cp k
    have hxn := dyN_lt cp k
    have hc : dyN cp k % dK (sD (rDayTo s cp k).2) < dK (sD (rDayTo s cp k).2) := Nat.mod_lt _ (by omega)
    have ht : dyN cp k / 8 % dY (sD (rDayTo s cp k).2) < dY (sD (rDayTo s cp k).2) := Nat.mod_lt _ (by omega)
    have h30 : dyN cp k / 128 % 30 < 30 := Nat.mod_lt _ (by decide)
    refine R_iload dX7_day_29 rfl ?_
    refine R_iload_n dX7_day_31 rfl ?_
    refine R_icmp_geN (tgt := 141) dX7_day_32 (by decide) (by omega) (by omega) (fun h_32 => ?_) (fun h_32 => ?_)
    · refine R_iload_n dX7_day_141 rfl ?_
      refine R_ireturn dX7_day_142 rfl rfl ?_
      have e : k = cn := by omega
      subst e
      exact ⟨rfl, hIK.mono (by omega)⟩
    · refine R_ldc2 dX7_day_35 lc_RX7_168 ?_
      refine R_iload_n dX7_day_38 rfl ?_
      refine R_i2l dX7_day_39 ?_
      refine R_lmul dX7_day_40 ?_
      refine R_ldc2 dX7_day_41 lc_RX7_170 ?_
      refine R_iload dX7_day_44 rfl ?_
      refine R_i2l dX7_day_46 ?_
      refine R_lmul dX7_day_47 ?_
      refine R_ladd dX7_day_48 ?_
      refine R_lconst (v := 1) dX7_day_49 rfl ?_
      refine R_ladd dX7_day_50 ?_
      refine R_topL (y := Int64.ofInt ((7919 * cp + 6151 * k + 1 : Nat) : Int)) (q_dy1 hcp (by omega)) ?_
      refine R_lstore (L' := [(0, .ref 0), (1, .int (nI cp)), (2, .int (nI cn)), (3, .int (nI ((rDayTo s cp k).1))), (4, .int (nI k)), (5, .long (Int64.ofInt ((7919 * cp + 6151 * k + 1 : Nat) : Int)))]) dX7_day_51 (by decide) (qs1 rfl (qs1 rfl (qs1 rfl (qs1 rfl (qs1 rfl (qs1 rfl qs0)))))) ?_
      refine R_lload dX7_day_53 rfl ?_
      refine R_lload dX7_day_55 rfl ?_
      refine R_lmul dX7_day_57 ?_
      refine R_ldc2 dX7_day_58 lc_RX7_172 ?_
      refine R_lrem dX7_day_61 (by decide) ?_
      refine R_l2i dX7_day_62 ?_
      refine R_top (y := nI (dyN cp k)) (q_dy2 hcp (by omega)) ?_
      refine R_istore (L' := [(0, .ref 0), (1, .int (nI cp)), (2, .int (nI cn)), (3, .int (nI ((rDayTo s cp k).1))), (4, .int (nI k)), (5, .long (Int64.ofInt ((7919 * cp + 6151 * k + 1 : Nat) : Int))), (7, .int (nI (dyN cp k)))]) dX7_day_63 (by decide) (qs1 rfl (qs1 rfl (qs1 rfl (qs1 rfl (qs1 rfl (qs1 rfl (qs1 rfl qs0))))))) ?_
      refine R_iload dX7_day_65 rfl ?_
      refine R_sipush (v := nI 128) dX7_day_67 rfl ?_
      refine R_idivN dX7_day_70 (by omega) (by omega) (by omega) ?_
      refine R_bipush (v := nI 30) dX7_day_71 rfl ?_
      refine R_iremN dX7_day_73 (by omega) (by omega) (by omega) ?_
      refine R_istore (L' := [(0, .ref 0), (1, .int (nI cp)), (2, .int (nI cn)), (3, .int (nI ((rDayTo s cp k).1))), (4, .int (nI k)), (5, .long (Int64.ofInt ((7919 * cp + 6151 * k + 1 : Nat) : Int))), (7, .int (nI (dyN cp k))), (8, .int (nI (((dyN cp k) / 128) % 30)))]) dX7_day_74 (by decide) (qs1 rfl (qs1 rfl (qs1 rfl (qs1 rfl (qs1 rfl (qs1 rfl (qs1 rfl (qs1 rfl qs0)))))))) ?_
      refine R_iload dX7_day_76 rfl ?_
      refine R_aload_n dX7_day_78 rfl ?_
      refine R_getR dX7_day_79 lg_RX7_19 (by decide) rfl rfl ?_
      refine R_callV (mc := mX3_stations) (As := []) (r := 14) dX7_day_82 lm_RX7_88 mv_X3_stations rfl (by decide) rfl rfl rfl rfl (Nat.le_of_ble_eq_true rfl) c_stations_14 ?_
      rintro _ _ ⟨rfl, rfl⟩
      refine R_top (y := nI (dK (sD (rDayTo s cp k).2))) hX.2.1 ?_
      refine R_callS (mc := mX7_remainder) (As := [_, _]) dX7_day_85 lm_RX7_174 mv_X7_remainder rfl rfl rfl (Nat.le_of_ble_eq_true rfl) (c_rem (by omega) (by omega) (by omega)) ?_
      rintro _ _ ⟨rfl, rfl⟩
      refine R_istore (L' := [(0, .ref 0), (1, .int (nI cp)), (2, .int (nI cn)), (3, .int (nI ((rDayTo s cp k).1))), (4, .int (nI k)), (5, .long (Int64.ofInt ((7919 * cp + 6151 * k + 1 : Nat) : Int))), (7, .int (nI (dyN cp k))), (8, .int (nI (((dyN cp k) / 128) % 30))), (9, .int (nI ((dyN cp k) % dK (sD (rDayTo s cp k).2))))]) dX7_day_88 (by decide) (qs1 rfl (qs1 rfl (qs1 rfl (qs1 rfl (qs1 rfl (qs1 rfl (qs1 rfl (qs1 rfl (qs1 rfl qs0))))))))) ?_
      refine R_iload dX7_day_90 rfl ?_
      refine R_bipush (v := nI 8) dX7_day_92 rfl ?_
      refine R_idivN dX7_day_94 (by omega) (by omega) (by omega) ?_
      refine R_aload_n dX7_day_95 rfl ?_
      refine R_getR dX7_day_96 lg_RX7_19 (by decide) rfl rfl ?_
      refine R_callV (mc := mX3_years) (As := []) (r := 14) dX7_day_99 lm_RX7_177 mv_X3_years rfl (by decide) rfl rfl rfl rfl (Nat.le_of_ble_eq_true rfl) c_years_14 ?_
      rintro _ _ ⟨rfl, rfl⟩
      refine R_top (y := nI (dY (sD (rDayTo s cp k).2))) hX.1 ?_
      refine R_callS (mc := mX7_remainder) (As := [_, _]) dX7_day_102 lm_RX7_174 mv_X7_remainder rfl rfl rfl (Nat.le_of_ble_eq_true rfl) (c_rem (by omega) (by omega) (by omega)) ?_
      rintro _ _ ⟨rfl, rfl⟩
      refine R_istore (L' := [(0, .ref 0), (1, .int (nI cp)), (2, .int (nI cn)), (3, .int (nI ((rDayTo s cp k).1))), (4, .int (nI k)), (5, .long (Int64.ofInt ((7919 * cp + 6151 * k + 1 : Nat) : Int))), (7, .int (nI (dyN cp k))), (8, .int (nI (((dyN cp k) / 128) % 30))), (9, .int (nI ((dyN cp k) % dK (sD (rDayTo s cp k).2)))), (10, .int (nI (((dyN cp k) / 8) % dY (sD (rDayTo s cp k).2))))]) dX7_day_105 (by decide) (qs1 rfl (qs1 rfl (qs1 rfl (qs1 rfl (qs1 rfl (qs1 rfl (qs1 rfl (qs1 rfl (qs1 rfl (qs1 rfl qs0)))))))))) ?_
      refine R_aload_n dX7_day_107 rfl ?_
      refine R_iload dX7_day_108 rfl ?_
      refine R_iload dX7_day_110 rfl ?_
      refine R_iload dX7_day_112 rfl ?_
      refine R_bipush (v := nI 29) dX7_day_114 rfl ?_
      refine R_icmp_neN (tgt := 124) dX7_day_116 (by decide) (by omega) (by omega) (fun h_116 => ?_) (fun h_116 => ?_)
      · refine R_iload dX7_day_124 rfl ?_
        refine R_top (y := encX (dyV (dyN cp k))) (by unfold dyV; rw [if_neg h_116]; rfl) ?_
        refine R_callV (mc := mX7_changeValue) (As := [_, _, _]) (r := 0) dX7_day_126 lm_RX7_115 mv_X7_changeValue rfl (by decide) rfl rfl rfl rfl (Nat.le_of_ble_eq_true rfl) (c_chv hIK (by omega) (v := dyV (dyN cp k)) hc ht rfl dyV_okv) ?_
        rintro _ _ (⟨hq, rfl, rfl⟩ | ⟨hq, rfl, hI9⟩)
        · refine R_if_eqN (tgt := 135) dX7_day_129 (by decide) (by omega) (fun h_129 => ?_) (fun h_129 => by exact absurd h_129 (by decide))
          refine R_iincN (n := 1) (L' := [(0, .ref 0), (1, .int (nI cp)), (2, .int (nI cn)), (3, .int (nI ((rDayTo s cp k).1))), (4, .int (nI (k + 1))), (5, .long (Int64.ofInt ((7919 * cp + 6151 * k + 1 : Nat) : Int))), (7, .int (nI (dyN cp k))), (8, .int (nI (((dyN cp k) / 128) % 30))), (9, .int (nI ((dyN cp k) % dK (sD (rDayTo s cp k).2)))), (10, .int (nI (((dyN cp k) / 8) % dY (sD (rDayTo s cp k).2))))]) dX7_day_135 rfl (by decide) (qs1 rfl (qs1 rfl (qs1 rfl (qs1 rfl (qs1 rfl (qs1 rfl (qs1 rfl (qs1 rfl (qs1 rfl (qs1 rfl qs0)))))))))) ?_
          refine R_goto (tgt := 29) dX7_day_138 (by decide) ?_
          refine R_ls (L' := [(0, .ref 0), (1, .int (nI cp)), (2, .int (nI cn)), (3, .int (nI ((rDayTo s cp k).1))), (4, .int (nI (k + 1)))]) (qs1 rfl (qs1 rfl (qs1 rfl (qs1 rfl (qs1 rfl qs0))))) ?_
          exact (by have h := ih (k + 1) _ (by omega) (by omega) (by rw [rDay_0 hq]; exact hIK.mono (by omega)); rw [rDay_0 hq] at h; exact h)
        · refine R_if_eqN (tgt := 135) dX7_day_129 (by decide) (by omega) (fun h_129 => by exact absurd h_129 (by decide)) (fun h_129 => ?_)
          refine R_iincN (n := 1) (L' := [(0, .ref 0), (1, .int (nI cp)), (2, .int (nI cn)), (3, .int (nI (((rDayTo s cp k).1) + 1))), (4, .int (nI k)), (5, .long (Int64.ofInt ((7919 * cp + 6151 * k + 1 : Nat) : Int))), (7, .int (nI (dyN cp k))), (8, .int (nI (((dyN cp k) / 128) % 30))), (9, .int (nI ((dyN cp k) % dK (sD (rDayTo s cp k).2)))), (10, .int (nI (((dyN cp k) / 8) % dY (sD (rDayTo s cp k).2))))]) dX7_day_132 rfl (by decide) (qs1 rfl (qs1 rfl (qs1 rfl (qs1 rfl (qs1 rfl (qs1 rfl (qs1 rfl (qs1 rfl (qs1 rfl (qs1 rfl qs0)))))))))) ?_
          refine R_iincN (n := 1) (L' := [(0, .ref 0), (1, .int (nI cp)), (2, .int (nI cn)), (3, .int (nI (((rDayTo s cp k).1) + 1))), (4, .int (nI (k + 1))), (5, .long (Int64.ofInt ((7919 * cp + 6151 * k + 1 : Nat) : Int))), (7, .int (nI (dyN cp k))), (8, .int (nI (((dyN cp k) / 128) % 30))), (9, .int (nI ((dyN cp k) % dK (sD (rDayTo s cp k).2)))), (10, .int (nI (((dyN cp k) / 8) % dY (sD (rDayTo s cp k).2))))]) dX7_day_135 rfl (by decide) (qs1 rfl (qs1 rfl (qs1 rfl (qs1 rfl (qs1 rfl (qs1 rfl (qs1 rfl (qs1 rfl (qs1 rfl (qs1 rfl qs0)))))))))) ?_
          refine R_goto (tgt := 29) dX7_day_138 (by decide) ?_
          refine R_ls (L' := [(0, .ref 0), (1, .int (nI cp)), (2, .int (nI cn)), (3, .int (nI (((rDayTo s cp k).1) + 1))), (4, .int (nI (k + 1)))]) (qs1 rfl (qs1 rfl (qs1 rfl (qs1 rfl (qs1 rfl qs0))))) ?_
          exact (by have h := ih (k + 1) _ (by omega) (by omega) (by rw [rDay_1 hq]; exact hI9); rw [rDay_1 hq] at h; exact h)
      · refine R_ldc (v := nI 1000000) dX7_day_119 lc_RX7_109 ?_
        refine R_top (y := 1000000) rfl ?_
        refine R_goto (tgt := 126) dX7_day_121 (by decide) ?_
        refine R_top (y := encX (dyV (dyN cp k))) (by unfold dyV; rw [if_pos h_116]; rfl) ?_
        refine R_callV (mc := mX7_changeValue) (As := [_, _, _]) (r := 0) dX7_day_126 lm_RX7_115 mv_X7_changeValue rfl (by decide) rfl rfl rfl rfl (Nat.le_of_ble_eq_true rfl) (c_chv hIK (by omega) (v := dyV (dyN cp k)) hc ht rfl dyV_okv) ?_
        rintro _ _ (⟨hq, rfl, rfl⟩ | ⟨hq, rfl, hI9⟩)
        · refine R_if_eqN (tgt := 135) dX7_day_129 (by decide) (by omega) (fun h_129 => ?_) (fun h_129 => by exact absurd h_129 (by decide))
          refine R_iincN (n := 1) (L' := [(0, .ref 0), (1, .int (nI cp)), (2, .int (nI cn)), (3, .int (nI ((rDayTo s cp k).1))), (4, .int (nI (k + 1))), (5, .long (Int64.ofInt ((7919 * cp + 6151 * k + 1 : Nat) : Int))), (7, .int (nI (dyN cp k))), (8, .int (nI (((dyN cp k) / 128) % 30))), (9, .int (nI ((dyN cp k) % dK (sD (rDayTo s cp k).2)))), (10, .int (nI (((dyN cp k) / 8) % dY (sD (rDayTo s cp k).2))))]) dX7_day_135 rfl (by decide) (qs1 rfl (qs1 rfl (qs1 rfl (qs1 rfl (qs1 rfl (qs1 rfl (qs1 rfl (qs1 rfl (qs1 rfl (qs1 rfl qs0)))))))))) ?_
          refine R_goto (tgt := 29) dX7_day_138 (by decide) ?_
          refine R_ls (L' := [(0, .ref 0), (1, .int (nI cp)), (2, .int (nI cn)), (3, .int (nI ((rDayTo s cp k).1))), (4, .int (nI (k + 1)))]) (qs1 rfl (qs1 rfl (qs1 rfl (qs1 rfl (qs1 rfl qs0))))) ?_
          exact (by have h := ih (k + 1) _ (by omega) (by omega) (by rw [rDay_0 hq]; exact hIK.mono (by omega)); rw [rDay_0 hq] at h; exact h)
        · refine R_if_eqN (tgt := 135) dX7_day_129 (by decide) (by omega) (fun h_129 => by exact absurd h_129 (by decide)) (fun h_129 => ?_)
          refine R_iincN (n := 1) (L' := [(0, .ref 0), (1, .int (nI cp)), (2, .int (nI cn)), (3, .int (nI (((rDayTo s cp k).1) + 1))), (4, .int (nI k)), (5, .long (Int64.ofInt ((7919 * cp + 6151 * k + 1 : Nat) : Int))), (7, .int (nI (dyN cp k))), (8, .int (nI (((dyN cp k) / 128) % 30))), (9, .int (nI ((dyN cp k) % dK (sD (rDayTo s cp k).2)))), (10, .int (nI (((dyN cp k) / 8) % dY (sD (rDayTo s cp k).2))))]) dX7_day_132 rfl (by decide) (qs1 rfl (qs1 rfl (qs1 rfl (qs1 rfl (qs1 rfl (qs1 rfl (qs1 rfl (qs1 rfl (qs1 rfl (qs1 rfl qs0)))))))))) ?_
          refine R_iincN (n := 1) (L' := [(0, .ref 0), (1, .int (nI cp)), (2, .int (nI cn)), (3, .int (nI (((rDayTo s cp k).1) + 1))), (4, .int (nI (k + 1))), (5, .long (Int64.ofInt ((7919 * cp + 6151 * k + 1 : Nat) : Int))), (7, .int (nI (dyN cp k))), (8, .int (nI (((dyN cp k) / 128) % 30))), (9, .int (nI ((dyN cp k) % dK (sD (rDayTo s cp k).2)))), (10, .int (nI (((dyN cp k) / 8) % dY (sD (rDayTo s cp k).2))))]) dX7_day_135 rfl (by decide) (qs1 rfl (qs1 rfl (qs1 rfl (qs1 rfl (qs1 rfl (qs1 rfl (qs1 rfl (qs1 rfl (qs1 rfl (qs1 rfl qs0)))))))))) ?_
          refine R_goto (tgt := 29) dX7_day_138 (by decide) ?_
          refine R_ls (L' := [(0, .ref 0), (1, .int (nI cp)), (2, .int (nI cn)), (3, .int (nI (((rDayTo s cp k).1) + 1))), (4, .int (nI (k + 1)))]) (qs1 rfl (qs1 rfl (qs1 rfl (qs1 rfl (qs1 rfl qs0))))) ?_
          exact (by have h := ih (k + 1) _ (by omega) (by omega) (by rw [rDay_1 hq]; exact hI9); rw [rDay_1 hq] at h; exact h)
set_option maxRecDepth 100000 in
set_option maxHeartbeats 4000000 in
theorem o_day {vb : Nat} {M : qMem} {s : sT} (hI : XI vb M s) (hvb : vb + 20 < 2000000000) {p n : Int32} : qSem 0 mX7_day [.ref 0, .int (p), .int (n)] M (fun r N => r = some (.int (rDay s p n).1) ∧ XI (vb + 20) N (rDay s p n).2) := by
  refine qSem.of (by decide +kernel) (Nat.le_of_ble_eq_true rfl) (fun w => ?_)
  refine R_ls (L' := [(0, .ref 0), (1, .int (p)), (2, .int (n))]) (qs1 rfl (qs1 rfl (qs1 rfl qs0))) ?_
  refine R_iload_n dX7_day_0 rfl ?_
  refine R_if_lt (tgt := 22) dX7_day_1 (by decide) (fun h_1 => ?_) (fun h_1 => ?_)
  · refine R_iconst (v := -1) dX7_day_22 rfl ?_
    refine R_ireturn dX7_day_23 rfl rfl ?_
    refine ⟨?_, ?_⟩ <;> unfold rDay <;> rw [if_neg (fun h => by first | exact absurd h.1.1 (Int32.not_le.mpr h_1) | exact absurd h.1.2 (Int32.not_le.mpr h_8) | exact absurd h.2.1 (Int32.not_le.mpr h_13) | exact absurd h.2.2 h_19 | exact absurd h.2.2 (Int32.not_le.mpr h_19))]
    exact hI.mono (by omega)
  · refine R_iload_n dX7_day_4 rfl ?_
    refine R_sipush (v := nI 9999) dX7_day_5 rfl ?_
    refine R_icmp_gt (tgt := 22) dX7_day_8 (by decide) (fun h_8 => ?_) (fun h_8 => ?_)
    · refine R_iconst (v := -1) dX7_day_22 rfl ?_
      refine R_ireturn dX7_day_23 rfl rfl ?_
      refine ⟨?_, ?_⟩ <;> unfold rDay <;> rw [if_neg (fun h => by first | exact absurd h.1.1 (Int32.not_le.mpr h_1) | exact absurd h.1.2 (Int32.not_le.mpr h_8) | exact absurd h.2.1 (Int32.not_le.mpr h_13) | exact absurd h.2.2 h_19 | exact absurd h.2.2 (Int32.not_le.mpr h_19))]
      exact hI.mono (by omega)
    · refine R_iload_n dX7_day_11 rfl ?_
      refine R_iconst (v := nI 1) dX7_day_12 rfl ?_
      refine R_icmp_lt (tgt := 22) dX7_day_13 (by decide) (fun h_13 => ?_) (fun h_13 => ?_)
      · refine R_iconst (v := -1) dX7_day_22 rfl ?_
        refine R_ireturn dX7_day_23 rfl rfl ?_
        refine ⟨?_, ?_⟩ <;> unfold rDay <;> rw [if_neg (fun h => by first | exact absurd h.1.1 (Int32.not_le.mpr h_1) | exact absurd h.1.2 (Int32.not_le.mpr h_8) | exact absurd h.2.1 (Int32.not_le.mpr h_13) | exact absurd h.2.2 h_19 | exact absurd h.2.2 (Int32.not_le.mpr h_19))]
        exact hI.mono (by omega)
      · refine R_iload_n dX7_day_16 rfl ?_
        refine R_bipush (v := nI 20) dX7_day_17 rfl ?_
        refine R_icmp_le (tgt := 24) dX7_day_19 (by decide) (fun h_19 => ?_) (fun h_19 => ?_)
        · skip
          have hp1 : (0 ≤ p ∧ p ≤ nI 9999) ∧ (1 ≤ n ∧ n ≤ nI 20) := ⟨⟨by first | exact Int32.not_lt.mp h_1 | exact h_1, by first | exact h_8 | exact Int32.not_lt.mp h_8⟩, ⟨by first | exact h_13 | exact Int32.not_lt.mp h_13, by first | exact h_19 | exact Int32.not_lt.mp h_19⟩⟩
          obtain ⟨cp, hcp0, rfl⟩ := nI_of (x := p) (Int32.not_lt.mpr hp1.1.1)
          obtain ⟨cn, hcn0, rfl⟩ := nI_of (x := n) (fun z => absurd (Int32.lt_of_lt_of_le z (show (0 : Int32) ≤ 1 by decide)) (Int32.not_lt.mpr hp1.2.1))
          have hcp := (nI_leI (by omega) (by omega)).mp hp1.1.2
          have hcn := (nI_leI (by omega) (by omega)).mp hp1.2.2
          rw [show rDay s (nI cp) (nI cn) = (nI (rDayTo s cp cn).1, (rDayTo s cp cn).2) from by unfold rDay; rw [if_pos hp1, kn_n (by omega), kn_n (by omega)]]
          refine R_iconst (v := nI 0) dX7_day_24 rfl ?_
          refine R_istore_n (L' := [(0, .ref 0), (1, .int (nI cp)), (2, .int (nI cn)), (3, .int (nI 0))]) dX7_day_25 (by decide) (qs1 rfl (qs1 rfl (qs1 rfl (qs1 rfl qs0)))) ?_
          refine R_iconst (v := nI 0) dX7_day_26 rfl ?_
          refine R_istore (L' := [(0, .ref 0), (1, .int (nI cp)), (2, .int (nI cn)), (3, .int (nI 0)), (4, .int (nI 0))]) dX7_day_27 (by decide) (qs1 rfl (qs1 rfl (qs1 rfl (qs1 rfl (qs1 rfl qs0))))) ?_
          refine R_ls (L' := [(0, .ref 0), (1, .int (nI cp)), (2, .int (nI cn)), (3, .int (nI 0)), (4, .int (nI 0))]) (qs1 rfl (qs1 rfl (qs1 rfl (qs1 rfl (qs1 rfl qs0))))) ?_
          exact l_day hI hcp hcn hvb (cn + 2) 0 M (by omega) (Nat.zero_le _) hI
        · refine R_iconst (v := -1) dX7_day_22 rfl ?_
          refine R_ireturn dX7_day_23 rfl rfl ?_
          refine ⟨?_, ?_⟩ <;> unfold rDay <;> rw [if_neg (fun h => by first | exact absurd h.1.1 (Int32.not_le.mpr h_1) | exact absurd h.1.2 (Int32.not_le.mpr h_8) | exact absurd h.2.1 (Int32.not_le.mpr h_13) | exact absurd h.2.2 h_19 | exact absurd h.2.2 (Int32.not_le.mpr h_19))]
          exact hI.mono (by omega)

theorem cnS_iff {d : dT} {c : Nat} {z : Int32} : ∀ {t : Nat}, cnS d c z t = true ↔ ∀ b, b < t → ∀ v, dV d c b = some v → okI (v + z)
  | 0 => ⟨fun _ b h => absurd h (Nat.not_lt_zero b), fun _ => rfl⟩
  | t + 1 => by
    unfold cnS
    rw [Bool.and_eq_true, cnS_iff (t := t)]
    constructor
    · rintro ⟨h1, h2⟩ b hb v hv
      rcases Nat.lt_or_ge b t with q | q
      · exact h1 b q v hv
      · have e : b = t := by omega
        subst e; rw [hv] at h2; exact of_decide_eq_true h2
    · intro h
      refine ⟨fun b hb => h b (by omega), ?_⟩
      cases hv : dV d c t with
      | none => rfl
      | some v => exact decide_eq_true (h t (by omega) v hv)
theorem dB_shV {d : dT} {c t : Nat} {z : Int32} (h : dB d) (hs : cnS d c z t = true) : dB (shV d c t z) := by
  refine ⟨h.1, h.2.1, fun a b v hv => ?_, h.2.2.2⟩
  have hv : (if a = c ∧ b < t then (dV d a b).map (fun x => x + z) else dV d a b) = some v := hv
  split at hv
  · rename_i hh
    cases e : dV d a b with
    | none => rw [e] at hv; cases hv
    | some w =>
      rw [e] at hv; cases hv
      rw [hh.1] at e
      exact okv_iff.mpr (cnS_iff.mp hs b hh.2 w e)
  · exact h.2.2.1 a b v hv
theorem cnS_mem {M : qMem} {d : dT} (hX : XR 14 M d) (hB : dB d) {c t : Nat} {z : Int32} (hc : c < dK d) (ht : t ≤ dY d) : (∀ b, b < t → ¬ M.1 (19 + c) b = 1000000 → okv (M.1 (19 + c) b + z)) ↔ cnS d c z t = true := by
  rw [cnS_iff]
  constructor
  · intro h b hb v hv
    have e : M.1 (19 + c) b = v := (hX.2.2.2.2.1 c b hc (by omega)).trans (by rw [hv]; rfl)
    have := h b hb (by rw [e]; exact okv_X (hB.2.2.1 c b v hv))
    rw [e] at this; exact okv_iff.mp this
  · intro h b hb hne
    obtain ⟨v, hv, e⟩ := (has_ex hX hB hc (by omega)).1.mp hne
    rw [e]; exact okv_iff.mpr (h b hb v hv)
theorem rMd_x {s : sT} {i : Nat} {x : cT} (h : (cuL (sD s))[i]? = some x) : rMd s i = if 10 ≤ (sG s).length then (-3, s) else if x.2.2.2 = 0 ∨ cnS (sD s) x.1 x.2.2.2 x.2.1 = false then (-2, s) else (nI ((sG s).length + 1), chM s x.1 x.2.1 x.2.2.2) := by
  unfold rMd; rw [h]
theorem XI_chM {vb : Nat} {M K1 K2 P : qMem} {s : sT} (hI : XI vb M s) (hvb : vb < 2000000000) {c t : Nat} {z : Int32} (hc : c < dK (sD s)) (ht : t < dY (sD s)) (hs : cnS (sD s) c z t = true) (hH : XH K1 (hAdd ((sA s).map aEnc) (nI 3, nI c, nI t, z))) (hO : qOff oHi M K1) (h2 : K2 = qIs (qShift K1 c t z) 14 7 (K1.1 14 7 + nI 1)) (hL : XL P (sG s ++ [(nI c, nI t, z)])) (hO3 : qOff oLe K2 P) : XI (vb + 1) P (chM s c t z) := by
  have e : ∀ o, ¬ (90 ≤ o ∧ o < 96) → K1.1 o = M.1 o := fun o ho => (hO o ho).1
  have e2 : ∀ o, ¬ (90 ≤ o ∧ o < 96) → K1.2 o = M.2 o := fun o ho => (hO o ho).2
  have e3 : ∀ o, (o < 96 ∨ 101 ≤ o) → P.1 o = K2.1 o := fun o ho => (hO3 o (by unfold oLe; omega)).1
  have e4 : ∀ o, (o < 96 ∨ 101 ≤ o) → P.2 o = K2.2 o := fun o ho => (hO3 o (by unfold oLe; omega)).2
  have hK6 := hI.2.1.2.1
  have hRK : XR 14 K1 (sD s) := hI.1.off hK6 (fun o a b => e o (by omega))
  have n2 : ∀ o, o ≠ 14 → o ≠ 19 + c → K2.1 o = K1.1 o := fun o h1 h3 => by rw [h2, qIs_no h1, qShift_no h3]
  refine hI.chg (s' := chM s c t z) hvb (XR.off (M := K2) (by rw [h2]; exact XR_shf hRK hI.2.1 hc) hK6 (fun o a b => e3 o (by omega))) (dB_shV hI.2.1 hs) hI.2.2.1 ?_ ?_ ?_ ?_ hL ?_ hI.2.2.2.2.2.2.2.1 ?_
  · rw [e3 14 (by omega), h2, qIs_eq, e 14 (by omega)]
  · rw [e3 36 (by omega), n2 36 (by omega) (by omega), e 36 (by omega)]
  · exact hI.2.2.2.1.off (fun o ho => by rw [e4 o (by omega), h2, qIs_2, qShift_2, e2 o (by omega)])
  · refine XH.off (M := K1) (h := (hA (sA s) (3, c, t, z)).map aEnc) ?_ (fun o a b => by rw [e3 o (by omega), n2 o (by omega) (by omega)])
    rw [hA_enc]; exact hH
  · exact hI.2.2.2.2.2.2.1.off (by rw [e3 1 (by omega), n2 1 (by omega) (by omega), e 1 (by omega)]) (by rw [e3 2 (by omega), n2 2 (by omega) (by omega), e 2 (by omega)])
  · refine HV_add (q0 := (sD s, sG s)) (x := (3, c, t, z)) hI.2.2.2.2.2.2.2.2.2 ?_ ?_ hI.2.1
    · show (shV (shV (sD s) c t z) c t (-z), (sG s ++ [(nI c, nI t, z)]).dropLast) = (sD s, sG s)
      rw [shV_back, List.dropLast_concat]
    · exact ⟨hc, by show t ≤ 16; have := hI.2.1.1; omega, by show 0 < (sG s ++ [(nI c, nI t, z)]).length; rw [List.length_append]; exact Nat.succ_pos _⟩
set_option maxRecDepth 100000 in
set_option maxHeartbeats 4000000 in
theorem c_mendC {vb : Nat} {M : qMem} {s : sT} (hI : XI vb M s) (hvb : vb < 2000000000) {i : Nat} (hi : i < 2147483648) : qSem 0 mX7_mendCulprit [.ref 0, .int (nI i)] M (fun r N => r = some (.int (rMd s i).1) ∧ XI (vb + 1) N (rMd s i).2) := by
  have hX := hI.1
  have hB := hI.2.1
  have hK6 := hB.2.1
  have hY16 := hB.1
  have hZ := hI.2.2.2.1
  have hG := hI.2.2.2.2.2.1
  refine qSem.of (by decide +kernel) (Nat.le_of_ble_eq_true rfl) (fun w => ?_)
  refine R_ls (L' := [(0, .ref 0), (1, .int (nI i))]) (qs1 rfl (qs1 rfl qs0)) ?_
  refine R_aload_n dX7_mendCulprit_0 rfl ?_
  refine R_getR dX7_mendCulprit_1 lg_RX7_40 (by decide) rfl rfl ?_
  refine R_aload_n dX7_mendCulprit_4 rfl ?_
  refine R_getR dX7_mendCulprit_5 lg_RX7_19 (by decide) rfl rfl ?_
  refine R_callV (mc := mX0_refresh) (As := [_]) (r := 36) dX7_mendCulprit_8 lm_RX7_230 mv_X0_refresh rfl (by decide) rfl rfl rfl rfl (Nat.le_of_ble_eq_true rfl) (c_refresh hX hB (by have := hI.2.2.1.1; omega) hZ.2.2 hI.2.2.2.2.2.2.2.2.1.2) ?_
  rintro _ _ ⟨rfl, hC, h3, hZN, hOC⟩
  have hI2 := hI.cu hOC hZN hC h3
  refine R_iload_n dX7_mendCulprit_11 rfl ?_
  refine R_aload_n dX7_mendCulprit_12 rfl ?_
  refine R_getR dX7_mendCulprit_13 lg_RX7_40 (by decide) rfl rfl ?_
  refine R_callV (mc := mX0_length) (As := []) (r := 36) dX7_mendCulprit_16 lm_RX7_236 mv_X0_length rfl (by decide) rfl rfl rfl rfl (Nat.le_of_ble_eq_true rfl) c_clen ?_
  rintro _ _ ⟨rfl, rfl⟩
  refine R_top (y := nI (cuL (sD s)).length) hC.1 ?_
  have hcl := cuL_len (sD s)
  refine R_icmp_ltN (tgt := 25) dX7_mendCulprit_19 (by decide) (by omega) (by omega) (fun h_15 => ?_) (fun h_15 => ?_)
  · obtain ⟨x, hx1, hx2, hx3, hx4⟩ := cuL_at h_15
    obtain ⟨g1, g2, g3, g4⟩ := hC.2.1 i x hx1
    refine R_aload_n dX7_mendCulprit_25 rfl ?_
    refine R_getR dX7_mendCulprit_26 lg_RX7_54 (by decide) rfl rfl ?_
    refine R_callV (mc := mX2_isFull) (As := []) (r := 96) dX7_mendCulprit_29 lm_RX7_243 mv_X2_isFull rfl (by decide) rfl rfl rfl rfl (Nat.le_of_ble_eq_true rfl) (c_gfull hI2.2.2.2.2.2.1) ?_
    rintro _ _ ⟨rfl, ⟨rfl, hfu⟩ | ⟨rfl, hfu⟩⟩
    · refine R_if_eqN (tgt := 38) dX7_mendCulprit_32 (by decide) (by omega) (fun h_28 => by exact absurd h_28 (by decide)) (fun h_28 => ?_)
      refine R_bipush (v := -3) dX7_mendCulprit_35 rfl ?_
      refine R_ireturn dX7_mendCulprit_37 rfl rfl ?_
      rw [rMd_x hx1, if_pos hfu]
      exact ⟨rfl, hI2.mono (by omega)⟩
    · refine R_if_eqN (tgt := 38) dX7_mendCulprit_32 (by decide) (by omega) (fun h_28 => ?_) (fun h_28 => by exact absurd h_28 (by decide))
      refine R_aload_n dX7_mendCulprit_38 rfl ?_
      refine R_getR dX7_mendCulprit_39 lg_RX7_40 (by decide) rfl rfl ?_
      refine R_iload_n dX7_mendCulprit_42 rfl ?_
      refine R_iconst (v := nI 0) dX7_mendCulprit_43 rfl ?_
      refine R_callV (mc := mX0_property) (As := [_, _]) (r := 36) dX7_mendCulprit_44 lm_RX7_237 mv_X0_property rfl (by decide) rfl rfl rfl rfl (Nat.le_of_ble_eq_true rfl) (c_prop (i := i) (by omega) (by omega)) ?_
      rintro _ _ ⟨rfl, rfl⟩
      refine R_top (y := nI x.1) g1 ?_
      refine R_istore_n (L' := [(0, .ref 0), (1, .int (nI i)), (2, .int (nI (x.1)))]) dX7_mendCulprit_47 (by decide) (qs1 rfl (qs1 rfl (qs1 rfl qs0))) ?_
      refine R_aload_n dX7_mendCulprit_48 rfl ?_
      refine R_getR dX7_mendCulprit_49 lg_RX7_40 (by decide) rfl rfl ?_
      refine R_iload_n dX7_mendCulprit_52 rfl ?_
      refine R_iconst (v := nI 1) dX7_mendCulprit_53 rfl ?_
      refine R_callV (mc := mX0_property) (As := [_, _]) (r := 36) dX7_mendCulprit_54 lm_RX7_237 mv_X0_property rfl (by decide) rfl rfl rfl rfl (Nat.le_of_ble_eq_true rfl) (c_prop (i := i) (by omega) (by omega)) ?_
      rintro _ _ ⟨rfl, rfl⟩
      refine R_top (y := nI x.2.1) g2 ?_
      refine R_istore_n (L' := [(0, .ref 0), (1, .int (nI i)), (2, .int (nI (x.1))), (3, .int (nI (x.2.1)))]) dX7_mendCulprit_57 (by decide) (qs1 rfl (qs1 rfl (qs1 rfl (qs1 rfl qs0)))) ?_
      refine R_aload_n dX7_mendCulprit_58 rfl ?_
      refine R_getR dX7_mendCulprit_59 lg_RX7_40 (by decide) rfl rfl ?_
      refine R_iload_n dX7_mendCulprit_62 rfl ?_
      refine R_iconst (v := nI 3) dX7_mendCulprit_63 rfl ?_
      refine R_callV (mc := mX0_property) (As := [_, _]) (r := 36) dX7_mendCulprit_64 lm_RX7_237 mv_X0_property rfl (by decide) rfl rfl rfl rfl (Nat.le_of_ble_eq_true rfl) (c_prop (i := i) (by omega) (by omega)) ?_
      rintro _ _ ⟨rfl, rfl⟩
      refine R_top (y := x.2.2.2) g4 ?_
      refine R_istore (L' := [(0, .ref 0), (1, .int (nI i)), (2, .int (nI (x.1))), (3, .int (nI (x.2.1))), (4, .int (x.2.2.2))]) dX7_mendCulprit_67 (by decide) (qs1 rfl (qs1 rfl (qs1 rfl (qs1 rfl (qs1 rfl qs0))))) ?_
      refine R_iload dX7_mendCulprit_69 rfl ?_
      refine R_if_eq (tgt := 88) dX7_mendCulprit_71 (by decide) (fun h_67 => ?_) (fun h_67 => ?_)
      · refine R_bipush (v := -2) dX7_mendCulprit_88 rfl ?_
        refine R_ireturn dX7_mendCulprit_90 rfl rfl ?_
        rw [rMd_x hx1, if_neg hfu, if_pos (Or.inl h_67)]
        exact ⟨rfl, hI2.mono (by omega)⟩
      · refine R_aload_n dX7_mendCulprit_74 rfl ?_
        refine R_getR dX7_mendCulprit_75 lg_RX7_19 (by decide) rfl rfl ?_
        refine R_iload_n dX7_mendCulprit_78 rfl ?_
        refine R_iload_n dX7_mendCulprit_79 rfl ?_
        refine R_iload dX7_mendCulprit_80 rfl ?_
        refine R_callV (mc := mX3_canShiftEarlier) (As := [_, _, _]) (r := 14) dX7_mendCulprit_82 lm_RX7_247 mv_X3_canShiftEarlier rfl (by decide) rfl rfl rfl rfl (Nat.le_of_ble_eq_true rfl) (c_canShift (by omega) (by omega)) ?_
        rintro _ _ ⟨rfl, ⟨rfl, hcs⟩ | ⟨rfl, hcs⟩⟩
        · have hcn := (cnS_mem hI2.1 hB hx3 (by omega)).mp hcs
          refine R_if_neN (tgt := 91) dX7_mendCulprit_85 (by decide) (by omega) (fun h_81 => ?_) (fun h_81 => by exact absurd h_81 (by decide))
          refine R_aload_n dX7_mendCulprit_91 rfl ?_
          refine R_getR dX7_mendCulprit_92 lg_RX7_47 (by decide) rfl rfl ?_
          refine R_iconst (v := nI 3) dX7_mendCulprit_95 rfl ?_
          refine R_iload_n dX7_mendCulprit_96 rfl ?_
          refine R_iload_n dX7_mendCulprit_97 rfl ?_
          refine R_iload dX7_mendCulprit_98 rfl ?_
          refine R_callV (mc := mX1_add) (As := [_, _, _, _]) (r := 90) dX7_mendCulprit_100 lm_RX7_119 mv_X1_add rfl (by decide) rfl rfl rfl rfl (Nat.le_of_ble_eq_true rfl) (c_hadd (x := (nI 3, nI x.1, nI x.2.1, x.2.2.2)) hI2.2.2.2.2.1) ?_
          rintro _ _ ⟨rfl, hH, hO⟩
          refine R_aload_n dX7_mendCulprit_103 rfl ?_
          refine R_getR dX7_mendCulprit_104 lg_RX7_19 (by decide) rfl rfl ?_
          refine R_iload_n dX7_mendCulprit_107 rfl ?_
          refine R_iload_n dX7_mendCulprit_108 rfl ?_
          refine R_iload dX7_mendCulprit_109 rfl ?_
          refine R_callV (mc := mX3_shiftEarlier) (As := [_, _, _]) (r := 14) dX7_mendCulprit_111 lm_RX7_159 mv_X3_shiftEarlier rfl (by decide) rfl rfl rfl rfl (Nat.le_of_ble_eq_true rfl) (c_shift (by omega) (by omega)) ?_
          rintro _ _ ⟨rfl, rfl⟩
          refine R_aload_n dX7_mendCulprit_114 rfl ?_
          refine R_getR dX7_mendCulprit_115 lg_RX7_54 (by decide) rfl rfl ?_
          refine R_iload_n dX7_mendCulprit_118 rfl ?_
          refine R_iload_n dX7_mendCulprit_119 rfl ?_
          refine R_iload dX7_mendCulprit_120 rfl ?_
          refine R_callV (mc := mX2_add) (As := [_, _, _]) (r := 96) dX7_mendCulprit_122 lm_RX7_250 mv_X2_add rfl (by decide) rfl rfl rfl rfl (Nat.le_of_ble_eq_true rfl) (c_gadd (h := sG s) (x := (nI x.1, nI x.2.1, x.2.2.2)) (hI2.2.2.2.2.2.1.off (fun o a b => by rw [qIs_no (by omega), qShift_no (by omega), (hO o (by unfold oHi; omega)).1])) (by omega)) ?_
          rintro _ _ ⟨rfl, hL3, hO3⟩
          refine R_aload_n dX7_mendCulprit_125 rfl ?_
          refine R_getR dX7_mendCulprit_126 lg_RX7_54 (by decide) rfl rfl ?_
          refine R_callV (mc := mX2_length) (As := []) (r := 96) dX7_mendCulprit_129 lm_RX7_252 mv_X2_length rfl (by decide) rfl rfl rfl rfl (Nat.le_of_ble_eq_true rfl) (c_glen hL3) ?_
          rintro _ _ ⟨rfl, rfl⟩
          refine R_top (y := nI ((sG s).length + 1)) (by rw [List.length_append]; rfl) ?_
          refine R_ireturn dX7_mendCulprit_132 rfl rfl ?_
          rw [rMd_x hx1, if_neg hfu, if_neg (fun z => by rcases z with z | z; exact h_67 z; rw [hcn] at z; cases z)]
          exact ⟨rfl, XI_chM hI2 hvb hx3 hx4 hcn hH hO rfl hL3 hO3⟩
        · have hcn := fun z => hcs ((cnS_mem hI2.1 hB hx3 (by omega)).mpr z)
          refine R_if_neN (tgt := 91) dX7_mendCulprit_85 (by decide) (by omega) (fun h_81 => by exact absurd h_81 (by decide)) (fun h_81 => ?_)
          refine R_bipush (v := -2) dX7_mendCulprit_88 rfl ?_
          refine R_ireturn dX7_mendCulprit_90 rfl rfl ?_
          rw [rMd_x hx1, if_neg hfu, if_pos (Or.inr (Bool.eq_false_iff.mpr hcn))]
          exact ⟨rfl, hI2.mono (by omega)⟩
  · refine R_bipush (v := -4) dX7_mendCulprit_22 rfl ?_
    refine R_ireturn dX7_mendCulprit_24 rfl rfl ?_
    have hr : rMd s i = (-4, s) := by unfold rMd; rw [List.getElem?_eq_none (by omega)]
    rw [hr]
    exact ⟨rfl, hI2.mono (by omega)⟩
set_option maxRecDepth 100000 in
set_option maxHeartbeats 4000000 in
theorem o_mend {vb : Nat} {M : qMem} {s : sT} (hI : XI vb M s) (hvb : vb < 2000000000) {i : Int32} : qSem 0 mX7_mend [.ref 0, .int (i)] M (fun r N => r = some (.int (rMend s i).1) ∧ XI (vb + 1) N (rMend s i).2) := by
  refine qSem.of (by decide +kernel) (Nat.le_of_ble_eq_true rfl) (fun w => ?_)
  refine R_ls (L' := [(0, .ref 0), (1, .int (i))]) (qs1 rfl (qs1 rfl qs0)) ?_
  refine R_iload_n dX7_mend_0 rfl ?_
  refine R_if_ge (tgt := 8) dX7_mend_1 (by decide) (fun h_1 => ?_) (fun h_1 => ?_)
  · have hge : ¬ i < 0 := by first | exact h_1 | exact Int32.not_lt.mpr h_1
    have hge2 := hge
    obtain ⟨ci, hci, rfl⟩ := q_ge0 hge
    refine R_aload_n dX7_mend_8 rfl ?_
    refine R_iload_n dX7_mend_9 rfl ?_
    refine R_callV (mc := mX7_mendCulprit) (As := [_]) (r := 0) dX7_mend_10 lm_RX7_240 mv_X7_mendCulprit rfl (by decide) rfl rfl rfl rfl (Nat.le_of_ble_eq_true rfl) (c_mendC hI hvb hci) ?_
    rintro _ _ ⟨rfl, hI2⟩
    refine R_ireturn dX7_mend_13 rfl rfl ?_
    refine ⟨?_, ?_⟩ <;> unfold rMend <;> rw [if_neg hge2, kn_n (by omega)]
    exact hI2
  · have hlt : i < 0 := by first | exact h_1 | exact Int32.not_le.mp h_1
    refine R_iconst (v := -1) dX7_mend_4 rfl ?_
    refine R_goto (tgt := 13) dX7_mend_5 (by decide) ?_
    refine R_ireturn dX7_mend_13 rfl rfl ?_
    refine ⟨?_, ?_⟩ <;> unfold rMend <;> rw [if_pos hlt]
    exact hI.mono (by omega)

theorem rMends_0 {n : Nat} {s : sT} (h : ¬ 0 < (rMd s 0).1) : rMends (n + 1) s = (0, s) := by unfold rMends; rw [if_neg h]
theorem rMends_1 {n : Nat} {s : sT} (h : 0 < (rMd s 0).1) : rMends (n + 1) s = ((rMends n (rMd s 0).2).1 + 1, (rMends n (rMd s 0).2).2) := by
  show (if _ then _ else _) = _; rw [if_pos h]
theorem rMd_keep {s : sT} {i : Nat} (h : ¬ 0 < (rMd s i).1) : (rMd s i).2 = s := by
  unfold rMd at h ⊢
  split
  · rfl
  · rename_i x hx
    rw [hx] at h
    simp only at h
    split
    · rfl
    · rename_i h1
      rw [if_neg h1] at h
      split
      · rfl
      · rename_i h2
        rw [if_neg h2] at h
        refine absurd ?_ h
        show 0 < nI ((sG s).length + 1)
        exact (nI_ltI (a := 0) (by omega) (by omega)).mpr (Nat.succ_pos _)
set_option maxRecDepth 100000 in
set_option maxHeartbeats 4000000 in
theorem l_mends {w : qWT} {s0 : sT} {vb0 : Nat} (hvb : vb0 + 20 < 2000000000) : ∀ (fu : Nat) (i : Nat) (s : sT) (K : qMem), (13 - i) < fu → (i ≤ 12) → (XI (vb0 + i) K s) → (rMends 12 s0 = (i + (rMends (12 - i) s).1, (rMends (12 - i) s).2)) → qRW 0 w mX7_mends 2 [(0, .ref 0), (1, .int (nI i))] [] K (fun r N => r = some (.int (nI ((rMends 12 s0).1))) ∧ XI (vb0 + 12) N (rMends 12 s0).2) := by
  intro fu
  induction fu with
  | zero => intro i s K hn; exact absurd hn (Nat.not_lt_zero _)
  | succ fu ih =>
    intro i s K hn hi hIK hr
    refine R_iload_n dX7_mends_2 rfl ?_
    refine R_bipush (v := nI 12) dX7_mends_3 rfl ?_
    refine R_icmp_geN (tgt := 22) dX7_mends_5 (by decide) (by omega) (by omega) (fun h_5 => ?_) (fun h_5 => ?_)
    · refine R_iload_n dX7_mends_22 rfl ?_
      refine R_ireturn dX7_mends_23 rfl rfl ?_
      have e : i = 12 := by omega
      subst e
      have e2 : rMends (12 - 12) s = (0, s) := rfl
      rw [e2] at hr
      rw [hr]
      exact ⟨rfl, hIK⟩
    · refine R_aload_n dX7_mends_8 rfl ?_
      refine R_iconst (v := nI 0) dX7_mends_9 rfl ?_
      refine R_callV (mc := mX7_mendCulprit) (As := [_]) (r := 0) dX7_mends_10 lm_RX7_240 mv_X7_mendCulprit rfl (by decide) rfl rfl rfl rfl (Nat.le_of_ble_eq_true rfl) (c_mendC hIK (by omega) (i := 0) (by decide)) ?_
      rintro _ _ ⟨rfl, hI2⟩
      obtain ⟨m, hm⟩ : ∃ m, 12 - i = m + 1 := ⟨11 - i, by omega⟩
      refine R_if_le (tgt := 22) dX7_mends_13 (by decide) (fun h_13 => ?_) (fun h_13 => ?_)
      · refine R_iload_n dX7_mends_22 rfl ?_
        refine R_ireturn dX7_mends_23 rfl rfl ?_
        have hn0 : ¬ 0 < (rMd s 0).1 := by first | exact h_13 | exact Int32.not_lt.mpr h_13
        rw [hm, rMends_0 hn0] at hr
        rw [hr]
        rw [rMd_keep hn0] at hI2
        exact ⟨rfl, hI2.mono (by omega)⟩
      · refine R_iincN (n := 1) (L' := [(0, .ref 0), (1, .int (nI (i + 1)))]) dX7_mends_16 rfl (by decide) (qs1 rfl (qs1 rfl qs0)) ?_
        refine R_goto (tgt := 2) dX7_mends_19 (by decide) ?_
        refine R_ls (L' := [(0, .ref 0), (1, .int (nI (i + 1)))]) (qs1 rfl (qs1 rfl qs0)) ?_
        exact (ih (i + 1) _ _ (by omega) (by omega) hI2 (by rw [hr, hm, rMends_1 (by first | exact h_13 | exact Int32.not_le.mp h_13), show 12 - (i + 1) = m by omega]; simp; omega))
set_option maxRecDepth 100000 in
set_option maxHeartbeats 4000000 in
theorem o_mends {vb : Nat} {M : qMem} {s : sT} (hI : XI vb M s) (hvb : vb + 20 < 2000000000) : qSem 0 mX7_mends [.ref 0] M (fun r N => r = some (.int (nI ((rMends 12 s).1))) ∧ XI (vb + 12) N (rMends 12 s).2) := by
  refine qSem.of (by decide +kernel) (Nat.le_of_ble_eq_true rfl) (fun w => ?_)
  refine R_ls (L' := [(0, .ref 0)]) (qs1 rfl qs0) ?_
  refine R_iconst (v := nI 0) dX7_mends_0 rfl ?_
  refine R_istore_n (L' := [(0, .ref 0), (1, .int (nI 0))]) dX7_mends_1 (by decide) (qs1 rfl (qs1 rfl qs0)) ?_
  refine R_ls (L' := [(0, .ref 0), (1, .int (nI 0))]) (qs1 rfl (qs1 rfl qs0)) ?_
  exact (l_mends hvb 14 0 s M (by omega) (by omega) hI (by simp))

theorem XI.tx {vb : Nat} {M N : qMem} {s : sT} {x : List Nat} (h : XI vb M s) (e : ∀ o, 3 ≤ o → N.1 o = M.1 o) (e2 : N.2 = M.2) (hT : XT N x) (hB : txB x) : XI vb N (chX s x) := by
  obtain ⟨h1, h2, h3, h4, h5, h6, h7, h8, h9, h10⟩ := h
  refine ⟨h1.off h2.2.1 (fun o a b => e o (by omega)), h2, h3, h4.off (fun o ho => by rw [e2]), h5.off (fun o a b => e o (by omega)), h6.off (fun o a b => e o (by omega)), hT, hB, ⟨?_, fun hc => ?_⟩, h10⟩
  · rw [e 14 (by omega), e 36 (by omega)]; exact h9.1
  · rw [e 14 (by omega), e 36 (by omega)] at hc
    exact (h9.2 hc).off h2.2.1 (fun o a b => e o (by omega))
theorem txB_app {tx : List Nat} {c : Nat} (h : txB tx) (hl : tx.length < 200) (h1 : 32 ≤ c) (h2 : c ≤ 126) : txB (tx ++ [c]) := by
  refine ⟨by rw [List.length_append]; exact hl, fun i hi => ?_⟩
  rw [List.length_append] at hi
  unfold lt
  rcases Nat.lt_or_ge i tx.length with q | q
  · rw [List.getD_eq_getElem?_getD, List.getElem?_append_left q, ← List.getD_eq_getElem?_getD]; exact h.2 i q
  · have e : i = tx.length := by simp at hi; omega
    subst e; simp; omega
set_option maxRecDepth 100000 in
set_option maxHeartbeats 4000000 in
theorem o_write {vb : Nat} {M : qMem} {s : sT} (hI : XI vb M s) {x : Int32} : qSem 0 mX7_write [.ref 0, .int (x)] M (fun r N => r = some (.int (rWrite s x).1) ∧ XI vb N (rWrite s x).2) := by
  have hT := hI.2.2.2.2.2.2.1
  have htB := hI.2.2.2.2.2.2.2.1
  refine qSem.of (by decide +kernel) (Nat.le_of_ble_eq_true rfl) (fun w => ?_)
  refine R_ls (L' := [(0, .ref 0), (1, .int (x))]) (qs1 rfl (qs1 rfl qs0)) ?_
  refine R_iload_n dX7_write_0 rfl ?_
  refine R_bipush (v := nI 32) dX7_write_1 rfl ?_
  refine R_icmp_lt (tgt := 12) dX7_write_3 (by decide) (fun h_3 => ?_) (fun h_3 => ?_)
  · refine R_iconst (v := -1) dX7_write_12 rfl ?_
    refine R_ireturn dX7_write_13 rfl rfl ?_
    refine ⟨?_, ?_⟩ <;> unfold rWrite <;> rw [if_pos (by first | exact Or.inl h_3 | exact Or.inr h_9 | exact Or.inl (Int32.not_le.mp h_3) | exact Or.inr (Int32.not_le.mp h_9))]
    exact hI
  · refine R_iload_n dX7_write_6 rfl ?_
    refine R_bipush (v := nI 126) dX7_write_7 rfl ?_
    refine R_icmp_le (tgt := 14) dX7_write_9 (by decide) (fun h_9 => ?_) (fun h_9 => ?_)
    · have hr : ¬ (x < nI 32 ∨ nI 126 < x) := fun z => by rcases z with z | z; (first | exact h_3 z | exact absurd z (Int32.not_lt.mpr h_3)); (first | exact h_9 z | exact absurd z (Int32.not_lt.mpr h_9))
      have hr2 := hr
      obtain ⟨cx, hcx, rfl⟩ := nI_of (x := x) (fun z => hr (Or.inl (Int32.lt_trans z (by decide))))
      have k1 : 32 ≤ cx := Nat.not_lt.mp (fun z => hr (Or.inl ((nI_ltI (by omega) (by omega)).mpr z)))
      have k2 : cx ≤ 126 := Nat.not_lt.mp (fun z => hr (Or.inr ((nI_ltI (by omega) (by omega)).mpr z)))
      refine R_aload_n dX7_write_14 rfl ?_
      refine R_getR dX7_write_15 lg_RX7_12 (by decide) rfl rfl ?_
      refine R_iload_n dX7_write_18 rfl ?_
      refine R_i2c dX7_write_19 ?_
      refine R_callV (mc := mX4_append) (As := [_]) (r := 1) dX7_write_20 lm_RX7_70 mv_X4_append rfl (by decide) rfl rfl rfl rfl (Nat.le_of_ble_eq_true rfl) (c_append hT htB (nar_c k2)) ?_
      rintro _ _ (⟨hl, rfl, rfl⟩ | ⟨hl, rfl, rfl⟩)
      · have hT2 := XT_app (c := cx) hT
        refine R_if_eqN (tgt := 36) dX7_write_23 (by decide) (by omega) (fun h_23 => by exact absurd h_23 (by decide)) (fun h_23 => ?_)
        refine R_aload_n dX7_write_26 rfl ?_
        refine R_getR dX7_write_27 lg_RX7_12 (by decide) rfl rfl ?_
        refine R_callV (mc := mX4_length) (As := []) (r := 1) dX7_write_30 lm_RX7_80 mv_X4_length rfl (by decide) rfl rfl rfl rfl (Nat.le_of_ble_eq_true rfl) (c_xlen hT2) ?_
        rintro _ _ ⟨rfl, rfl⟩
        refine R_top (y := nI ((sX s).length + 1)) (by rw [List.length_append]; rfl) ?_
        refine R_goto (tgt := 38) dX7_write_33 (by decide) ?_
        refine R_ireturn dX7_write_38 rfl rfl ?_
        refine ⟨?_, ?_⟩ <;> unfold rWrite <;> rw [if_neg hr2, if_pos hl]
        rw [kn_n (by omega)]
        exact hI.tx (fun o h => by rw [qIs_no (by omega), qIs_no (by omega)]) rfl hT2 (txB_app htB hl k1 k2)
      · refine R_if_eqN (tgt := 36) dX7_write_23 (by decide) (by omega) (fun h_23 => ?_) (fun h_23 => by exact absurd h_23 (by decide))
        refine R_bipush (v := -3) dX7_write_36 rfl ?_
        refine R_ireturn dX7_write_38 rfl rfl ?_
        refine ⟨?_, ?_⟩ <;> unfold rWrite <;> rw [if_neg hr2, if_neg (by omega)]
        exact hI
    · refine R_iconst (v := -1) dX7_write_12 rfl ?_
      refine R_ireturn dX7_write_13 rfl rfl ?_
      refine ⟨?_, ?_⟩ <;> unfold rWrite <;> rw [if_pos (by first | exact Or.inl h_3 | exact Or.inr h_9 | exact Or.inl (Int32.not_le.mp h_3) | exact Or.inr (Int32.not_le.mp h_9))]
      exact hI
set_option maxRecDepth 100000 in
set_option maxHeartbeats 4000000 in
theorem o_wipe {vb : Nat} {M : qMem} {s : sT} (hI : XI vb M s) : qSem 0 mX7_wipe [.ref 0] M (fun r N => r = some (.int (rWipe s).1) ∧ XI vb N (rWipe s).2) := by
  have hT := hI.2.2.2.2.2.2.1
  refine qSem.of (by decide +kernel) (Nat.le_of_ble_eq_true rfl) (fun w => ?_)
  refine R_ls (L' := [(0, .ref 0)]) (qs1 rfl qs0) ?_
  refine R_aload_n dX7_wipe_0 rfl ?_
  refine R_getR dX7_wipe_1 lg_RX7_12 (by decide) rfl rfl ?_
  refine R_callV (mc := mX4_length) (As := []) (r := 1) dX7_wipe_4 lm_RX7_80 mv_X4_length rfl (by decide) rfl rfl rfl rfl (Nat.le_of_ble_eq_true rfl) (c_xlen hT) ?_
  rintro _ _ ⟨rfl, rfl⟩
  refine R_istore_n (L' := [(0, .ref 0), (1, .int (nI (sX s).length))]) dX7_wipe_7 (by decide) (qs1 rfl (qs1 rfl qs0)) ?_
  refine R_aload_n dX7_wipe_8 rfl ?_
  refine R_getR dX7_wipe_9 lg_RX7_12 (by decide) rfl rfl ?_
  refine R_callV (mc := mX4_clear) (As := []) (r := 1) dX7_wipe_12 lm_RX7_77 mv_X4_clear rfl (by decide) rfl rfl rfl rfl (Nat.le_of_ble_eq_true rfl) c_xclear ?_
  rintro _ _ ⟨rfl, rfl⟩
  refine R_iload_n dX7_wipe_15 rfl ?_
  refine R_ireturn dX7_wipe_16 rfl rfl ?_
  exact ⟨rfl, hI.tx (fun o h => by rw [qIs_no (by omega)]) rfl ⟨by rw [qIs_eq]; rfl, fun i hi => absurd hi (Nat.not_lt_zero i)⟩ ⟨Nat.zero_le _, fun i hi => absurd hi (Nat.not_lt_zero i)⟩⟩

theorem rFault_of {s : sT} {v : Option Value} {N : qMem} (h : match rdR (sX s) with
  | .inl f => v = some (.int (nI f)) ∧ f < (sX s).length
  | .inr d => v = some (.int (-4)) ∧ XR 3 N d) : v = some (.int (rFault s)) := by
  unfold rFault
  revert h
  cases rdR (sX s) with
  | inl f => exact fun h => h.1
  | inr d => exact fun h => h.1
set_option maxRecDepth 100000 in
set_option maxHeartbeats 4000000 in
theorem o_fault {vb : Nat} {M : qMem} {s : sT} (hI : XI vb M s) : qSem 0 mX7_fault [.ref 0] M (fun r N => r = some (.int (rFault s)) ∧ XI vb N s) := by
  have hT := hI.2.2.2.2.2.2.1
  have htB := hI.2.2.2.2.2.2.2.1
  refine qSem.of (by decide +kernel) (Nat.le_of_ble_eq_true rfl) (fun w => ?_)
  refine R_ls (L' := [(0, .ref 0)]) (qs1 rfl qs0) ?_
  refine R_aload_n dX7_fault_0 rfl ?_
  refine R_getR dX7_fault_1 lg_RX7_12 (by decide) rfl rfl ?_
  refine R_callV (mc := mX4_read) (As := []) (r := 1) dX7_fault_4 lm_RX7_81 mv_X4_read rfl (by decide) rfl rfl rfl rfl (Nat.le_of_ble_eq_true rfl) (c_read hT htB) ?_
  rintro _ _ ⟨hq, hO⟩
  obtain rfl := rFault_of hq
  refine R_ireturn dX7_fault_7 rfl rfl ?_
  exact ⟨rfl, hI.dr hO⟩
