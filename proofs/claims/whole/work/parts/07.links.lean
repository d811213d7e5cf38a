theorem qW_l (ps : List Nat) {ws : List Cond} (h : ws = ps.filterMap (fun i => tables_1[i]?)) (hg : ws.all goodWord = true) : ∀ z ∈ ws, z ∈ qW := by
  intro z hz
  have h1 := List.all_eq_true.mp hg z hz
  rw [h] at hz
  obtain ⟨i, -, hi⟩ := List.mem_filterMap.mp hz
  exact qW_t hi h1
theorem ck_0 : qCK 0 RX0 TX0 11 tyX0 := ⟨rfl, qW_l [148, 150, 152, 154, 156, 158, 160, 162, 164, 166, 168] (by decide +kernel) (by decide +kernel), tyX0_ok, nmX0⟩
theorem ck_1 : qCK 1 RX1 TX1 3 tyX1 := ⟨rfl, qW_l [181, 183, 185] (by decide +kernel) (by decide +kernel), tyX1_ok, nmX1⟩
theorem ck_2 : qCK 2 RX2 TX2 2 tyX2 := ⟨rfl, qW_l [197, 199] (by decide +kernel) (by decide +kernel), tyX2_ok, nmX2⟩
theorem ck_3 : qCK 3 RX3 TX3 8 tyX3 := ⟨rfl, qW_l [45, 47, 49, 51, 53, 55, 57, 59] (by decide +kernel) (by decide +kernel), tyX3_ok, nmX3⟩
theorem ck_4 : qCK 4 RX4 TX4 3 tyX4 := ⟨rfl, qW_l [67, 69, 71] (by decide +kernel) (by decide +kernel), tyX4_ok, nmX4⟩
theorem ck_5 : qCK 5 RX5 TX5 6 tyX5 := ⟨rfl, qW_l [113, 115, 117, 119, 121, 123] (by decide +kernel) (by decide +kernel), tyX5_ok, nmX5⟩
theorem ck_6 : qCK 6 RX6 TX6 5 tyX6 := ⟨rfl, qW_l [87, 89, 91, 93, 95] (by decide +kernel) (by decide +kernel), tyX6_ok, nmX6⟩
theorem ck_7 : qCK 7 RX7 TX7 7 tyX7 := ⟨rfl, qW_l [361, 363, 365, 367, 369, 371, 373] (by decide +kernel) (by decide +kernel), tyX7_ok, nmX7⟩
theorem ck_8 : qCK 8 RX8 TX8 31 tyX8 := ⟨rfl, qW_l [856, 858, 860, 862, 864, 866, 868, 870, 872, 874, 876, 878, 880, 882, 884, 886, 888, 890, 892, 894, 896, 898, 900, 902, 904, 906, 908, 910, 912, 914, 916] (by decide +kernel) (by decide +kernel), tyX8_ok, nmX8⟩
def mX0_refresh : qMT := (yX0_refresh, cX0_refresh, 4, none, 4, 105)
theorem mv_X0_refresh : qMV mX0_refresh 1 := ⟨⟨qW_t (i := 649) (by decide +kernel) rfl, qW_t (i := 6) (by decide +kernel) rfl, ⟨by decide +kernel, by decide +kernel⟩, by decide +kernel⟩, qW_t (i := 647) (by decide +kernel) rfl, qW_t (i := 648) (by decide +kernel) rfl⟩
def mX0_votesCast : qMT := (yX0_votesCast, cX0_votesCast, 3, (some .int), 0, 0)
theorem mv_X0_votesCast : qMV mX0_votesCast 2 := ⟨⟨qW_t (i := 712) (by decide +kernel) rfl, qW_t (i := 6) (by decide +kernel) rfl, ⟨by decide +kernel, by decide +kernel⟩, by decide +kernel⟩, qW_t (i := 710) (by decide +kernel) rfl, qW_t (i := 711) (by decide +kernel) rfl⟩
def mX0_length : qMT := (yX0_length, cX0_length, 1, (some .int), 0, 0)
theorem mv_X0_length : qMV mX0_length 0 := ⟨⟨qW_t (i := 720) (by decide +kernel) rfl, qW_t (i := 6) (by decide +kernel) rfl, ⟨by decide +kernel, by decide +kernel⟩, by decide +kernel⟩, qW_t (i := 718) (by decide +kernel) rfl, qW_t (i := 719) (by decide +kernel) rfl⟩
def mX0_property : qMT := (yX0_property, cX0_property, 3, (some .int), 0, 0)
theorem mv_X0_property : qMV mX0_property 2 := ⟨⟨qW_t (i := 724) (by decide +kernel) rfl, qW_t (i := 6) (by decide +kernel) rfl, ⟨by decide +kernel, by decide +kernel⟩, by decide +kernel⟩, qW_t (i := 722) (by decide +kernel) rfl, qW_t (i := 723) (by decide +kernel) rfl⟩
def mX0_clear : qMT := (yX0_clear, cX0_clear, 3, none, 0, 0)
theorem mv_X0_clear : qMV mX0_clear 0 := ⟨⟨qW_t (i := 657) (by decide +kernel) rfl, qW_t (i := 6) (by decide +kernel) rfl, ⟨by decide +kernel, by decide +kernel⟩, by decide +kernel⟩, qW_t (i := 656) (by decide +kernel) rfl, qW_p (i := 17) (by decide +kernel) rfl⟩
def mX0_addPair : qMT := (yX0_addPair, cX0_addPair, 6, none, 3, 80)
theorem mv_X0_addPair : qMV mX0_addPair 3 := ⟨⟨qW_t (i := 663) (by decide +kernel) rfl, qW_t (i := 6) (by decide +kernel) rfl, ⟨by decide +kernel, by decide +kernel⟩, by decide +kernel⟩, qW_t (i := 662) (by decide +kernel) rfl, qW_p (i := 18) (by decide +kernel) rfl⟩
def mX0_findCulprit : qMT := (yX0_findCulprit, cX0_findCulprit, 6, (some .boolean), 3, 75)
theorem mv_X0_findCulprit : qMV mX0_findCulprit 1 := ⟨⟨qW_t (i := 681) (by decide +kernel) rfl, qW_t (i := 6) (by decide +kernel) rfl, ⟨by decide +kernel, by decide +kernel⟩, by decide +kernel⟩, qW_t (i := 680) (by decide +kernel) rfl, qW_p (i := 19) (by decide +kernel) rfl⟩
def mX0_size : qMT := (yX0_size, cX0_size, 7, (some .int), 2, 49)
theorem mv_X0_size : qMV mX0_size 2 := ⟨⟨qW_t (i := 686) (by decide +kernel) rfl, qW_t (i := 6) (by decide +kernel) rfl, ⟨by decide +kernel, by decide +kernel⟩, by decide +kernel⟩, qW_t (i := 685) (by decide +kernel) rfl, qW_p (i := 20) (by decide +kernel) rfl⟩
def mX0_isOf : qMT := (yX0_isOf, cX0_isOf, 3, (some .boolean), 0, 0)
theorem mv_X0_isOf : qMV mX0_isOf 2 := ⟨⟨qW_t (i := 690) (by decide +kernel) rfl, qW_t (i := 6) (by decide +kernel) rfl, ⟨by decide +kernel, by decide +kernel⟩, by decide +kernel⟩, qW_t (i := 689) (by decide +kernel) rfl, qW_p (i := 21) (by decide +kernel) rfl⟩
def mX0_strikeVotes : qMT := (yX0_strikeVotes, cX0_strikeVotes, 9, none, 1, 22)
theorem mv_X0_strikeVotes : qMV mX0_strikeVotes 3 := ⟨⟨qW_t (i := 702) (by decide +kernel) rfl, qW_t (i := 6) (by decide +kernel) rfl, ⟨by decide +kernel, by decide +kernel⟩, by decide +kernel⟩, qW_t (i := 701) (by decide +kernel) rfl, qW_p (i := 22) (by decide +kernel) rfl⟩
def mX1_clear : qMT := (yX1_clear, cX1_clear, 1, none, 0, 0)
theorem mv_X1_clear : qMV mX1_clear 0 := ⟨⟨qW_t (i := 349) (by decide +kernel) rfl, qW_t (i := 7) (by decide +kernel) rfl, ⟨by decide +kernel, by decide +kernel⟩, by decide +kernel⟩, qW_t (i := 347) (by decide +kernel) rfl, qW_t (i := 348) (by decide +kernel) rfl⟩
def mX1_length : qMT := (yX1_length, cX1_length, 1, (some .int), 0, 0)
theorem mv_X1_length : qMV mX1_length 0 := ⟨⟨qW_t (i := 472) (by decide +kernel) rfl, qW_t (i := 7) (by decide +kernel) rfl, ⟨by decide +kernel, by decide +kernel⟩, by decide +kernel⟩, qW_t (i := 470) (by decide +kernel) rfl, qW_t (i := 471) (by decide +kernel) rfl⟩
def mX1_add : qMT := (yX1_add, cX1_add, 6, none, 1, 21)
theorem mv_X1_add : qMV mX1_add 4 := ⟨⟨qW_t (i := 432) (by decide +kernel) rfl, qW_t (i := 7) (by decide +kernel) rfl, ⟨by decide +kernel, by decide +kernel⟩, by decide +kernel⟩, qW_t (i := 430) (by decide +kernel) rfl, qW_t (i := 431) (by decide +kernel) rfl⟩
def mX1_slot : qMT := (yX1_slot, cX1_slot, 2, (some .int), 0, 0)
theorem mv_X1_slot : qMV mX1_slot 1 := ⟨⟨qW_t (i := 436) (by decide +kernel) rfl, qW_t (i := 7) (by decide +kernel) rfl, ⟨by decide +kernel, by decide +kernel⟩, by decide +kernel⟩, qW_t (i := 435) (by decide +kernel) rfl, qW_p (i := 9) (by decide +kernel) rfl⟩
def mX1_latest : qMT := (yX1_latest, cX1_latest, 2, (some .int), 1, 21)
theorem mv_X1_latest : qMV mX1_latest 1 := ⟨⟨qW_t (i := 476) (by decide +kernel) rfl, qW_t (i := 7) (by decide +kernel) rfl, ⟨by decide +kernel, by decide +kernel⟩, by decide +kernel⟩, qW_t (i := 474) (by decide +kernel) rfl, qW_t (i := 475) (by decide +kernel) rfl⟩
def mX1_dropLatest : qMT := (yX1_dropLatest, cX1_dropLatest, 1, none, 0, 0)
theorem mv_X1_dropLatest : qMV mX1_dropLatest 0 := ⟨⟨qW_t (i := 493) (by decide +kernel) rfl, qW_t (i := 7) (by decide +kernel) rfl, ⟨by decide +kernel, by decide +kernel⟩, by decide +kernel⟩, qW_t (i := 491) (by decide +kernel) rfl, qW_t (i := 492) (by decide +kernel) rfl⟩
def mX2_clear : qMT := (yX2_clear, cX2_clear, 1, none, 0, 0)
theorem mv_X2_clear : qMV mX2_clear 0 := ⟨⟨qW_t (i := 345) (by decide +kernel) rfl, qW_t (i := 8) (by decide +kernel) rfl, ⟨by decide +kernel, by decide +kernel⟩, by decide +kernel⟩, qW_t (i := 343) (by decide +kernel) rfl, qW_t (i := 344) (by decide +kernel) rfl⟩
def mX2_length : qMT := (yX2_length, cX2_length, 1, (some .int), 0, 0)
theorem mv_X2_length : qMV mX2_length 0 := ⟨⟨qW_t (i := 750) (by decide +kernel) rfl, qW_t (i := 8) (by decide +kernel) rfl, ⟨by decide +kernel, by decide +kernel⟩, by decide +kernel⟩, qW_t (i := 748) (by decide +kernel) rfl, qW_t (i := 749) (by decide +kernel) rfl⟩
def mX2_isFull : qMT := (yX2_isFull, cX2_isFull, 1, (some .boolean), 0, 0)
theorem mv_X2_isFull : qMV mX2_isFull 0 := ⟨⟨qW_t (i := 736) (by decide +kernel) rfl, qW_t (i := 8) (by decide +kernel) rfl, ⟨by decide +kernel, by decide +kernel⟩, by decide +kernel⟩, qW_t (i := 734) (by decide +kernel) rfl, qW_t (i := 735) (by decide +kernel) rfl⟩
def mX2_add : qMT := (yX2_add, cX2_add, 4, none, 1, 20)
theorem mv_X2_add : qMV mX2_add 3 := ⟨⟨qW_t (i := 745) (by decide +kernel) rfl, qW_t (i := 8) (by decide +kernel) rfl, ⟨by decide +kernel, by decide +kernel⟩, by decide +kernel⟩, qW_t (i := 743) (by decide +kernel) rfl, qW_t (i := 744) (by decide +kernel) rfl⟩
def mX2_dropLast : qMT := (yX2_dropLast, cX2_dropLast, 1, none, 0, 0)
theorem mv_X2_dropLast : qMV mX2_dropLast 0 := ⟨⟨qW_t (i := 489) (by decide +kernel) rfl, qW_t (i := 8) (by decide +kernel) rfl, ⟨by decide +kernel, by decide +kernel⟩, by decide +kernel⟩, qW_t (i := 487) (by decide +kernel) rfl, qW_t (i := 488) (by decide +kernel) rfl⟩
def mX2_property : qMT := (yX2_property, cX2_property, 3, (some .int), 0, 0)
theorem mv_X2_property : qMV mX2_property 2 := ⟨⟨qW_t (i := 762) (by decide +kernel) rfl, qW_t (i := 8) (by decide +kernel) rfl, ⟨by decide +kernel, by decide +kernel⟩, by decide +kernel⟩, qW_t (i := 760) (by decide +kernel) rfl, qW_t (i := 761) (by decide +kernel) rfl⟩
def mX3_startAfresh : qMT := (yX3_startAfresh, cX3_startAfresh, 2, none, 0, 0)
theorem mv_X3_startAfresh : qMV mX3_startAfresh 0 := ⟨⟨qW_t (i := 266) (by decide +kernel) rfl, qW_t (i := 3) (by decide +kernel) rfl, ⟨by decide +kernel, by decide +kernel⟩, by decide +kernel⟩, qW_t (i := 264) (by decide +kernel) rfl, qW_t (i := 265) (by decide +kernel) rfl⟩
def mX3_copyFrom : qMT := (yX3_copyFrom, cX3_copyFrom, 4, none, 0, 0)
theorem mv_X3_copyFrom : qMV mX3_copyFrom 1 := ⟨⟨qW_t (i := 341) (by decide +kernel) rfl, qW_t (i := 3) (by decide +kernel) rfl, ⟨by decide +kernel, by decide +kernel⟩, by decide +kernel⟩, qW_t (i := 339) (by decide +kernel) rfl, qW_t (i := 340) (by decide +kernel) rfl⟩
def mX3_setYears : qMT := (yX3_setYears, cX3_setYears, 2, none, 0, 0)
theorem mv_X3_setYears : qMV mX3_setYears 1 := ⟨⟨qW_t (i := 288) (by decide +kernel) rfl, qW_t (i := 3) (by decide +kernel) rfl, ⟨by decide +kernel, by decide +kernel⟩, by decide +kernel⟩, qW_t (i := 286) (by decide +kernel) rfl, qW_t (i := 287) (by decide +kernel) rfl⟩
def mX3_addStation : qMT := (yX3_addStation, cX3_addStation, 3, (some .boolean), 0, 0)
theorem mv_X3_addStation : qMV mX3_addStation 2 := ⟨⟨qW_t (i := 300) (by decide +kernel) rfl, qW_t (i := 3) (by decide +kernel) rfl, ⟨by decide +kernel, by decide +kernel⟩, by decide +kernel⟩, qW_t (i := 298) (by decide +kernel) rfl, qW_t (i := 299) (by decide +kernel) rfl⟩
def mX3_version : qMT := (yX3_version, cX3_version, 1, (some .int), 0, 0)
theorem mv_X3_version : qMV mX3_version 0 := ⟨⟨qW_t (i := 653) (by decide +kernel) rfl, qW_t (i := 3) (by decide +kernel) rfl, ⟨by decide +kernel, by decide +kernel⟩, by decide +kernel⟩, qW_t (i := 651) (by decide +kernel) rfl, qW_t (i := 652) (by decide +kernel) rfl⟩
def mX3_years : qMT := (yX3_years, cX3_years, 1, (some .int), 0, 0)
theorem mv_X3_years : qMV mX3_years 0 := ⟨⟨qW_t (i := 292) (by decide +kernel) rfl, qW_t (i := 3) (by decide +kernel) rfl, ⟨by decide +kernel, by decide +kernel⟩, by decide +kernel⟩, qW_t (i := 290) (by decide +kernel) rfl, qW_t (i := 291) (by decide +kernel) rfl⟩
def mX3_stations : qMT := (yX3_stations, cX3_stations, 1, (some .int), 0, 0)
theorem mv_X3_stations : qMV mX3_stations 0 := ⟨⟨qW_t (i := 304) (by decide +kernel) rfl, qW_t (i := 3) (by decide +kernel) rfl, ⟨by decide +kernel, by decide +kernel⟩, by decide +kernel⟩, qW_t (i := 302) (by decide +kernel) rfl, qW_t (i := 303) (by decide +kernel) rfl⟩
def mX3_hasStation : qMT := (yX3_hasStation, cX3_hasStation, 2, (some .boolean), 0, 0)
theorem mv_X3_hasStation : qMV mX3_hasStation 1 := ⟨⟨qW_t (i := 408) (by decide +kernel) rfl, qW_t (i := 3) (by decide +kernel) rfl, ⟨by decide +kernel, by decide +kernel⟩, by decide +kernel⟩, qW_t (i := 406) (by decide +kernel) rfl, qW_t (i := 407) (by decide +kernel) rfl⟩
def mX3_knows : qMT := (yX3_knows, cX3_knows, 3, (some .boolean), 1, 21)
theorem mv_X3_knows : qMV mX3_knows 2 := ⟨⟨qW_t (i := 404) (by decide +kernel) rfl, qW_t (i := 3) (by decide +kernel) rfl, ⟨by decide +kernel, by decide +kernel⟩, by decide +kernel⟩, qW_t (i := 402) (by decide +kernel) rfl, qW_t (i := 403) (by decide +kernel) rfl⟩
def mX3_has : qMT := (yX3_has, cX3_has, 3, (some .boolean), 0, 0)
theorem mv_X3_has : qMV mX3_has 2 := ⟨⟨qW_t (i := 484) (by decide +kernel) rfl, qW_t (i := 3) (by decide +kernel) rfl, ⟨by decide +kernel, by decide +kernel⟩, by decide +kernel⟩, qW_t (i := 482) (by decide +kernel) rfl, qW_t (i := 483) (by decide +kernel) rfl⟩
def mX3_at : qMT := (yX3_at, cX3_at, 3, (some .int), 0, 0)
theorem mv_X3_at : qMV mX3_at 2 := ⟨⟨qW_t (i := 412) (by decide +kernel) rfl, qW_t (i := 3) (by decide +kernel) rfl, ⟨by decide +kernel, by decide +kernel⟩, by decide +kernel⟩, qW_t (i := 410) (by decide +kernel) rfl, qW_t (i := 411) (by decide +kernel) rfl⟩
def mX3_put : qMT := (yX3_put, cX3_put, 4, none, 0, 0)
theorem mv_X3_put : qMV mX3_put 3 := ⟨⟨qW_t (i := 309) (by decide +kernel) rfl, qW_t (i := 3) (by decide +kernel) rfl, ⟨by decide +kernel, by decide +kernel⟩, by decide +kernel⟩, qW_t (i := 307) (by decide +kernel) rfl, qW_t (i := 308) (by decide +kernel) rfl⟩
def mX3_breakPenalty : qMT := (yX3_breakPenalty, cX3_breakPenalty, 1, (some .int), 0, 0)
theorem mv_X3_breakPenalty : qMV mX3_breakPenalty 0 := ⟨⟨qW_t (i := 453) (by decide +kernel) rfl, qW_t (i := 3) (by decide +kernel) rfl, ⟨by decide +kernel, by decide +kernel⟩, by decide +kernel⟩, qW_t (i := 451) (by decide +kernel) rfl, qW_t (i := 452) (by decide +kernel) rfl⟩
def mX3_setBreakPenalty : qMT := (yX3_setBreakPenalty, cX3_setBreakPenalty, 2, none, 0, 0)
theorem mv_X3_setBreakPenalty : qMV mX3_setBreakPenalty 1 := ⟨⟨qW_t (i := 317) (by decide +kernel) rfl, qW_t (i := 3) (by decide +kernel) rfl, ⟨by decide +kernel, by decide +kernel⟩, by decide +kernel⟩, qW_t (i := 315) (by decide +kernel) rfl, qW_t (i := 316) (by decide +kernel) rfl⟩
def mX3_ruleOf : qMT := (yX3_ruleOf, cX3_ruleOf, 2, (some .int), 0, 0)
theorem mv_X3_ruleOf : qMV mX3_ruleOf 1 := ⟨⟨qW_t (i := 463) (by decide +kernel) rfl, qW_t (i := 3) (by decide +kernel) rfl, ⟨by decide +kernel, by decide +kernel⟩, by decide +kernel⟩, qW_t (i := 461) (by decide +kernel) rfl, qW_t (i := 462) (by decide +kernel) rfl⟩
def mX3_setRule : qMT := (yX3_setRule, cX3_setRule, 3, none, 0, 0)
theorem mv_X3_setRule : qMV mX3_setRule 2 := ⟨⟨qW_t (i := 332) (by decide +kernel) rfl, qW_t (i := 3) (by decide +kernel) rfl, ⟨by decide +kernel, by decide +kernel⟩, by decide +kernel⟩, qW_t (i := 330) (by decide +kernel) rfl, qW_t (i := 331) (by decide +kernel) rfl⟩
def mX3_canShiftEarlier : qMT := (yX3_canShiftEarlier, cX3_canShiftEarlier, 5, (some .boolean), 1, 22)
theorem mv_X3_canShiftEarlier : qMV mX3_canShiftEarlier 3 := ⟨⟨qW_t (i := 740) (by decide +kernel) rfl, qW_t (i := 3) (by decide +kernel) rfl, ⟨by decide +kernel, by decide +kernel⟩, by decide +kernel⟩, qW_t (i := 738) (by decide +kernel) rfl, qW_t (i := 739) (by decide +kernel) rfl⟩
def mX3_shiftEarlier : qMT := (yX3_shiftEarlier, cX3_shiftEarlier, 5, none, 1, 22)
theorem mv_X3_shiftEarlier : qMV mX3_shiftEarlier 3 := ⟨⟨qW_t (i := 480) (by decide +kernel) rfl, qW_t (i := 3) (by decide +kernel) rfl, ⟨by decide +kernel, by decide +kernel⟩, by decide +kernel⟩, qW_t (i := 478) (by decide +kernel) rfl, qW_t (i := 479) (by decide +kernel) rfl⟩
def mX3_rank : qMT := (yX3_rank, cX3_rank, 7, (some .int), 1, 24)
theorem mv_X3_rank : qMV mX3_rank 2 := ⟨⟨qW_t (i := 513) (by decide +kernel) rfl, qW_t (i := 3) (by decide +kernel) rfl, ⟨by decide +kernel, by decide +kernel⟩, by decide +kernel⟩, qW_t (i := 511) (by decide +kernel) rfl, qW_t (i := 512) (by decide +kernel) rfl⟩
def mX3_squaredDistance : qMT := (yX3_squaredDistance, cX3_squaredDistance, 5, (some .int), 0, 0)
theorem mv_X3_squaredDistance : qMV mX3_squaredDistance 2 := ⟨⟨qW_t (i := 517) (by decide +kernel) rfl, qW_t (i := 3) (by decide +kernel) rfl, ⟨by decide +kernel, by decide +kernel⟩, by decide +kernel⟩, qW_t (i := 516) (by decide +kernel) rfl, qW_p (i := 10) (by decide +kernel) rfl⟩
def mX3_arePair : qMT := (yX3_arePair, cX3_arePair, 3, (some .boolean), 2, 50)
theorem mv_X3_arePair : qMV mX3_arePair 2 := ⟨⟨qW_t (i := 529) (by decide +kernel) rfl, qW_t (i := 3) (by decide +kernel) rfl, ⟨by decide +kernel, by decide +kernel⟩, by decide +kernel⟩, qW_t (i := 527) (by decide +kernel) rfl, qW_t (i := 528) (by decide +kernel) rfl⟩
def mX3_countPairs : qMT := (yX3_countPairs, cX3_countPairs, 4, (some .int), 3, 72)
theorem mv_X3_countPairs : qMV mX3_countPairs 0 := ⟨⟨qW_t (i := 792) (by decide +kernel) rfl, qW_t (i := 3) (by decide +kernel) rfl, ⟨by decide +kernel, by decide +kernel⟩, by decide +kernel⟩, qW_t (i := 790) (by decide +kernel) rfl, qW_t (i := 791) (by decide +kernel) rfl⟩
def mX3_countMissing : qMT := (yX3_countMissing, cX3_countMissing, 4, (some .int), 1, 22)
theorem mv_X3_countMissing : qMV mX3_countMissing 0 := ⟨⟨qW_t (i := 797) (by decide +kernel) rfl, qW_t (i := 3) (by decide +kernel) rfl, ⟨by decide +kernel, by decide +kernel⟩, by decide +kernel⟩, qW_t (i := 795) (by decide +kernel) rfl, qW_t (i := 796) (by decide +kernel) rfl⟩
def mX4_append : qMT := (yX4_append, cX4_append, 2, (some .boolean), 0, 0)
theorem mv_X4_append : qMV mX4_append 1 := ⟨⟨qW_t (i := 254) (by decide +kernel) rfl, qW_t (i := 2) (by decide +kernel) rfl, ⟨by decide +kernel, by decide +kernel⟩, by decide +kernel⟩, qW_t (i := 252) (by decide +kernel) rfl, qW_t (i := 253) (by decide +kernel) rfl⟩
def mX4_clear : qMT := (yX4_clear, cX4_clear, 1, none, 0, 0)
theorem mv_X4_clear : qMV mX4_clear 0 := ⟨⟨qW_t (i := 353) (by decide +kernel) rfl, qW_t (i := 2) (by decide +kernel) rfl, ⟨by decide +kernel, by decide +kernel⟩, by decide +kernel⟩, qW_t (i := 351) (by decide +kernel) rfl, qW_t (i := 352) (by decide +kernel) rfl⟩
def mX4_length : qMT := (yX4_length, cX4_length, 1, (some .int), 0, 0)
theorem mv_X4_length : qMV mX4_length 0 := ⟨⟨qW_t (i := 384) (by decide +kernel) rfl, qW_t (i := 2) (by decide +kernel) rfl, ⟨by decide +kernel, by decide +kernel⟩, by decide +kernel⟩, qW_t (i := 382) (by decide +kernel) rfl, qW_t (i := 383) (by decide +kernel) rfl⟩
def mX4_draft : qMT := (yX4_draft, cX4_draft, 1, (some (.object "ShiftMender$Records")), 0, 0)
theorem mv_X4_draft : qMV mX4_draft 0 := ⟨⟨qW_t (i := 336) (by decide +kernel) rfl, qW_t (i := 2) (by decide +kernel) rfl, ⟨by decide +kernel, by decide +kernel⟩, by decide +kernel⟩, qW_t (i := 334) (by decide +kernel) rfl, qW_t (i := 335) (by decide +kernel) rfl⟩
def mX4_read : qMT := (yX4_read, cX4_read, 3, (some .int), 3, 71)
theorem mv_X4_read : qMV mX4_read 0 := ⟨⟨qW_t (i := 262) (by decide +kernel) rfl, qW_t (i := 2) (by decide +kernel) rfl, ⟨by decide +kernel, by decide +kernel⟩, by decide +kernel⟩, qW_t (i := 260) (by decide +kernel) rfl, qW_t (i := 261) (by decide +kernel) rfl⟩
def mX4_readItem : qMT := (yX4_readItem, cX4_readItem, 3, (some .int), 2, 49)
theorem mv_X4_readItem : qMV mX4_readItem 1 := ⟨⟨qW_t (i := 272) (by decide +kernel) rfl, qW_t (i := 2) (by decide +kernel) rfl, ⟨by decide +kernel, by decide +kernel⟩, by decide +kernel⟩, qW_t (i := 271) (by decide +kernel) rfl, qW_p (i := 1) (by decide +kernel) rfl⟩
def mX4_readYears : qMT := (yX4_readYears, cX4_readYears, 3, (some .int), 1, 22)
theorem mv_X4_readYears : qMV mX4_readYears 1 := ⟨⟨qW_t (i := 276) (by decide +kernel) rfl, qW_t (i := 2) (by decide +kernel) rfl, ⟨by decide +kernel, by decide +kernel⟩, by decide +kernel⟩, qW_t (i := 275) (by decide +kernel) rfl, qW_p (i := 2) (by decide +kernel) rfl⟩
def mX4_readStation : qMT := (yX4_readStation, cX4_readStation, 7, (some .int), 1, 23)
theorem mv_X4_readStation : qMV mX4_readStation 1 := ⟨⟨qW_t (i := 296) (by decide +kernel) rfl, qW_t (i := 2) (by decide +kernel) rfl, ⟨by decide +kernel, by decide +kernel⟩, by decide +kernel⟩, qW_t (i := 295) (by decide +kernel) rfl, qW_p (i := 5) (by decide +kernel) rfl⟩
def mX4_readPenalty : qMT := (yX4_readPenalty, cX4_readPenalty, 4, (some .int), 1, 22)
theorem mv_X4_readPenalty : qMV mX4_readPenalty 1 := ⟨⟨qW_t (i := 313) (by decide +kernel) rfl, qW_t (i := 2) (by decide +kernel) rfl, ⟨by decide +kernel, by decide +kernel⟩, by decide +kernel⟩, qW_t (i := 312) (by decide +kernel) rfl, qW_p (i := 6) (by decide +kernel) rfl⟩
def mX4_readRules : qMT := (yX4_readRules, cX4_readRules, 4, (some .int), 1, 22)
theorem mv_X4_readRules : qMV mX4_readRules 1 := ⟨⟨qW_t (i := 321) (by decide +kernel) rfl, qW_t (i := 2) (by decide +kernel) rfl, ⟨by decide +kernel, by decide +kernel⟩, by decide +kernel⟩, qW_t (i := 320) (by decide +kernel) rfl, qW_p (i := 7) (by decide +kernel) rfl⟩
def mX4_endsAt : qMT := (yX4_endsAt, cX4_endsAt, 2, (some .boolean), 0, 0)
theorem mv_X4_endsAt : qMV mX4_endsAt 1 := ⟨⟨qW_t (i := 284) (by decide +kernel) rfl, qW_t (i := 2) (by decide +kernel) rfl, ⟨by decide +kernel, by decide +kernel⟩, by decide +kernel⟩, qW_t (i := 283) (by decide +kernel) rfl, qW_p (i := 4) (by decide +kernel) rfl⟩
def mX4_signAt : qMT := (yX4_signAt, cX4_signAt, 3, (some .int), 0, 0)
theorem mv_X4_signAt : qMV mX4_signAt 1 := ⟨⟨qW_t (i := 280) (by decide +kernel) rfl, qW_t (i := 2) (by decide +kernel) rfl, ⟨by decide +kernel, by decide +kernel⟩, by decide +kernel⟩, qW_t (i := 279) (by decide +kernel) rfl, qW_p (i := 3) (by decide +kernel) rfl⟩
def mX5_compare : qMT := (yX5_compare, cX5_compare, 4, none, 2, 46)
theorem mv_X5_compare : qMV mX5_compare 3 := ⟨⟨qW_t (i := 583) (by decide +kernel) rfl, qW_t (i := 5) (by decide +kernel) rfl, ⟨by decide +kernel, by decide +kernel⟩, by decide +kernel⟩, qW_t (i := 581) (by decide +kernel) rfl, qW_t (i := 582) (by decide +kernel) rfl⟩
def mX5_fit : qMT := (yX5_fit, cX5_fit, 7, none, 2, 54)
theorem mv_X5_fit : qMV mX5_fit 2 := ⟨⟨qW_t (i := 588) (by decide +kernel) rfl, qW_t (i := 5) (by decide +kernel) rfl, ⟨by decide +kernel, by decide +kernel⟩, by decide +kernel⟩, qW_t (i := 586) (by decide +kernel) rfl, qW_t (i := 587) (by decide +kernel) rfl⟩
def mX5_fitFrom : qMT := (yX5_fitFrom, cX5_fitFrom, 10, none, 1, 25)
theorem mv_X5_fitFrom : qMV mX5_fitFrom 3 := ⟨⟨qW_t (i := 594) (by decide +kernel) rfl, qW_t (i := 5) (by decide +kernel) rfl, ⟨by decide +kernel, by decide +kernel⟩, by decide +kernel⟩, qW_t (i := 593) (by decide +kernel) rfl, qW_p (i := 14) (by decide +kernel) rfl⟩
def mX5_keepStarts : qMT := (yX5_keepStarts, cX5_keepStarts, 2, none, 0, 0)
theorem mv_X5_keepStarts : qMV mX5_keepStarts 0 := ⟨⟨qW_t (i := 599) (by decide +kernel) rfl, qW_t (i := 5) (by decide +kernel) rfl, ⟨by decide +kernel, by decide +kernel⟩, by decide +kernel⟩, qW_t (i := 598) (by decide +kernel) rfl, qW_p (i := 15) (by decide +kernel) rfl⟩
def mX5_breakCount : qMT := (yX5_breakCount, cX5_breakCount, 1, (some .int), 0, 0)
theorem mv_X5_breakCount : qMV mX5_breakCount 0 := ⟨⟨qW_t (i := 603) (by decide +kernel) rfl, qW_t (i := 5) (by decide +kernel) rfl, ⟨by decide +kernel, by decide +kernel⟩, by decide +kernel⟩, qW_t (i := 601) (by decide +kernel) rfl, qW_t (i := 602) (by decide +kernel) rfl⟩
def mX5_breakYear : qMT := (yX5_breakYear, cX5_breakYear, 2, (some .int), 1, 21)
theorem mv_X5_breakYear : qMV mX5_breakYear 1 := ⟨⟨qW_t (i := 607) (by decide +kernel) rfl, qW_t (i := 5) (by decide +kernel) rfl, ⟨by decide +kernel, by decide +kernel⟩, by decide +kernel⟩, qW_t (i := 605) (by decide +kernel) rfl, qW_t (i := 606) (by decide +kernel) rfl⟩
def mX5_scaledShift : qMT := (yX5_scaledShift, cX5_scaledShift, 2, (some .long), 1, 22)
theorem mv_X5_scaledShift : qMV mX5_scaledShift 1 := ⟨⟨qW_t (i := 673) (by decide +kernel) rfl, qW_t (i := 5) (by decide +kernel) rfl, ⟨by decide +kernel, by decide +kernel⟩, by decide +kernel⟩, qW_t (i := 671) (by decide +kernel) rfl, qW_t (i := 672) (by decide +kernel) rfl⟩
def mX5_scaledCost : qMT := (yX5_scaledCost, cX5_scaledCost, 1, (some .long), 0, 0)
theorem mv_X5_scaledCost : qMV mX5_scaledCost 0 := ⟨⟨qW_t (i := 616) (by decide +kernel) rfl, qW_t (i := 5) (by decide +kernel) rfl, ⟨by decide +kernel, by decide +kernel⟩, by decide +kernel⟩, qW_t (i := 614) (by decide +kernel) rfl, qW_t (i := 615) (by decide +kernel) rfl⟩
def mX5_scaledSpreads : qMT := (yX5_scaledSpreads, cX5_scaledSpreads, 5, (some .long), 2, 52)
theorem mv_X5_scaledSpreads : qMV mX5_scaledSpreads 2 := ⟨⟨qW_t (i := 624) (by decide +kernel) rfl, qW_t (i := 5) (by decide +kernel) rfl, ⟨by decide +kernel, by decide +kernel⟩, by decide +kernel⟩, qW_t (i := 622) (by decide +kernel) rfl, qW_t (i := 623) (by decide +kernel) rfl⟩
def mX5_addRun : qMT := (yX5_addRun, cX5_addRun, 8, none, 1, 25)
theorem mv_X5_addRun : qMV mX5_addRun 2 := ⟨⟨qW_t (i := 629) (by decide +kernel) rfl, qW_t (i := 5) (by decide +kernel) rfl, ⟨by decide +kernel, by decide +kernel⟩, by decide +kernel⟩, qW_t (i := 628) (by decide +kernel) rfl, qW_p (i := 16) (by decide +kernel) rfl⟩
def mX6_compare : qMT := (yX6_compare, cX6_compare, 5, none, 1, 22)
theorem mv_X6_compare : qMV mX6_compare 3 := ⟨⟨qW_t (i := 538) (by decide +kernel) rfl, qW_t (i := 4) (by decide +kernel) rfl, ⟨by decide +kernel, by decide +kernel⟩, by decide +kernel⟩, qW_t (i := 536) (by decide +kernel) rfl, qW_t (i := 537) (by decide +kernel) rfl⟩
def mX6_add : qMT := (yX6_add, cX6_add, 3, none, 0, 0)
theorem mv_X6_add : qMV mX6_add 2 := ⟨⟨qW_t (i := 545) (by decide +kernel) rfl, qW_t (i := 4) (by decide +kernel) rfl, ⟨by decide +kernel, by decide +kernel⟩, by decide +kernel⟩, qW_t (i := 544) (by decide +kernel) rfl, qW_p (i := 12) (by decide +kernel) rfl⟩
def mX6_length : qMT := (yX6_length, cX6_length, 1, (some .int), 0, 0)
theorem mv_X6_length : qMV mX6_length 0 := ⟨⟨qW_t (i := 549) (by decide +kernel) rfl, qW_t (i := 4) (by decide +kernel) rfl, ⟨by decide +kernel, by decide +kernel⟩, by decide +kernel⟩, qW_t (i := 547) (by decide +kernel) rfl, qW_t (i := 548) (by decide +kernel) rfl⟩
def mX6_entryAt : qMT := (yX6_entryAt, cX6_entryAt, 2, (some .int), 0, 0)
theorem mv_X6_entryAt : qMV mX6_entryAt 1 := ⟨⟨qW_t (i := 553) (by decide +kernel) rfl, qW_t (i := 4) (by decide +kernel) rfl, ⟨by decide +kernel, by decide +kernel⟩, by decide +kernel⟩, qW_t (i := 551) (by decide +kernel) rfl, qW_t (i := 552) (by decide +kernel) rfl⟩
def mX6_yearAt : qMT := (yX6_yearAt, cX6_yearAt, 2, (some .int), 0, 0)
theorem mv_X6_yearAt : qMV mX6_yearAt 1 := ⟨⟨qW_t (i := 561) (by decide +kernel) rfl, qW_t (i := 4) (by decide +kernel) rfl, ⟨by decide +kernel, by decide +kernel⟩, by decide +kernel⟩, qW_t (i := 559) (by decide +kernel) rfl, qW_t (i := 560) (by decide +kernel) rfl⟩
def mX6_scaledMean : qMT := (yX6_scaledMean, cX6_scaledMean, 3, (some .long), 0, 0)
theorem mv_X6_scaledMean : qMV mX6_scaledMean 2 := ⟨⟨qW_t (i := 677) (by decide +kernel) rfl, qW_t (i := 4) (by decide +kernel) rfl, ⟨by decide +kernel, by decide +kernel⟩, by decide +kernel⟩, qW_t (i := 675) (by decide +kernel) rfl, qW_t (i := 676) (by decide +kernel) rfl⟩
def mX6_scaledSpread : qMT := (yX6_scaledSpread, cX6_scaledSpread, 6, (some .long), 0, 0)
theorem mv_X6_scaledSpread : qMV mX6_scaledSpread 2 := ⟨⟨qW_t (i := 570) (by decide +kernel) rfl, qW_t (i := 4) (by decide +kernel) rfl, ⟨by decide +kernel, by decide +kernel⟩, by decide +kernel⟩, qW_t (i := 568) (by decide +kernel) rfl, qW_t (i := 569) (by decide +kernel) rfl⟩
def mX7_write : qMT := (yX7_write, cX7_write, 2, (some .int), 1, 21)
theorem mv_X7_write : qMV mX7_write 1 := ⟨⟨qW_t (i := 380) (by decide +kernel) rfl, qW_t (i := 1) (by decide +kernel) rfl, ⟨by decide +kernel, by decide +kernel⟩, by decide +kernel⟩, qW_t (i := 378) (by decide +kernel) rfl, qW_t (i := 379) (by decide +kernel) rfl⟩
def mX7_wipe : qMT := (yX7_wipe, cX7_wipe, 2, (some .int), 1, 20)
theorem mv_X7_wipe : qMV mX7_wipe 0 := ⟨⟨qW_t (i := 388) (by decide +kernel) rfl, qW_t (i := 1) (by decide +kernel) rfl, ⟨by decide +kernel, by decide +kernel⟩, by decide +kernel⟩, qW_t (i := 386) (by decide +kernel) rfl, qW_t (i := 387) (by decide +kernel) rfl⟩
def mX7_fault : qMT := (yX7_fault, cX7_fault, 1, (some .int), 4, 93)
theorem mv_X7_fault : qMV mX7_fault 0 := ⟨⟨qW_t (i := 392) (by decide +kernel) rfl, qW_t (i := 1) (by decide +kernel) rfl, ⟨by decide +kernel, by decide +kernel⟩, by decide +kernel⟩, qW_t (i := 390) (by decide +kernel) rfl, qW_t (i := 391) (by decide +kernel) rfl⟩
def mX7_lay : qMT := (yX7_lay, cX7_lay, 1, (some .int), 5, 113)
theorem mv_X7_lay : qMV mX7_lay 0 := ⟨⟨qW_t (i := 396) (by decide +kernel) rfl, qW_t (i := 1) (by decide +kernel) rfl, ⟨by decide +kernel, by decide +kernel⟩, by decide +kernel⟩, qW_t (i := 394) (by decide +kernel) rfl, qW_t (i := 395) (by decide +kernel) rfl⟩
def mX7_layScript : qMT := (yX7_layScript, cX7_layScript, 1, (some .int), 4, 93)
theorem mv_X7_layScript : qMV mX7_layScript 0 := ⟨⟨qW_t (i := 258) (by decide +kernel) rfl, qW_t (i := 1) (by decide +kernel) rfl, ⟨by decide +kernel, by decide +kernel⟩, by decide +kernel⟩, qW_t (i := 257) (by decide +kernel) rfl, qW_p (i := 0) (by decide +kernel) rfl⟩
def mX7_value : qMT := (yX7_value, cX7_value, 3, (some .int), 2, 43)
theorem mv_X7_value : qMV mX7_value 2 := ⟨⟨qW_t (i := 400) (by decide +kernel) rfl, qW_t (i := 1) (by decide +kernel) rfl, ⟨by decide +kernel, by decide +kernel⟩, by decide +kernel⟩, qW_t (i := 398) (by decide +kernel) rfl, qW_t (i := 399) (by decide +kernel) rfl⟩
def mX7_shown : qMT := (yX7_shown, cX7_shown, 1, (some .int), 0, 0)
theorem mv_X7_shown : qMS mX7_shown 1 := ⟨⟨qW_t (i := 415) (by decide +kernel) rfl, qW_t (i := 1) (by decide +kernel) rfl, ⟨by decide +kernel, by decide +kernel⟩, by decide +kernel⟩, qW_t (i := 414) (by decide +kernel) rfl⟩
def mX7_isValue : qMT := (yX7_isValue, cX7_isValue, 1, (some .boolean), 0, 0)
theorem mv_X7_isValue : qMS mX7_isValue 1 := ⟨⟨qW_t (i := 424) (by decide +kernel) rfl, qW_t (i := 1) (by decide +kernel) rfl, ⟨by decide +kernel, by decide +kernel⟩, by decide +kernel⟩, qW_t (i := 423) (by decide +kernel) rfl⟩
def mX7_set : qMT := (yX7_set, cX7_set, 5, (some .int), 3, 70)
theorem mv_X7_set : qMV mX7_set 3 := ⟨⟨qW_t (i := 421) (by decide +kernel) rfl, qW_t (i := 1) (by decide +kernel) rfl, ⟨by decide +kernel, by decide +kernel⟩, by decide +kernel⟩, qW_t (i := 419) (by decide +kernel) rfl, qW_t (i := 420) (by decide +kernel) rfl⟩
def mX7_lose : qMT := (yX7_lose, cX7_lose, 4, (some .int), 3, 70)
theorem mv_X7_lose : qMV mX7_lose 2 := ⟨⟨qW_t (i := 441) (by decide +kernel) rfl, qW_t (i := 1) (by decide +kernel) rfl, ⟨by decide +kernel, by decide +kernel⟩, by decide +kernel⟩, qW_t (i := 439) (by decide +kernel) rfl, qW_t (i := 440) (by decide +kernel) rfl⟩
def mX7_changeValue : qMT := (yX7_changeValue, cX7_changeValue, 5, (some .boolean), 2, 46)
theorem mv_X7_changeValue : qMV mX7_changeValue 3 := ⟨⟨qW_t (i := 428) (by decide +kernel) rfl, qW_t (i := 1) (by decide +kernel) rfl, ⟨by decide +kernel, by decide +kernel⟩, by decide +kernel⟩, qW_t (i := 427) (by decide +kernel) rfl, qW_p (i := 8) (by decide +kernel) rfl⟩
def mX7_penalty : qMT := (yX7_penalty, cX7_penalty, 3, (some .int), 2, 46)
theorem mv_X7_penalty : qMV mX7_penalty 1 := ⟨⟨qW_t (i := 445) (by decide +kernel) rfl, qW_t (i := 1) (by decide +kernel) rfl, ⟨by decide +kernel, by decide +kernel⟩, by decide +kernel⟩, qW_t (i := 443) (by decide +kernel) rfl, qW_t (i := 444) (by decide +kernel) rfl⟩
def mX7_isPenalty : qMT := (yX7_isPenalty, cX7_isPenalty, 1, (some .boolean), 0, 0)
theorem mv_X7_isPenalty : qMS mX7_isPenalty 1 := ⟨⟨qW_t (i := 448) (by decide +kernel) rfl, qW_t (i := 1) (by decide +kernel) rfl, ⟨by decide +kernel, by decide +kernel⟩, by decide +kernel⟩, qW_t (i := 447) (by decide +kernel) rfl⟩
def mX7_rule : qMT := (yX7_rule, cX7_rule, 4, (some .int), 2, 46)
theorem mv_X7_rule : qMV mX7_rule 2 := ⟨⟨qW_t (i := 458) (by decide +kernel) rfl, qW_t (i := 1) (by decide +kernel) rfl, ⟨by decide +kernel, by decide +kernel⟩, by decide +kernel⟩, qW_t (i := 456) (by decide +kernel) rfl, qW_t (i := 457) (by decide +kernel) rfl⟩
def mX7_isRule : qMT := (yX7_isRule, cX7_isRule, 2, (some .boolean), 0, 0)
theorem mv_X7_isRule : qMS mX7_isRule 2 := ⟨⟨qW_t (i := 324) (by decide +kernel) rfl, qW_t (i := 1) (by decide +kernel) rfl, ⟨by decide +kernel, by decide +kernel⟩, by decide +kernel⟩, qW_t (i := 323) (by decide +kernel) rfl⟩
def mX7_undo : qMT := (yX7_undo, cX7_undo, 4, (some .int), 2, 46)
theorem mv_X7_undo : qMV mX7_undo 0 := ⟨⟨qW_t (i := 468) (by decide +kernel) rfl, qW_t (i := 1) (by decide +kernel) rfl, ⟨by decide +kernel, by decide +kernel⟩, by decide +kernel⟩, qW_t (i := 466) (by decide +kernel) rfl, qW_t (i := 467) (by decide +kernel) rfl⟩
def mX7_day : qMT := (yX7_day, cX7_day, 11, (some .int), 3, 70)
theorem mv_X7_day : qMV mX7_day 2 := ⟨⟨qW_t (i := 497) (by decide +kernel) rfl, qW_t (i := 1) (by decide +kernel) rfl, ⟨by decide +kernel, by decide +kernel⟩, by decide +kernel⟩, qW_t (i := 495) (by decide +kernel) rfl, qW_t (i := 496) (by decide +kernel) rfl⟩
def mX7_remainder : qMT := (yX7_remainder, cX7_remainder, 2, (some .int), 0, 0)
theorem mv_X7_remainder : qMS mX7_remainder 2 := ⟨⟨qW_t (i := 503) (by decide +kernel) rfl, qW_t (i := 1) (by decide +kernel) rfl, ⟨by decide +kernel, by decide +kernel⟩, by decide +kernel⟩, qW_t (i := 502) (by decide +kernel) rfl⟩
def mX7_nearest : qMT := (yX7_nearest, cX7_nearest, 4, (some .int), 2, 50)
theorem mv_X7_nearest : qMV mX7_nearest 2 := ⟨⟨qW_t (i := 508) (by decide +kernel) rfl, qW_t (i := 1) (by decide +kernel) rfl, ⟨by decide +kernel, by decide +kernel⟩, by decide +kernel⟩, qW_t (i := 506) (by decide +kernel) rfl, qW_t (i := 507) (by decide +kernel) rfl⟩
def mX7_pair : qMT := (yX7_pair, cX7_pair, 3, (some .int), 3, 72)
theorem mv_X7_pair : qMV mX7_pair 2 := ⟨⟨qW_t (i := 521) (by decide +kernel) rfl, qW_t (i := 1) (by decide +kernel) rfl, ⟨by decide +kernel, by decide +kernel⟩, by decide +kernel⟩, qW_t (i := 519) (by decide +kernel) rfl, qW_t (i := 520) (by decide +kernel) rfl⟩
def mX7_areTwoStations : qMT := (yX7_areTwoStations, cX7_areTwoStations, 3, (some .boolean), 1, 21)
theorem mv_X7_areTwoStations : qMV mX7_areTwoStations 2 := ⟨⟨qW_t (i := 525) (by decide +kernel) rfl, qW_t (i := 1) (by decide +kernel) rfl, ⟨by decide +kernel, by decide +kernel⟩, by decide +kernel⟩, qW_t (i := 524) (by decide +kernel) rfl, qW_p (i := 11) (by decide +kernel) rfl⟩
def mX7_entry : qMT := (yX7_entry, cX7_entry, 4, (some .int), 2, 46)
theorem mv_X7_entry : qMV mX7_entry 3 := ⟨⟨qW_t (i := 534) (by decide +kernel) rfl, qW_t (i := 1) (by decide +kernel) rfl, ⟨by decide +kernel, by decide +kernel⟩, by decide +kernel⟩, qW_t (i := 532) (by decide +kernel) rfl, qW_t (i := 533) (by decide +kernel) rfl⟩
def mX7_year : qMT := (yX7_year, cX7_year, 4, (some .int), 2, 46)
theorem mv_X7_year : qMV mX7_year 3 := ⟨⟨qW_t (i := 557) (by decide +kernel) rfl, qW_t (i := 1) (by decide +kernel) rfl, ⟨by decide +kernel, by decide +kernel⟩, by decide +kernel⟩, qW_t (i := 555) (by decide +kernel) rfl, qW_t (i := 556) (by decide +kernel) rfl⟩
def mX7_spread : qMT := (yX7_spread, cX7_spread, 5, (some .long), 2, 46)
theorem mv_X7_spread : qMV mX7_spread 4 := ⟨⟨qW_t (i := 565) (by decide +kernel) rfl, qW_t (i := 1) (by decide +kernel) rfl, ⟨by decide +kernel, by decide +kernel⟩, by decide +kernel⟩, qW_t (i := 563) (by decide +kernel) rfl, qW_t (i := 564) (by decide +kernel) rfl⟩
def mX7_split : qMT := (yX7_split, cX7_split, 4, (some .int), 4, 103)
theorem mv_X7_split : qMV mX7_split 3 := ⟨⟨qW_t (i := 575) (by decide +kernel) rfl, qW_t (i := 1) (by decide +kernel) rfl, ⟨by decide +kernel, by decide +kernel⟩, by decide +kernel⟩, qW_t (i := 573) (by decide +kernel) rfl, qW_t (i := 574) (by decide +kernel) rfl⟩
def mX7_segment : qMT := (yX7_segment, cX7_segment, 4, none, 3, 80)
theorem mv_X7_segment : qMV mX7_segment 3 := ⟨⟨qW_t (i := 579) (by decide +kernel) rfl, qW_t (i := 1) (by decide +kernel) rfl, ⟨by decide +kernel, by decide +kernel⟩, by decide +kernel⟩, qW_t (i := 578) (by decide +kernel) rfl, qW_p (i := 13) (by decide +kernel) rfl⟩
def mX7_cost : qMT := (yX7_cost, cX7_cost, 3, (some .long), 4, 103)
theorem mv_X7_cost : qMV mX7_cost 2 := ⟨⟨qW_t (i := 612) (by decide +kernel) rfl, qW_t (i := 1) (by decide +kernel) rfl, ⟨by decide +kernel, by decide +kernel⟩, by decide +kernel⟩, qW_t (i := 610) (by decide +kernel) rfl, qW_t (i := 611) (by decide +kernel) rfl⟩
def mX7_spreads : qMT := (yX7_spreads, cX7_spreads, 4, (some .long), 3, 76)
theorem mv_X7_spreads : qMV mX7_spreads 3 := ⟨⟨qW_t (i := 620) (by decide +kernel) rfl, qW_t (i := 1) (by decide +kernel) rfl, ⟨by decide +kernel, by decide +kernel⟩, by decide +kernel⟩, qW_t (i := 618) (by decide +kernel) rfl, qW_t (i := 619) (by decide +kernel) rfl⟩
def mX7_breaks : qMT := (yX7_breaks, cX7_breaks, 4, (some .int), 4, 103)
theorem mv_X7_breaks : qMV mX7_breaks 3 := ⟨⟨qW_t (i := 636) (by decide +kernel) rfl, qW_t (i := 1) (by decide +kernel) rfl, ⟨by decide +kernel, by decide +kernel⟩, by decide +kernel⟩, qW_t (i := 634) (by decide +kernel) rfl, qW_t (i := 635) (by decide +kernel) rfl⟩
def mX7_least : qMT := (yX7_least, cX7_least, 7, (some .int), 3, 80)
theorem mv_X7_least : qMV mX7_least 3 := ⟨⟨qW_t (i := 640) (by decide +kernel) rfl, qW_t (i := 1) (by decide +kernel) rfl, ⟨by decide +kernel, by decide +kernel⟩, by decide +kernel⟩, qW_t (i := 638) (by decide +kernel) rfl, qW_t (i := 639) (by decide +kernel) rfl⟩
def mX7_votes : qMT := (yX7_votes, cX7_votes, 3, (some .int), 5, 128)
theorem mv_X7_votes : qMV mX7_votes 2 := ⟨⟨qW_t (i := 645) (by decide +kernel) rfl, qW_t (i := 1) (by decide +kernel) rfl, ⟨by decide +kernel, by decide +kernel⟩, by decide +kernel⟩, qW_t (i := 643) (by decide +kernel) rfl, qW_t (i := 644) (by decide +kernel) rfl⟩
def mX7_culprit : qMT := (yX7_culprit, cX7_culprit, 3, (some .int), 5, 128)
theorem mv_X7_culprit : qMV mX7_culprit 2 := ⟨⟨qW_t (i := 716) (by decide +kernel) rfl, qW_t (i := 1) (by decide +kernel) rfl, ⟨by decide +kernel, by decide +kernel⟩, by decide +kernel⟩, qW_t (i := 714) (by decide +kernel) rfl, qW_t (i := 715) (by decide +kernel) rfl⟩
def mX7_mend : qMT := (yX7_mend, cX7_mend, 2, (some .int), 6, 152)
theorem mv_X7_mend : qMV mX7_mend 1 := ⟨⟨qW_t (i := 728) (by decide +kernel) rfl, qW_t (i := 1) (by decide +kernel) rfl, ⟨by decide +kernel, by decide +kernel⟩, by decide +kernel⟩, qW_t (i := 726) (by decide +kernel) rfl, qW_t (i := 727) (by decide +kernel) rfl⟩
def mX7_mendCulprit : qMT := (yX7_mendCulprit, cX7_mendCulprit, 5, (some .int), 5, 128)
theorem mv_X7_mendCulprit : qMV mX7_mendCulprit 1 := ⟨⟨qW_t (i := 732) (by decide +kernel) rfl, qW_t (i := 1) (by decide +kernel) rfl, ⟨by decide +kernel, by decide +kernel⟩, by decide +kernel⟩, qW_t (i := 731) (by decide +kernel) rfl, qW_p (i := 23) (by decide +kernel) rfl⟩
def mX7_mends : qMT := (yX7_mends, cX7_mends, 2, (some .int), 6, 152)
theorem mv_X7_mends : qMV mX7_mends 0 := ⟨⟨qW_t (i := 754) (by decide +kernel) rfl, qW_t (i := 1) (by decide +kernel) rfl, ⟨by decide +kernel, by decide +kernel⟩, by decide +kernel⟩, qW_t (i := 752) (by decide +kernel) rfl, qW_t (i := 753) (by decide +kernel) rfl⟩
def mX7_ledger : qMT := (yX7_ledger, cX7_ledger, 3, (some .int), 1, 22)
theorem mv_X7_ledger : qMV mX7_ledger 2 := ⟨⟨qW_t (i := 758) (by decide +kernel) rfl, qW_t (i := 1) (by decide +kernel) rfl, ⟨by decide +kernel, by decide +kernel⟩, by decide +kernel⟩, qW_t (i := 756) (by decide +kernel) rfl, qW_t (i := 757) (by decide +kernel) rfl⟩
def mX7_made : qMT := (yX7_made, cX7_made, 3, (some .int), 4, 98)
theorem mv_X7_made : qMV mX7_made 2 := ⟨⟨qW_t (i := 766) (by decide +kernel) rfl, qW_t (i := 1) (by decide +kernel) rfl, ⟨by decide +kernel, by decide +kernel⟩, by decide +kernel⟩, qW_t (i := 764) (by decide +kernel) rfl, qW_t (i := 765) (by decide +kernel) rfl⟩
def mX7_make : qMT := (yX7_make, cX7_make, 4, (some .int), 4, 98)
theorem mv_X7_make : qMV mX7_make 2 := ⟨⟨qW_t (i := 777) (by decide +kernel) rfl, qW_t (i := 1) (by decide +kernel) rfl, ⟨by decide +kernel, by decide +kernel⟩, by decide +kernel⟩, qW_t (i := 775) (by decide +kernel) rfl, qW_t (i := 776) (by decide +kernel) rfl⟩
def mX7_estimate : qMT := (yX7_estimate, cX7_estimate, 7, (some .int), 3, 72)
theorem mv_X7_estimate : qMV mX7_estimate 2 := ⟨⟨qW_t (i := 770) (by decide +kernel) rfl, qW_t (i := 1) (by decide +kernel) rfl, ⟨by decide +kernel, by decide +kernel⟩, by decide +kernel⟩, qW_t (i := 769) (by decide +kernel) rfl, qW_p (i := 24) (by decide +kernel) rfl⟩
def mX7_roundedMean : qMT := (yX7_roundedMean, cX7_roundedMean, 5, (some .int), 1, 25)
theorem mv_X7_roundedMean : qMS mX7_roundedMean 2 := ⟨⟨qW_t (i := 693) (by decide +kernel) rfl, qW_t (i := 1) (by decide +kernel) rfl, ⟨by decide +kernel, by decide +kernel⟩, by decide +kernel⟩, qW_t (i := 692) (by decide +kernel) rfl⟩
def mX7_rise : qMT := (yX7_rise, cX7_rise, 5, (some .int), 1, 22)
theorem mv_X7_rise : qMV mX7_rise 1 := ⟨⟨qW_t (i := 781) (by decide +kernel) rfl, qW_t (i := 1) (by decide +kernel) rfl, ⟨by decide +kernel, by decide +kernel⟩, by decide +kernel⟩, qW_t (i := 779) (by decide +kernel) rfl, qW_t (i := 780) (by decide +kernel) rfl⟩
def mX7_direction : qMT := (yX7_direction, cX7_direction, 2, (some .int), 0, 0)
theorem mv_X7_direction : qMS mX7_direction 2 := ⟨⟨qW_t (i := 784) (by decide +kernel) rfl, qW_t (i := 1) (by decide +kernel) rfl, ⟨by decide +kernel, by decide +kernel⟩, by decide +kernel⟩, qW_t (i := 783) (by decide +kernel) rfl⟩
def mX7_count : qMT := (yX7_count, cX7_count, 2, (some .int), 4, 95)
theorem mv_X7_count : qMV mX7_count 1 := ⟨⟨qW_t (i := 788) (by decide +kernel) rfl, qW_t (i := 1) (by decide +kernel) rfl, ⟨by decide +kernel, by decide +kernel⟩, by decide +kernel⟩, qW_t (i := 786) (by decide +kernel) rfl, qW_t (i := 787) (by decide +kernel) rfl⟩
def mX8_in : qMT := (yX8_in, cX8_in, 6, (some .boolean), 0, 0)
theorem mv_X8_in : qMS mX8_in 3 := ⟨⟨qW_t (i := 927) (by decide +kernel) rfl, qW_t (i := 13) (by decide +kernel) rfl, ⟨by decide +kernel, by decide +kernel⟩, by decide +kernel⟩, qW_t (i := 926) (by decide +kernel) rfl⟩
def mX8_has : qMT := (yX8_has, cX8_has, 2, (some .boolean), 0, 0)
theorem mv_X8_has : qMS mX8_has 2 := ⟨⟨qW_t (i := 1149) (by decide +kernel) rfl, qW_t (i := 13) (by decide +kernel) rfl, ⟨by decide +kernel, by decide +kernel⟩, by decide +kernel⟩, qW_t (i := 1148) (by decide +kernel) rfl⟩
def mX8_empty : qMT := (yX8_empty, cX8_empty, 2, none, 1, 24)
theorem mv_X8_empty : qMV mX8_empty 0 := ⟨⟨qW_t (i := 807) (by decide +kernel) rfl, qW_t (i := 13) (by decide +kernel) rfl, ⟨by decide +kernel, by decide +kernel⟩, by decide +kernel⟩, qW_t (i := 806) (by decide +kernel) rfl, qW_p (i := 25) (by decide +kernel) rfl⟩
def mX8_rulesAre : qMT := (yX8_rulesAre, cX8_rulesAre, 5, none, 0, 0)
theorem mv_X8_rulesAre : qMV mX8_rulesAre 4 := ⟨⟨qW_t (i := 812) (by decide +kernel) rfl, qW_t (i := 13) (by decide +kernel) rfl, ⟨by decide +kernel, by decide +kernel⟩, by decide +kernel⟩, qW_t (i := 811) (by decide +kernel) rfl, qW_p (i := 26) (by decide +kernel) rfl⟩
def mX8_stationIs : qMT := (yX8_stationIs, cX8_stationIs, 3, none, 0, 0)
theorem mv_X8_stationIs : qMV mX8_stationIs 2 := ⟨⟨qW_t (i := 816) (by decide +kernel) rfl, qW_t (i := 13) (by decide +kernel) rfl, ⟨by decide +kernel, by decide +kernel⟩, by decide +kernel⟩, qW_t (i := 815) (by decide +kernel) rfl, qW_p (i := 27) (by decide +kernel) rfl⟩
def mX8_valuesAre : qMT := (yX8_valuesAre, cX8_valuesAre, 8, none, 0, 0)
theorem mv_X8_valuesAre : qMV mX8_valuesAre 6 := ⟨⟨qW_t (i := 820) (by decide +kernel) rfl, qW_t (i := 13) (by decide +kernel) rfl, ⟨by decide +kernel, by decide +kernel⟩, by decide +kernel⟩, qW_t (i := 819) (by decide +kernel) rfl, qW_p (i := 28) (by decide +kernel) rfl⟩
def mX8_write : qMT := (yX8_write, cX8_write, 2, (some .int), 1, 25)
theorem mv_X8_write : qMV mX8_write 1 := ⟨⟨qW_t (i := 922) (by decide +kernel) rfl, qW_t (i := 13) (by decide +kernel) rfl, ⟨by decide +kernel, by decide +kernel⟩, by decide +kernel⟩, qW_t (i := 920) (by decide +kernel) rfl, qW_t (i := 921) (by decide +kernel) rfl⟩
def mX8_wipe : qMT := (yX8_wipe, cX8_wipe, 2, (some .int), 0, 0)
theorem mv_X8_wipe : qMV mX8_wipe 0 := ⟨⟨qW_t (i := 931) (by decide +kernel) rfl, qW_t (i := 13) (by decide +kernel) rfl, ⟨by decide +kernel, by decide +kernel⟩, by decide +kernel⟩, qW_t (i := 929) (by decide +kernel) rfl, qW_t (i := 930) (by decide +kernel) rfl⟩
def mX8_letterAt : qMT := (yX8_letterAt, cX8_letterAt, 2, (some .int), 0, 0)
theorem mv_X8_letterAt : qMV mX8_letterAt 1 := ⟨⟨qW_t (i := 943) (by decide +kernel) rfl, qW_t (i := 13) (by decide +kernel) rfl, ⟨by decide +kernel, by decide +kernel⟩, by decide +kernel⟩, qW_t (i := 942) (by decide +kernel) rfl, qW_p (i := 31) (by decide +kernel) rfl⟩
def mX8_sign : qMT := (yX8_sign, cX8_sign, 5, (some .int), 1, 25)
theorem mv_X8_sign : qMV mX8_sign 2 := ⟨⟨qW_t (i := 951) (by decide +kernel) rfl, qW_t (i := 13) (by decide +kernel) rfl, ⟨by decide +kernel, by decide +kernel⟩, by decide +kernel⟩, qW_t (i := 950) (by decide +kernel) rfl, qW_p (i := 33) (by decide +kernel) rfl⟩
def mX8_ends : qMT := (yX8_ends, cX8_ends, 1, (some .boolean), 1, 21)
theorem mv_X8_ends : qMV mX8_ends 0 := ⟨⟨qW_t (i := 959) (by decide +kernel) rfl, qW_t (i := 13) (by decide +kernel) rfl, ⟨by decide +kernel, by decide +kernel⟩, by decide +kernel⟩, qW_t (i := 958) (by decide +kernel) rfl, qW_p (i := 34) (by decide +kernel) rfl⟩
def mX8_yearsItem : qMT := (yX8_yearsItem, cX8_yearsItem, 1, (some .boolean), 2, 49)
theorem mv_X8_yearsItem : qMV mX8_yearsItem 0 := ⟨⟨qW_t (i := 947) (by decide +kernel) rfl, qW_t (i := 13) (by decide +kernel) rfl, ⟨by decide +kernel, by decide +kernel⟩, by decide +kernel⟩, qW_t (i := 946) (by decide +kernel) rfl, qW_p (i := 32) (by decide +kernel) rfl⟩
def mX8_stationItem : qMT := (yX8_stationItem, cX8_stationItem, 5, (some .boolean), 2, 49)
theorem mv_X8_stationItem : qMV mX8_stationItem 0 := ⟨⟨qW_t (i := 967) (by decide +kernel) rfl, qW_t (i := 13) (by decide +kernel) rfl, ⟨by decide +kernel, by decide +kernel⟩, by decide +kernel⟩, qW_t (i := 966) (by decide +kernel) rfl, qW_p (i := 36) (by decide +kernel) rfl⟩
def mX8_penaltyItem : qMT := (yX8_penaltyItem, cX8_penaltyItem, 3, (some .boolean), 2, 49)
theorem mv_X8_penaltyItem : qMV mX8_penaltyItem 0 := ⟨⟨qW_t (i := 971) (by decide +kernel) rfl, qW_t (i := 13) (by decide +kernel) rfl, ⟨by decide +kernel, by decide +kernel⟩, by decide +kernel⟩, qW_t (i := 970) (by decide +kernel) rfl, qW_p (i := 37) (by decide +kernel) rfl⟩
def mX8_rulesItem : qMT := (yX8_rulesItem, cX8_rulesItem, 5, (some .boolean), 2, 49)
theorem mv_X8_rulesItem : qMV mX8_rulesItem 0 := ⟨⟨qW_t (i := 975) (by decide +kernel) rfl, qW_t (i := 13) (by decide +kernel) rfl, ⟨by decide +kernel, by decide +kernel⟩, by decide +kernel⟩, qW_t (i := 974) (by decide +kernel) rfl, qW_p (i := 38) (by decide +kernel) rfl⟩
def mX8_item : qMT := (yX8_item, cX8_item, 2, (some .boolean), 3, 73)
theorem mv_X8_item : qMV mX8_item 1 := ⟨⟨qW_t (i := 963) (by decide +kernel) rfl, qW_t (i := 13) (by decide +kernel) rfl, ⟨by decide +kernel, by decide +kernel⟩, by decide +kernel⟩, qW_t (i := 962) (by decide +kernel) rfl, qW_p (i := 35) (by decide +kernel) rfl⟩
def mX8_readAll : qMT := (yX8_readAll, cX8_readAll, 4, (some .int), 4, 94)
theorem mv_X8_readAll : qMV mX8_readAll 0 := ⟨⟨qW_t (i := 939) (by decide +kernel) rfl, qW_t (i := 13) (by decide +kernel) rfl, ⟨by decide +kernel, by decide +kernel⟩, by decide +kernel⟩, qW_t (i := 938) (by decide +kernel) rfl, qW_p (i := 30) (by decide +kernel) rfl⟩
def mX8_fault : qMT := (yX8_fault, cX8_fault, 1, (some .int), 5, 117)
theorem mv_X8_fault : qMV mX8_fault 0 := ⟨⟨qW_t (i := 935) (by decide +kernel) rfl, qW_t (i := 13) (by decide +kernel) rfl, ⟨by decide +kernel, by decide +kernel⟩, by decide +kernel⟩, qW_t (i := 933) (by decide +kernel) rfl, qW_t (i := 934) (by decide +kernel) rfl⟩
def mX8_lay : qMT := (yX8_lay, cX8_lay, 1, (some .int), 5, 117)
theorem mv_X8_lay : qMV mX8_lay 0 := ⟨⟨qW_t (i := 979) (by decide +kernel) rfl, qW_t (i := 13) (by decide +kernel) rfl, ⟨by decide +kernel, by decide +kernel⟩, by decide +kernel⟩, qW_t (i := 977) (by decide +kernel) rfl, qW_t (i := 978) (by decide +kernel) rfl⟩
def mX8_begin : qMT := (yX8_begin, cX8_begin, 2, none, 0, 0)
theorem mv_X8_begin : qMV mX8_begin 0 := ⟨⟨qW_t (i := 824) (by decide +kernel) rfl, qW_t (i := 13) (by decide +kernel) rfl, ⟨by decide +kernel, by decide +kernel⟩, by decide +kernel⟩, qW_t (i := 823) (by decide +kernel) rfl, qW_p (i := 29) (by decide +kernel) rfl⟩
def mX8_isStation : qMT := (yX8_isStation, cX8_isStation, 2, (some .boolean), 1, 25)
theorem mv_X8_isStation : qMV mX8_isStation 1 := ⟨⟨qW_t (i := 987) (by decide +kernel) rfl, qW_t (i := 13) (by decide +kernel) rfl, ⟨by decide +kernel, by decide +kernel⟩, by decide +kernel⟩, qW_t (i := 986) (by decide +kernel) rfl, qW_p (i := 39) (by decide +kernel) rfl⟩
def mX8_isYear : qMT := (yX8_isYear, cX8_isYear, 2, (some .boolean), 1, 25)
theorem mv_X8_isYear : qMV mX8_isYear 1 := ⟨⟨qW_t (i := 991) (by decide +kernel) rfl, qW_t (i := 13) (by decide +kernel) rfl, ⟨by decide +kernel, by decide +kernel⟩, by decide +kernel⟩, qW_t (i := 990) (by decide +kernel) rfl, qW_p (i := 40) (by decide +kernel) rfl⟩
def mX8_areTwo : qMT := (yX8_areTwo, cX8_areTwo, 3, (some .boolean), 2, 46)
theorem mv_X8_areTwo : qMV mX8_areTwo 2 := ⟨⟨qW_t (i := 1065) (by decide +kernel) rfl, qW_t (i := 13) (by decide +kernel) rfl, ⟨by decide +kernel, by decide +kernel⟩, by decide +kernel⟩, qW_t (i := 1064) (by decide +kernel) rfl, qW_p (i := 47) (by decide +kernel) rfl⟩
def mX8_valueOf : qMT := (yX8_valueOf, cX8_valueOf, 3, (some .int), 0, 0)
theorem mv_X8_valueOf : qMV mX8_valueOf 2 := ⟨⟨qW_t (i := 995) (by decide +kernel) rfl, qW_t (i := 13) (by decide +kernel) rfl, ⟨by decide +kernel, by decide +kernel⟩, by decide +kernel⟩, qW_t (i := 994) (by decide +kernel) rfl, qW_p (i := 41) (by decide +kernel) rfl⟩
def mX8_isThere : qMT := (yX8_isThere, cX8_isThere, 3, (some .boolean), 1, 22)
theorem mv_X8_isThere : qMV mX8_isThere 2 := ⟨⟨qW_t (i := 1021) (by decide +kernel) rfl, qW_t (i := 13) (by decide +kernel) rfl, ⟨by decide +kernel, by decide +kernel⟩, by decide +kernel⟩, qW_t (i := 1020) (by decide +kernel) rfl, qW_p (i := 44) (by decide +kernel) rfl⟩
def mX8_told : qMT := (yX8_told, cX8_told, 1, (some .int), 0, 0)
theorem mv_X8_told : qMS mX8_told 1 := ⟨⟨qW_t (i := 998) (by decide +kernel) rfl, qW_t (i := 13) (by decide +kernel) rfl, ⟨by decide +kernel, by decide +kernel⟩, by decide +kernel⟩, qW_t (i := 997) (by decide +kernel) rfl⟩
def mX8_note : qMT := (yX8_note, cX8_note, 2, none, 0, 0)
theorem mv_X8_note : qMV mX8_note 0 := ⟨⟨qW_t (i := 1013) (by decide +kernel) rfl, qW_t (i := 13) (by decide +kernel) rfl, ⟨by decide +kernel, by decide +kernel⟩, by decide +kernel⟩, qW_t (i := 1012) (by decide +kernel) rfl, qW_p (i := 43) (by decide +kernel) rfl⟩
def mX8_change : qMT := (yX8_change, cX8_change, 4, (some .int), 1, 21)
theorem mv_X8_change : qMV mX8_change 2 := ⟨⟨qW_t (i := 1009) (by decide +kernel) rfl, qW_t (i := 13) (by decide +kernel) rfl, ⟨by decide +kernel, by decide +kernel⟩, by decide +kernel⟩, qW_t (i := 1008) (by decide +kernel) rfl, qW_p (i := 42) (by decide +kernel) rfl⟩
def mX8_value : qMT := (yX8_value, cX8_value, 3, (some .int), 2, 46)
theorem mv_X8_value : qMV mX8_value 2 := ⟨⟨qW_t (i := 983) (by decide +kernel) rfl, qW_t (i := 13) (by decide +kernel) rfl, ⟨by decide +kernel, by decide +kernel⟩, by decide +kernel⟩, qW_t (i := 981) (by decide +kernel) rfl, qW_t (i := 982) (by decide +kernel) rfl⟩
def mX8_set : qMT := (yX8_set, cX8_set, 4, (some .int), 2, 46)
theorem mv_X8_set : qMV mX8_set 3 := ⟨⟨qW_t (i := 1003) (by decide +kernel) rfl, qW_t (i := 13) (by decide +kernel) rfl, ⟨by decide +kernel, by decide +kernel⟩, by decide +kernel⟩, qW_t (i := 1001) (by decide +kernel) rfl, qW_t (i := 1002) (by decide +kernel) rfl⟩
def mX8_lose : qMT := (yX8_lose, cX8_lose, 3, (some .int), 2, 46)
theorem mv_X8_lose : qMV mX8_lose 2 := ⟨⟨qW_t (i := 1017) (by decide +kernel) rfl, qW_t (i := 13) (by decide +kernel) rfl, ⟨by decide +kernel, by decide +kernel⟩, by decide +kernel⟩, qW_t (i := 1015) (by decide +kernel) rfl, qW_t (i := 1016) (by decide +kernel) rfl⟩
def mX8_penalty : qMT := (yX8_penalty, cX8_penalty, 2, (some .int), 2, 44)
theorem mv_X8_penalty : qMV mX8_penalty 1 := ⟨⟨qW_t (i := 1025) (by decide +kernel) rfl, qW_t (i := 13) (by decide +kernel) rfl, ⟨by decide +kernel, by decide +kernel⟩, by decide +kernel⟩, qW_t (i := 1023) (by decide +kernel) rfl, qW_t (i := 1024) (by decide +kernel) rfl⟩
def mX8_rule : qMT := (yX8_rule, cX8_rule, 4, (some .int), 2, 44)
theorem mv_X8_rule : qMV mX8_rule 2 := ⟨⟨qW_t (i := 1030) (by decide +kernel) rfl, qW_t (i := 13) (by decide +kernel) rfl, ⟨by decide +kernel, by decide +kernel⟩, by decide +kernel⟩, qW_t (i := 1028) (by decide +kernel) rfl, qW_t (i := 1029) (by decide +kernel) rfl⟩
def mX8_undo : qMT := (yX8_undo, cX8_undo, 2, (some .int), 0, 0)
theorem mv_X8_undo : qMV mX8_undo 0 := ⟨⟨qW_t (i := 1037) (by decide +kernel) rfl, qW_t (i := 13) (by decide +kernel) rfl, ⟨by decide +kernel, by decide +kernel⟩, by decide +kernel⟩, qW_t (i := 1035) (by decide +kernel) rfl, qW_t (i := 1036) (by decide +kernel) rfl⟩
def mX8_day : qMT := (yX8_day, cX8_day, 10, (some .int), 2, 44)
theorem mv_X8_day : qMV mX8_day 2 := ⟨⟨qW_t (i := 1041) (by decide +kernel) rfl, qW_t (i := 13) (by decide +kernel) rfl, ⟨by decide +kernel, by decide +kernel⟩, by decide +kernel⟩, qW_t (i := 1039) (by decide +kernel) rfl, qW_t (i := 1040) (by decide +kernel) rfl⟩
def mX8_square : qMT := (yX8_square, cX8_square, 3, (some .int), 0, 0)
theorem mv_X8_square : qMV mX8_square 2 := ⟨⟨qW_t (i := 1057) (by decide +kernel) rfl, qW_t (i := 13) (by decide +kernel) rfl, ⟨by decide +kernel, by decide +kernel⟩, by decide +kernel⟩, qW_t (i := 1056) (by decide +kernel) rfl, qW_p (i := 46) (by decide +kernel) rfl⟩
def mX8_rankOf : qMT := (yX8_rankOf, cX8_rankOf, 6, (some .int), 1, 22)
theorem mv_X8_rankOf : qMV mX8_rankOf 2 := ⟨⟨qW_t (i := 1053) (by decide +kernel) rfl, qW_t (i := 13) (by decide +kernel) rfl, ⟨by decide +kernel, by decide +kernel⟩, by decide +kernel⟩, qW_t (i := 1052) (by decide +kernel) rfl, qW_p (i := 45) (by decide +kernel) rfl⟩
def mX8_nearest : qMT := (yX8_nearest, cX8_nearest, 4, (some .int), 2, 47)
theorem mv_X8_nearest : qMV mX8_nearest 2 := ⟨⟨qW_t (i := 1049) (by decide +kernel) rfl, qW_t (i := 13) (by decide +kernel) rfl, ⟨by decide +kernel, by decide +kernel⟩, by decide +kernel⟩, qW_t (i := 1047) (by decide +kernel) rfl, qW_t (i := 1048) (by decide +kernel) rfl⟩
def mX8_isPair : qMT := (yX8_isPair, cX8_isPair, 3, (some .boolean), 2, 47)
theorem mv_X8_isPair : qMV mX8_isPair 2 := ⟨⟨qW_t (i := 1069) (by decide +kernel) rfl, qW_t (i := 13) (by decide +kernel) rfl, ⟨by decide +kernel, by decide +kernel⟩, by decide +kernel⟩, qW_t (i := 1068) (by decide +kernel) rfl, qW_p (i := 48) (by decide +kernel) rfl⟩
def mX8_pair : qMT := (yX8_pair, cX8_pair, 3, (some .int), 3, 69)
theorem mv_X8_pair : qMV mX8_pair 2 := ⟨⟨qW_t (i := 1061) (by decide +kernel) rfl, qW_t (i := 13) (by decide +kernel) rfl, ⟨by decide +kernel, by decide +kernel⟩, by decide +kernel⟩, qW_t (i := 1059) (by decide +kernel) rfl, qW_t (i := 1060) (by decide +kernel) rfl⟩
def mX8_rowOf : qMT := (yX8_rowOf, cX8_rowOf, 4, none, 2, 44)
theorem mv_X8_rowOf : qMV mX8_rowOf 2 := ⟨⟨qW_t (i := 1077) (by decide +kernel) rfl, qW_t (i := 13) (by decide +kernel) rfl, ⟨by decide +kernel, by decide +kernel⟩, by decide +kernel⟩, qW_t (i := 1076) (by decide +kernel) rfl, qW_p (i := 49) (by decide +kernel) rfl⟩
def mX8_sumOf : qMT := (yX8_sumOf, cX8_sumOf, 6, (some .long), 0, 0)
theorem mv_X8_sumOf : qMV mX8_sumOf 2 := ⟨⟨qW_t (i := 1094) (by decide +kernel) rfl, qW_t (i := 13) (by decide +kernel) rfl, ⟨by decide +kernel, by decide +kernel⟩, by decide +kernel⟩, qW_t (i := 1093) (by decide +kernel) rfl, qW_p (i := 51) (by decide +kernel) rfl⟩
def mX8_spreadOf : qMT := (yX8_spreadOf, cX8_spreadOf, 7, (some .long), 1, 25)
theorem mv_X8_spreadOf : qMV mX8_spreadOf 2 := ⟨⟨qW_t (i := 1090) (by decide +kernel) rfl, qW_t (i := 13) (by decide +kernel) rfl, ⟨by decide +kernel, by decide +kernel⟩, by decide +kernel⟩, qW_t (i := 1089) (by decide +kernel) rfl, qW_p (i := 50) (by decide +kernel) rfl⟩
def mX8_learn : qMT := (yX8_learn, cX8_learn, 9, none, 3, 67)
theorem mv_X8_learn : qMV mX8_learn 2 := ⟨⟨qW_t (i := 1108) (by decide +kernel) rfl, qW_t (i := 13) (by decide +kernel) rfl, ⟨by decide +kernel, by decide +kernel⟩, by decide +kernel⟩, qW_t (i := 1107) (by decide +kernel) rfl, qW_p (i := 53) (by decide +kernel) rfl⟩
def mX8_breaksBy : qMT := (yX8_breaksBy, cX8_breaksBy, 6, (some .int), 0, 0)
theorem mv_X8_breaksBy : qMV mX8_breaksBy 1 := ⟨⟨qW_t (i := 1113) (by decide +kernel) rfl, qW_t (i := 13) (by decide +kernel) rfl, ⟨by decide +kernel, by decide +kernel⟩, by decide +kernel⟩, qW_t (i := 1112) (by decide +kernel) rfl, qW_p (i := 54) (by decide +kernel) rfl⟩
def mX8_findBest : qMT := (yX8_findBest, cX8_findBest, 6, none, 4, 95)
theorem mv_X8_findBest : qMV mX8_findBest 2 := ⟨⟨qW_t (i := 1104) (by decide +kernel) rfl, qW_t (i := 13) (by decide +kernel) rfl, ⟨by decide +kernel, by decide +kernel⟩, by decide +kernel⟩, qW_t (i := 1103) (by decide +kernel) rfl, qW_p (i := 52) (by decide +kernel) rfl⟩
def mX8_entry : qMT := (yX8_entry, cX8_entry, 4, (some .int), 3, 68)
theorem mv_X8_entry : qMV mX8_entry 3 := ⟨⟨qW_t (i := 1073) (by decide +kernel) rfl, qW_t (i := 13) (by decide +kernel) rfl, ⟨by decide +kernel, by decide +kernel⟩, by decide +kernel⟩, qW_t (i := 1071) (by decide +kernel) rfl, qW_t (i := 1072) (by decide +kernel) rfl⟩
def mX8_year : qMT := (yX8_year, cX8_year, 4, (some .int), 3, 68)
theorem mv_X8_year : qMV mX8_year 3 := ⟨⟨qW_t (i := 1081) (by decide +kernel) rfl, qW_t (i := 13) (by decide +kernel) rfl, ⟨by decide +kernel, by decide +kernel⟩, by decide +kernel⟩, qW_t (i := 1079) (by decide +kernel) rfl, qW_t (i := 1080) (by decide +kernel) rfl⟩
def mX8_spread : qMT := (yX8_spread, cX8_spread, 5, (some .long), 3, 68)
theorem mv_X8_spread : qMV mX8_spread 4 := ⟨⟨qW_t (i := 1085) (by decide +kernel) rfl, qW_t (i := 13) (by decide +kernel) rfl, ⟨by decide +kernel, by decide +kernel⟩, by decide +kernel⟩, qW_t (i := 1083) (by decide +kernel) rfl, qW_t (i := 1084) (by decide +kernel) rfl⟩
def mX8_split : qMT := (yX8_split, cX8_split, 4, (some .int), 5, 120)
theorem mv_X8_split : qMV mX8_split 3 := ⟨⟨qW_t (i := 1100) (by decide +kernel) rfl, qW_t (i := 13) (by decide +kernel) rfl, ⟨by decide +kernel, by decide +kernel⟩, by decide +kernel⟩, qW_t (i := 1098) (by decide +kernel) rfl, qW_t (i := 1099) (by decide +kernel) rfl⟩
def mX8_cost : qMT := (yX8_cost, cX8_cost, 3, (some .long), 5, 120)
theorem mv_X8_cost : qMV mX8_cost 2 := ⟨⟨qW_t (i := 1117) (by decide +kernel) rfl, qW_t (i := 13) (by decide +kernel) rfl, ⟨by decide +kernel, by decide +kernel⟩, by decide +kernel⟩, qW_t (i := 1115) (by decide +kernel) rfl, qW_t (i := 1116) (by decide +kernel) rfl⟩
def mX8_spreads : qMT := (yX8_spreads, cX8_spreads, 4, (some .long), 4, 95)
theorem mv_X8_spreads : qMV mX8_spreads 3 := ⟨⟨qW_t (i := 1121) (by decide +kernel) rfl, qW_t (i := 13) (by decide +kernel) rfl, ⟨by decide +kernel, by decide +kernel⟩, by decide +kernel⟩, qW_t (i := 1119) (by decide +kernel) rfl, qW_t (i := 1120) (by decide +kernel) rfl⟩
def mX8_breaks : qMT := (yX8_breaks, cX8_breaks, 4, (some .int), 4, 95)
theorem mv_X8_breaks : qMV mX8_breaks 3 := ⟨⟨qW_t (i := 1126) (by decide +kernel) rfl, qW_t (i := 13) (by decide +kernel) rfl, ⟨by decide +kernel, by decide +kernel⟩, by decide +kernel⟩, qW_t (i := 1124) (by decide +kernel) rfl, qW_t (i := 1125) (by decide +kernel) rfl⟩
def mX8_least : qMT := (yX8_least, cX8_least, 5, (some .int), 4, 95)
theorem mv_X8_least : qMV mX8_least 3 := ⟨⟨qW_t (i := 1130) (by decide +kernel) rfl, qW_t (i := 13) (by decide +kernel) rfl, ⟨by decide +kernel, by decide +kernel⟩, by decide +kernel⟩, qW_t (i := 1128) (by decide +kernel) rfl, qW_t (i := 1129) (by decide +kernel) rfl⟩
def mX8_findBreaks : qMT := (yX8_findBreaks, cX8_findBreaks, 5, none, 5, 120)
theorem mv_X8_findBreaks : qMV mX8_findBreaks 0 := ⟨⟨qW_t (i := 1142) (by decide +kernel) rfl, qW_t (i := 13) (by decide +kernel) rfl, ⟨by decide +kernel, by decide +kernel⟩, by decide +kernel⟩, qW_t (i := 1141) (by decide +kernel) rfl, qW_p (i := 56) (by decide +kernel) rfl⟩
def mX8_withWhom : qMT := (yX8_withWhom, cX8_withWhom, 6, (some .int), 1, 21)
theorem mv_X8_withWhom : qMV mX8_withWhom 3 := ⟨⟨qW_t (i := 1146) (by decide +kernel) rfl, qW_t (i := 13) (by decide +kernel) rfl, ⟨by decide +kernel, by decide +kernel⟩, by decide +kernel⟩, qW_t (i := 1145) (by decide +kernel) rfl, qW_p (i := 57) (by decide +kernel) rfl⟩
def mX8_ones : qMT := (yX8_ones, cX8_ones, 3, (some .int), 0, 0)
theorem mv_X8_ones : qMS mX8_ones 1 := ⟨⟨qW_t (i := 1152) (by decide +kernel) rfl, qW_t (i := 13) (by decide +kernel) rfl, ⟨by decide +kernel, by decide +kernel⟩, by decide +kernel⟩, qW_t (i := 1151) (by decide +kernel) rfl⟩
def mX8_finds : qMT := (yX8_finds, cX8_finds, 6, none, 2, 46)
theorem mv_X8_finds : qMV mX8_finds 2 := ⟨⟨qW_t (i := 1156) (by decide +kernel) rfl, qW_t (i := 13) (by decide +kernel) rfl, ⟨by decide +kernel, by decide +kernel⟩, by decide +kernel⟩, qW_t (i := 1155) (by decide +kernel) rfl, qW_p (i := 58) (by decide +kernel) rfl⟩
def mX8_know : qMT := (yX8_know, cX8_know, 8, none, 6, 144)
theorem mv_X8_know : qMV mX8_know 0 := ⟨⟨qW_t (i := 1138) (by decide +kernel) rfl, qW_t (i := 13) (by decide +kernel) rfl, ⟨by decide +kernel, by decide +kernel⟩, by decide +kernel⟩, qW_t (i := 1137) (by decide +kernel) rfl, qW_p (i := 55) (by decide +kernel) rfl⟩
def mX8_votes : qMT := (yX8_votes, cX8_votes, 3, (some .int), 7, 171)
theorem mv_X8_votes : qMV mX8_votes 2 := ⟨⟨qW_t (i := 1134) (by decide +kernel) rfl, qW_t (i := 13) (by decide +kernel) rfl, ⟨by decide +kernel, by decide +kernel⟩, by decide +kernel⟩, qW_t (i := 1132) (by decide +kernel) rfl, qW_t (i := 1133) (by decide +kernel) rfl⟩
def mX8_nearestOf : qMT := (yX8_nearestOf, cX8_nearestOf, 10, (some .long), 0, 0)
theorem mv_X8_nearestOf : qMS mX8_nearestOf 2 := ⟨⟨qW_t (i := 1172) (by decide +kernel) rfl, qW_t (i := 13) (by decide +kernel) rfl, ⟨by decide +kernel, by decide +kernel⟩, by decide +kernel⟩, qW_t (i := 1171) (by decide +kernel) rfl⟩
def mX8_rises : qMT := (yX8_rises, cX8_rises, 10, (some .long), 5, 120)
theorem mv_X8_rises : qMV mX8_rises 3 := ⟨⟨qW_t (i := 1169) (by decide +kernel) rfl, qW_t (i := 13) (by decide +kernel) rfl, ⟨by decide +kernel, by decide +kernel⟩, by decide +kernel⟩, qW_t (i := 1168) (by decide +kernel) rfl, qW_p (i := 60) (by decide +kernel) rfl⟩
def mX8_sizeOf : qMT := (yX8_sizeOf, cX8_sizeOf, 5, (some .int), 6, 149)
theorem mv_X8_sizeOf : qMV mX8_sizeOf 1 := ⟨⟨qW_t (i := 1165) (by decide +kernel) rfl, qW_t (i := 13) (by decide +kernel) rfl, ⟨by decide +kernel, by decide +kernel⟩, by decide +kernel⟩, qW_t (i := 1164) (by decide +kernel) rfl, qW_p (i := 59) (by decide +kernel) rfl⟩
def mX8_culprit : qMT := (yX8_culprit, cX8_culprit, 3, (some .int), 7, 173)
theorem mv_X8_culprit : qMV mX8_culprit 2 := ⟨⟨qW_t (i := 1160) (by decide +kernel) rfl, qW_t (i := 13) (by decide +kernel) rfl, ⟨by decide +kernel, by decide +kernel⟩, by decide +kernel⟩, qW_t (i := 1158) (by decide +kernel) rfl, qW_t (i := 1159) (by decide +kernel) rfl⟩
def mX8_mend : qMT := (yX8_mend, cX8_mend, 7, (some .int), 7, 173)
theorem mv_X8_mend : qMV mX8_mend 1 := ⟨⟨qW_t (i := 1176) (by decide +kernel) rfl, qW_t (i := 13) (by decide +kernel) rfl, ⟨by decide +kernel, by decide +kernel⟩, by decide +kernel⟩, qW_t (i := 1174) (by decide +kernel) rfl, qW_t (i := 1175) (by decide +kernel) rfl⟩
def mX8_mends : qMT := (yX8_mends, cX8_mends, 2, (some .int), 8, 199)
theorem mv_X8_mends : qMV mX8_mends 0 := ⟨⟨qW_t (i := 1180) (by decide +kernel) rfl, qW_t (i := 13) (by decide +kernel) rfl, ⟨by decide +kernel, by decide +kernel⟩, by decide +kernel⟩, qW_t (i := 1178) (by decide +kernel) rfl, qW_t (i := 1179) (by decide +kernel) rfl⟩
def mX8_ledger : qMT := (yX8_ledger, cX8_ledger, 3, (some .int), 1, 25)
theorem mv_X8_ledger : qMV mX8_ledger 2 := ⟨⟨qW_t (i := 1185) (by decide +kernel) rfl, qW_t (i := 13) (by decide +kernel) rfl, ⟨by decide +kernel, by decide +kernel⟩, by decide +kernel⟩, qW_t (i := 1183) (by decide +kernel) rfl, qW_t (i := 1184) (by decide +kernel) rfl⟩
def mX8_canMake : qMT := (yX8_canMake, cX8_canMake, 7, (some .boolean), 3, 69)
theorem mv_X8_canMake : qMV mX8_canMake 2 := ⟨⟨qW_t (i := 1193) (by decide +kernel) rfl, qW_t (i := 13) (by decide +kernel) rfl, ⟨by decide +kernel, by decide +kernel⟩, by decide +kernel⟩, qW_t (i := 1192) (by decide +kernel) rfl, qW_p (i := 61) (by decide +kernel) rfl⟩
def mX8_made : qMT := (yX8_made, cX8_made, 3, (some .int), 4, 95)
theorem mv_X8_made : qMV mX8_made 2 := ⟨⟨qW_t (i := 1189) (by decide +kernel) rfl, qW_t (i := 13) (by decide +kernel) rfl, ⟨by decide +kernel, by decide +kernel⟩, by decide +kernel⟩, qW_t (i := 1187) (by decide +kernel) rfl, qW_t (i := 1188) (by decide +kernel) rfl⟩
def mX8_make : qMT := (yX8_make, cX8_make, 3, (some .int), 4, 95)
theorem mv_X8_make : qMV mX8_make 2 := ⟨⟨qW_t (i := 1197) (by decide +kernel) rfl, qW_t (i := 13) (by decide +kernel) rfl, ⟨by decide +kernel, by decide +kernel⟩, by decide +kernel⟩, qW_t (i := 1195) (by decide +kernel) rfl, qW_t (i := 1196) (by decide +kernel) rfl⟩
def mX8_rise : qMT := (yX8_rise, cX8_rise, 5, (some .int), 2, 46)
theorem mv_X8_rise : qMV mX8_rise 1 := ⟨⟨qW_t (i := 1201) (by decide +kernel) rfl, qW_t (i := 13) (by decide +kernel) rfl, ⟨by decide +kernel, by decide +kernel⟩, by decide +kernel⟩, qW_t (i := 1199) (by decide +kernel) rfl, qW_t (i := 1200) (by decide +kernel) rfl⟩
def mX8_pairs : qMT := (yX8_pairs, cX8_pairs, 4, (some .int), 3, 69)
theorem mv_X8_pairs : qMV mX8_pairs 0 := ⟨⟨qW_t (i := 1209) (by decide +kernel) rfl, qW_t (i := 13) (by decide +kernel) rfl, ⟨by decide +kernel, by decide +kernel⟩, by decide +kernel⟩, qW_t (i := 1208) (by decide +kernel) rfl, qW_p (i := 62) (by decide +kernel) rfl⟩
def mX8_missing : qMT := (yX8_missing, cX8_missing, 4, (some .int), 2, 44)
theorem mv_X8_missing : qMV mX8_missing 0 := ⟨⟨qW_t (i := 1213) (by decide +kernel) rfl, qW_t (i := 13) (by decide +kernel) rfl, ⟨by decide +kernel, by decide +kernel⟩, by decide +kernel⟩, qW_t (i := 1212) (by decide +kernel) rfl, qW_p (i := 63) (by decide +kernel) rfl⟩
def mX8_count : qMT := (yX8_count, cX8_count, 2, (some .int), 4, 92)
theorem mv_X8_count : qMV mX8_count 1 := ⟨⟨qW_t (i := 1205) (by decide +kernel) rfl, qW_t (i := 13) (by decide +kernel) rfl, ⟨by decide +kernel, by decide +kernel⟩, by decide +kernel⟩, qW_t (i := 1203) (by decide +kernel) rfl, qW_t (i := 1204) (by decide +kernel) rfl⟩
def mJ9_floorDiv_f86c9 : qMT := (yJ9_floorDiv_f86c9, cJ9_floorDiv_f86c9, 6, (some .long), 0, 0)
theorem mv_J9_floorDiv_f86c9 : qMS mJ9_floorDiv_f86c9 2 := ⟨⟨qW_t (i := 698) (by decide +kernel) rfl, qW_t (i := 14) (by decide +kernel) rfl, ⟨by decide +kernel, by decide +kernel⟩, by decide +kernel⟩, qW_t (i := 697) (by decide +kernel) rfl⟩
def mJ9_max_7cf53 : qMT := (yJ9_max_7cf53, cJ9_max_7cf53, 2, (some .int), 0, 0)
theorem mv_J9_max_7cf53 : qMS mJ9_max_7cf53 2 := ⟨⟨qW_t (i := 705) (by decide +kernel) rfl, qW_t (i := 14) (by decide +kernel) rfl, ⟨by decide +kernel, by decide +kernel⟩, by decide +kernel⟩, qW_t (i := 704) (by decide +kernel) rfl⟩
def mJ9_min_7cf53 : qMT := (yJ9_min_7cf53, cJ9_min_7cf53, 2, (some .int), 0, 0)
theorem mv_J9_min_7cf53 : qMS mJ9_min_7cf53 2 := ⟨⟨qW_t (i := 708) (by decide +kernel) rfl, qW_t (i := 14) (by decide +kernel) rfl, ⟨by decide +kernel, by decide +kernel⟩, by decide +kernel⟩, qW_t (i := 707) (by decide +kernel) rfl⟩
def mJ9_min_f86c9 : qMT := (yJ9_min_f86c9, cJ9_min_f86c9, 4, (some .long), 0, 0)
theorem mv_J9_min_f86c9 : qMS mJ9_min_f86c9 2 := ⟨⟨qW_t (i := 632) (by decide +kernel) rfl, qW_t (i := 14) (by decide +kernel) rfl, ⟨by decide +kernel, by decide +kernel⟩, by decide +kernel⟩, qW_t (i := 631) (by decide +kernel) rfl⟩
theorem lf_RX0_18 : qLF RX0 18 0 1 .int := ⟨_, _, _, _, ck_0, by decide, qW_t (i := 138) (by decide +kernel) rfl, rfl, rfl, rfl⟩
theorem lm_RX0_48 : Cond.methodLink RX0 48 yX3_version ∈ qW := qW_t (i := 650) (by decide +kernel) rfl
theorem lm_RX0_53 : Cond.methodLink RX0 53 yX0_clear ∈ qW := qW_t (i := 654) (by decide +kernel) rfl
theorem lm_RX0_56 : Cond.methodLink RX0 56 yX3_stations ∈ qW := qW_t (i := 658) (by decide +kernel) rfl
theorem lm_RX0_59 : Cond.methodLink RX0 59 yX3_arePair ∈ qW := qW_t (i := 659) (by decide +kernel) rfl
theorem lm_RX0_63 : Cond.methodLink RX0 63 yX0_addPair ∈ qW := qW_t (i := 660) (by decide +kernel) rfl
theorem lf_RX0_67 : qLF RX0 67 0 9 .int := ⟨_, _, _, _, ck_0, by decide, qW_t (i := 146) (by decide +kernel) rfl, rfl, rfl, rfl⟩
theorem lm_RX0_70 : Cond.methodLink RX0 70 yX0_findCulprit ∈ qW := qW_t (i := 678) (by decide +kernel) rfl
theorem lg_RX0_45 : qLG RX0 45 0 10 := ⟨_, _, _, _, ck_0, by decide, qW_t (i := 147) (by decide +kernel) rfl, rfl⟩
theorem lm_RX0_74 : Cond.methodLink RX0 74 yX0_strikeVotes ∈ qW := qW_t (i := 699) (by decide +kernel) rfl
theorem lg_RX0_39 : qLG RX0 39 0 7 := ⟨_, _, _, _, ck_0, by decide, qW_t (i := 144) (by decide +kernel) rfl, rfl⟩
theorem lf_RX0_77 : qLF RX0 77 0 2 .int := ⟨_, _, _, _, ck_0, by decide, qW_t (i := 139) (by decide +kernel) rfl, rfl, rfl, rfl⟩
theorem lg_RX0_31 : qLG RX0 31 0 5 := ⟨_, _, _, _, ck_0, by decide, qW_t (i := 142) (by decide +kernel) rfl, rfl⟩
theorem lg_RX0_42 : qLG RX0 42 0 8 := ⟨_, _, _, _, ck_0, by decide, qW_t (i := 145) (by decide +kernel) rfl, rfl⟩
theorem lg_RX0_22 : qLG RX0 22 0 3 := ⟨_, _, _, _, ck_0, by decide, qW_t (i := 140) (by decide +kernel) rfl, rfl⟩
theorem lg_RX0_26 : qLG RX0 26 0 4 := ⟨_, _, _, _, ck_0, by decide, qW_t (i := 141) (by decide +kernel) rfl, rfl⟩
theorem lg_RX0_12 : qLG RX0 12 0 0 := ⟨_, _, _, _, ck_0, by decide, qW_t (i := 137) (by decide +kernel) rfl, rfl⟩
theorem lm_RX0_80 : Cond.methodLink RX0 80 yX5_compare ∈ qW := qW_t (i := 664) (by decide +kernel) rfl
theorem lm_RX0_83 : Cond.methodLink RX0 83 yX3_ruleOf ∈ qW := qW_t (i := 665) (by decide +kernel) rfl
theorem lm_RX0_87 : Cond.methodLink RX0 87 yX3_breakPenalty ∈ qW := qW_t (i := 666) (by decide +kernel) rfl
theorem lm_RX0_90 : Cond.methodLink RX0 90 yX5_fit ∈ qW := qW_t (i := 667) (by decide +kernel) rfl
theorem lm_RX0_94 : Cond.methodLink RX0 94 yX5_breakCount ∈ qW := qW_t (i := 668) (by decide +kernel) rfl
theorem lm_RX0_97 : Cond.methodLink RX0 97 yX5_breakYear ∈ qW := qW_t (i := 669) (by decide +kernel) rfl
theorem lg_RX0_36 : qLG RX0 36 0 6 := ⟨_, _, _, _, ck_0, by decide, qW_t (i := 143) (by decide +kernel) rfl, rfl⟩
theorem lm_RX0_100 : Cond.methodLink RX0 100 yX5_scaledShift ∈ qW := qW_t (i := 670) (by decide +kernel) rfl
theorem lm_RX0_104 : Cond.methodLink RX0 104 yX3_years ∈ qW := qW_t (i := 682) (by decide +kernel) rfl
theorem lm_RX0_107 : Cond.methodLink RX0 107 yX0_size ∈ qW := qW_t (i := 683) (by decide +kernel) rfl
theorem lm_RX0_111 : Cond.methodLink RX0 111 yX0_isOf ∈ qW := qW_t (i := 687) (by decide +kernel) rfl
theorem lm_RX0_114 : ∀ U, qNest U → va_Nw (.methodLinkNest RX0 114 yX7_roundedMean "ShiftMender") U := fun U h => h.2.1
theorem lm_RX0_118 : Cond.methodLink RX0 118 yJ9_max_7cf53 ∈ qW := qW_t (i := 703) (by decide +kernel) rfl
theorem lm_RX0_123 : Cond.methodLink RX0 123 yJ9_min_7cf53 ∈ qW := qW_t (i := 706) (by decide +kernel) rfl
theorem lf_RX1_16 : qLF RX1 16 1 2 .int := ⟨_, _, _, _, ck_1, by decide, qW_t (i := 180) (by decide +kernel) rfl, rfl, rfl, rfl⟩
theorem lm_RX1_20 : Cond.methodLink RX1 20 yX1_slot ∈ qW := qW_t (i := 433) (by decide +kernel) rfl
theorem lg_RX1_11 : qLG RX1 11 1 0 := ⟨_, _, _, _, ck_1, by decide, qW_t (i := 178) (by decide +kernel) rfl, rfl⟩
theorem lf_RX1_24 : qLF RX1 24 1 1 .int := ⟨_, _, _, _, ck_1, by decide, qW_t (i := 179) (by decide +kernel) rfl, rfl, rfl, rfl⟩
theorem lf_RX2_16 : qLF RX2 16 2 1 .int := ⟨_, _, _, _, ck_2, by decide, qW_t (i := 196) (by decide +kernel) rfl, rfl, rfl, rfl⟩
theorem lm_RX2_20 : Cond.methodLink RX2 20 yX2_isFull ∈ qW := qW_t (i := 746) (by decide +kernel) rfl
theorem lg_RX2_11 : qLG RX2 11 2 0 := ⟨_, _, _, _, ck_2, by decide, qW_t (i := 195) (by decide +kernel) rfl, rfl⟩
theorem lf_RX3_26 : qLF RX3 26 3 0 .int := ⟨_, _, _, _, ck_3, by decide, qW_t (i := 37) (by decide +kernel) rfl, rfl, rfl, rfl⟩
theorem lf_RX3_30 : qLF RX3 30 3 1 .int := ⟨_, _, _, _, ck_3, by decide, qW_t (i := 38) (by decide +kernel) rfl, rfl, rfl, rfl⟩
theorem lf_RX3_33 : qLF RX3 33 3 5 .int := ⟨_, _, _, _, ck_3, by decide, qW_t (i := 42) (by decide +kernel) rfl, rfl, rfl, rfl⟩
theorem lg_RX3_23 : qLG RX3 23 3 6 := ⟨_, _, _, _, ck_3, by decide, qW_t (i := 43) (by decide +kernel) rfl, rfl⟩
theorem ls_RX3_36 : ∀ U, qNest U → va_Nw (.fieldLinkNest RX3 36 "ShiftMender" (qtn 2) "[I" "ShiftMender") U := fun U h => h.2.2.2
theorem lf_RX3_39 : qLF RX3 39 3 7 .int := ⟨_, _, _, _, ck_3, by decide, qW_t (i := 44) (by decide +kernel) rfl, rfl, rfl, rfl⟩
theorem lg_RX3_9 : qLG RX3 9 3 2 := ⟨_, _, _, _, ck_3, by decide, qW_t (i := 39) (by decide +kernel) rfl, rfl⟩
theorem lg_RX3_15 : qLG RX3 15 3 3 := ⟨_, _, _, _, ck_3, by decide, qW_t (i := 40) (by decide +kernel) rfl, rfl⟩
theorem lg_RX3_20 : qLG RX3 20 3 4 := ⟨_, _, _, _, ck_3, by decide, qW_t (i := 41) (by decide +kernel) rfl, rfl⟩
theorem lm_RX3_42 : Cond.methodLink RX3 42 yX3_hasStation ∈ qW := qW_t (i := 405) (by decide +kernel) rfl
theorem lc_RX3_46 : Cond.constant RX3 46 (1000000) ∈ qW := qW_t (i := 485) (by decide +kernel) rfl
theorem lm_RX3_47 : Cond.methodLink RX3 47 yX3_has ∈ qW := qW_t (i := 481) (by decide +kernel) rfl
theorem lm_RX3_51 : ∀ U, qNest U → va_Nw (.methodLinkNest RX3 51 yX7_isValue "ShiftMender") U := fun U h => h.2.2.1
theorem lm_RX3_54 : Cond.methodLink RX3 54 yX3_squaredDistance ∈ qW := qW_t (i := 514) (by decide +kernel) rfl
theorem lm_RX3_58 : Cond.methodLink RX3 58 yX3_rank ∈ qW := qW_t (i := 530) (by decide +kernel) rfl
theorem lm_RX3_61 : Cond.methodLink RX3 61 yX3_arePair ∈ qW := qW_t (i := 793) (by decide +kernel) rfl
theorem lf_RX4_22 : qLF RX4 22 4 1 .int := ⟨_, _, _, _, ck_4, by decide, qW_t (i := 65) (by decide +kernel) rfl, rfl, rfl, rfl⟩
theorem lg_RX4_9 : qLG RX4 9 4 0 := ⟨_, _, _, _, ck_4, by decide, qW_t (i := 64) (by decide +kernel) rfl, rfl⟩
theorem lg_RX4_18 : qLG RX4 18 4 2 := ⟨_, _, _, _, ck_4, by decide, qW_t (i := 66) (by decide +kernel) rfl, rfl⟩
theorem lm_RX4_26 : Cond.methodLink RX4 26 yX3_startAfresh ∈ qW := qW_t (i := 263) (by decide +kernel) rfl
theorem lm_RX4_29 : Cond.methodLink RX4 29 yX4_readItem ∈ qW := qW_t (i := 269) (by decide +kernel) rfl
theorem lm_RX4_33 : Cond.methodLink RX4 33 yX4_readYears ∈ qW := qW_t (i := 273) (by decide +kernel) rfl
theorem lm_RX4_36 : Cond.methodLink RX4 36 yX3_years ∈ qW := qW_t (i := 289) (by decide +kernel) rfl
theorem lm_RX4_40 : Cond.methodLink RX4 40 yX4_readStation ∈ qW := qW_t (i := 293) (by decide +kernel) rfl
theorem lm_RX4_43 : Cond.methodLink RX4 43 yX4_readPenalty ∈ qW := qW_t (i := 310) (by decide +kernel) rfl
theorem lm_RX4_46 : Cond.methodLink RX4 46 yX4_readRules ∈ qW := qW_t (i := 318) (by decide +kernel) rfl
theorem lm_RX4_49 : Cond.methodLink RX4 49 yX4_signAt ∈ qW := qW_t (i := 277) (by decide +kernel) rfl
theorem lm_RX4_52 : Cond.methodLink RX4 52 yX4_endsAt ∈ qW := qW_t (i := 281) (by decide +kernel) rfl
theorem lm_RX4_56 : Cond.methodLink RX4 56 yX3_setYears ∈ qW := qW_t (i := 285) (by decide +kernel) rfl
theorem lm_RX4_60 : Cond.methodLink RX4 60 yX3_addStation ∈ qW := qW_t (i := 297) (by decide +kernel) rfl
theorem lm_RX4_64 : Cond.methodLink RX4 64 yX3_stations ∈ qW := qW_t (i := 301) (by decide +kernel) rfl
theorem lc_RX4_67 : Cond.constant RX4 67 (1000000) ∈ qW := qW_t (i := 305) (by decide +kernel) rfl
theorem lm_RX4_68 : Cond.methodLink RX4 68 yX3_put ∈ qW := qW_t (i := 306) (by decide +kernel) rfl
theorem lm_RX4_72 : Cond.methodLink RX4 72 yX3_setBreakPenalty ∈ qW := qW_t (i := 314) (by decide +kernel) rfl
theorem lm_RX4_75 : ∀ U, qNest U → va_Nw (.methodLinkNest RX4 75 yX7_isRule "ShiftMender") U := fun U h => h.1
theorem lm_RX4_78 : Cond.methodLink RX4 78 yX3_setRule ∈ qW := qW_t (i := 329) (by decide +kernel) rfl
theorem lg_RX5_12 : qLG RX5 12 5 0 := ⟨_, _, _, _, ck_5, by decide, qW_t (i := 107) (by decide +kernel) rfl, rfl⟩
theorem lm_RX5_35 : Cond.methodLink RX5 35 yX6_compare ∈ qW := qW_t (i := 584) (by decide +kernel) rfl
theorem lm_RX5_39 : Cond.methodLink RX5 39 yX6_length ∈ qW := qW_t (i := 589) (by decide +kernel) rfl
theorem lc_RX5_43 : Cond.constantLong RX5 43 (720720) ∈ qW := qW_t (i := 590) (by decide +kernel) rfl
theorem lg_RX5_18 : qLG RX5 18 5 1 := ⟨_, _, _, _, ck_5, by decide, qW_t (i := 108) (by decide +kernel) rfl, rfl⟩
theorem lg_RX5_22 : qLG RX5 22 5 2 := ⟨_, _, _, _, ck_5, by decide, qW_t (i := 109) (by decide +kernel) rfl, rfl⟩
theorem lg_RX5_26 : qLG RX5 26 5 3 := ⟨_, _, _, _, ck_5, by decide, qW_t (i := 110) (by decide +kernel) rfl, rfl⟩
theorem lm_RX5_45 : Cond.methodLink RX5 45 yX5_fitFrom ∈ qW := qW_t (i := 591) (by decide +kernel) rfl
theorem lm_RX5_49 : Cond.methodLink RX5 49 yX5_keepStarts ∈ qW := qW_t (i := 596) (by decide +kernel) rfl
theorem lm_RX5_52 : Cond.methodLink RX5 52 yX6_scaledSpread ∈ qW := qW_t (i := 595) (by decide +kernel) rfl
theorem lg_RX5_32 : qLG RX5 32 5 5 := ⟨_, _, _, _, ck_5, by decide, qW_t (i := 112) (by decide +kernel) rfl, rfl⟩
theorem lm_RX5_56 : Cond.methodLink RX5 56 yX6_yearAt ∈ qW := qW_t (i := 608) (by decide +kernel) rfl
theorem lm_RX5_60 : Cond.methodLink RX5 60 yX6_scaledMean ∈ qW := qW_t (i := 674) (by decide +kernel) rfl
theorem lc_RX5_63 : Cond.constantLong RX5 63 (-4) ∈ qW := qW_t (i := 625) (by decide +kernel) rfl
theorem lg_RX5_29 : qLG RX5 29 5 4 := ⟨_, _, _, _, ck_5, by decide, qW_t (i := 111) (by decide +kernel) rfl, rfl⟩
theorem lm_RX5_65 : Cond.methodLink RX5 65 yX5_addRun ∈ qW := qW_t (i := 626) (by decide +kernel) rfl
theorem lm_RX5_69 : Cond.methodLink RX5 69 yJ9_min_f86c9 ∈ qW := qW_t (i := 630) (by decide +kernel) rfl
theorem lf_RX6_25 : qLF RX6 25 6 0 .int := ⟨_, _, _, _, ck_6, by decide, qW_t (i := 82) (by decide +kernel) rfl, rfl, rfl, rfl⟩
theorem lm_RX6_29 : Cond.methodLink RX6 29 yX3_years ∈ qW := qW_t (i := 539) (by decide +kernel) rfl
theorem lm_RX6_34 : Cond.methodLink RX6 34 yX3_has ∈ qW := qW_t (i := 540) (by decide +kernel) rfl
theorem lm_RX6_38 : Cond.methodLink RX6 38 yX3_at ∈ qW := qW_t (i := 541) (by decide +kernel) rfl
theorem lm_RX6_42 : Cond.methodLink RX6 42 yX6_add ∈ qW := qW_t (i := 542) (by decide +kernel) rfl
theorem lg_RX6_9 : qLG RX6 9 6 1 := ⟨_, _, _, _, ck_6, by decide, qW_t (i := 83) (by decide +kernel) rfl, rfl⟩
theorem lg_RX6_15 : qLG RX6 15 6 2 := ⟨_, _, _, _, ck_6, by decide, qW_t (i := 84) (by decide +kernel) rfl, rfl⟩
theorem lg_RX6_18 : qLG RX6 18 6 3 := ⟨_, _, _, _, ck_6, by decide, qW_t (i := 85) (by decide +kernel) rfl, rfl⟩
theorem lg_RX6_22 : qLG RX6 22 6 4 := ⟨_, _, _, _, ck_6, by decide, qW_t (i := 86) (by decide +kernel) rfl, rfl⟩
theorem lc_RX6_46 : Cond.constant RX6 46 (720720) ∈ qW := qW_t (i := 571) (by decide +kernel) rfl
theorem lg_RX7_12 : qLG RX7 12 7 0 := ⟨_, _, _, _, ck_7, by decide, qW_t (i := 354) (by decide +kernel) rfl, rfl⟩
theorem lm_RX7_70 : Cond.methodLink RX7 70 yX4_append ∈ qW := qW_t (i := 251) (by decide +kernel) rfl
theorem lm_RX7_80 : Cond.methodLink RX7 80 yX4_length ∈ qW := qW_t (i := 381) (by decide +kernel) rfl
theorem lm_RX7_77 : Cond.methodLink RX7 77 yX4_clear ∈ qW := qW_t (i := 350) (by decide +kernel) rfl
theorem lm_RX7_81 : Cond.methodLink RX7 81 yX4_read ∈ qW := qW_t (i := 259) (by decide +kernel) rfl
theorem lm_RX7_74 : Cond.methodLink RX7 74 yX7_layScript ∈ qW := qW_t (i := 255) (by decide +kernel) rfl
theorem lm_RX7_84 : Cond.methodLink RX7 84 yX4_draft ∈ qW := qW_t (i := 333) (by decide +kernel) rfl
theorem lm_RX7_88 : Cond.methodLink RX7 88 yX3_stations ∈ qW := qW_t (i := 337) (by decide +kernel) rfl
theorem lg_RX7_19 : qLG RX7 19 7 1 := ⟨_, _, _, _, ck_7, by decide, qW_t (i := 355) (by decide +kernel) rfl, rfl⟩
theorem lm_RX7_91 : Cond.methodLink RX7 91 yX3_copyFrom ∈ qW := qW_t (i := 338) (by decide +kernel) rfl
theorem lg_RX7_54 : qLG RX7 54 7 6 := ⟨_, _, _, _, ck_7, by decide, qW_t (i := 360) (by decide +kernel) rfl, rfl⟩
theorem lm_RX7_95 : Cond.methodLink RX7 95 yX2_clear ∈ qW := qW_t (i := 342) (by decide +kernel) rfl
theorem lg_RX7_47 : qLG RX7 47 7 5 := ⟨_, _, _, _, ck_7, by decide, qW_t (i := 359) (by decide +kernel) rfl, rfl⟩
theorem lm_RX7_96 : Cond.methodLink RX7 96 yX1_clear ∈ qW := qW_t (i := 346) (by decide +kernel) rfl
theorem lm_RX7_97 : Cond.methodLink RX7 97 yX3_knows ∈ qW := qW_t (i := 401) (by decide +kernel) rfl
theorem lm_RX7_101 : Cond.methodLink RX7 101 yX3_at ∈ qW := qW_t (i := 409) (by decide +kernel) rfl
theorem lm_RX7_105 : Cond.methodLink RX7 105 yX7_shown ∈ qW := qW_t (i := 413) (by decide +kernel) rfl
theorem lc_RX7_109 : Cond.constant RX7 109 (1000000) ∈ qW := qW_t (i := 416) (by decide +kernel) rfl
theorem lc_RX7_110 : Cond.constant RX7 110 (100000) ∈ qW := qW_t (i := 417) (by decide +kernel) rfl
theorem lm_RX7_111 : Cond.methodLink RX7 111 yX7_isValue ∈ qW := qW_t (i := 422) (by decide +kernel) rfl
theorem lm_RX7_115 : Cond.methodLink RX7 115 yX7_changeValue ∈ qW := qW_t (i := 425) (by decide +kernel) rfl
theorem lm_RX7_119 : Cond.methodLink RX7 119 yX1_add ∈ qW := qW_t (i := 429) (by decide +kernel) rfl
theorem lm_RX7_123 : Cond.methodLink RX7 123 yX3_put ∈ qW := qW_t (i := 437) (by decide +kernel) rfl
theorem lm_RX7_127 : Cond.methodLink RX7 127 yX7_isPenalty ∈ qW := qW_t (i := 446) (by decide +kernel) rfl
theorem lm_RX7_130 : Cond.methodLink RX7 130 yX3_breakPenalty ∈ qW := qW_t (i := 450) (by decide +kernel) rfl
theorem lm_RX7_133 : Cond.methodLink RX7 133 yX3_setBreakPenalty ∈ qW := qW_t (i := 454) (by decide +kernel) rfl
theorem lc_RX7_137 : Cond.constant RX7 137 (99999) ∈ qW := qW_t (i := 449) (by decide +kernel) rfl
theorem lm_RX7_138 : Cond.methodLink RX7 138 yX7_isRule ∈ qW := qW_t (i := 459) (by decide +kernel) rfl
theorem lm_RX7_141 : Cond.methodLink RX7 141 yX3_ruleOf ∈ qW := qW_t (i := 460) (by decide +kernel) rfl
theorem lm_RX7_144 : Cond.methodLink RX7 144 yX3_setRule ∈ qW := qW_t (i := 464) (by decide +kernel) rfl
theorem ls_RX7_148 : Cond.fieldLink RX7 148 "ShiftMender" (qtn 0) "[I" ∈ qW := qW_t (i := 325) (by decide +kernel) rfl
theorem ls_RX7_152 : Cond.fieldLink RX7 152 "ShiftMender" (qtn 1) "[I" ∈ qW := qW_t (i := 327) (by decide +kernel) rfl
theorem lm_RX7_155 : Cond.methodLink RX7 155 yX1_length ∈ qW := qW_t (i := 469) (by decide +kernel) rfl
theorem lm_RX7_156 : Cond.methodLink RX7 156 yX1_latest ∈ qW := qW_t (i := 473) (by decide +kernel) rfl
theorem lm_RX7_159 : Cond.methodLink RX7 159 yX3_shiftEarlier ∈ qW := qW_t (i := 477) (by decide +kernel) rfl
theorem lm_RX7_162 : Cond.methodLink RX7 162 yX2_dropLast ∈ qW := qW_t (i := 486) (by decide +kernel) rfl
theorem lm_RX7_165 : Cond.methodLink RX7 165 yX1_dropLatest ∈ qW := qW_t (i := 490) (by decide +kernel) rfl
theorem lc_RX7_168 : Cond.constantLong RX7 168 (7919) ∈ qW := qW_t (i := 498) (by decide +kernel) rfl
theorem lc_RX7_170 : Cond.constantLong RX7 170 (6151) ∈ qW := qW_t (i := 499) (by decide +kernel) rfl
theorem lc_RX7_172 : Cond.constantLong RX7 172 (65521) ∈ qW := qW_t (i := 500) (by decide +kernel) rfl
theorem lm_RX7_174 : Cond.methodLink RX7 174 yX7_remainder ∈ qW := qW_t (i := 501) (by decide +kernel) rfl
theorem lm_RX7_177 : Cond.methodLink RX7 177 yX3_years ∈ qW := qW_t (i := 504) (by decide +kernel) rfl
theorem lm_RX7_180 : Cond.methodLink RX7 180 yX3_hasStation ∈ qW := qW_t (i := 509) (by decide +kernel) rfl
theorem lm_RX7_183 : Cond.methodLink RX7 183 yX3_rank ∈ qW := qW_t (i := 510) (by decide +kernel) rfl
theorem lm_RX7_186 : Cond.methodLink RX7 186 yX7_areTwoStations ∈ qW := qW_t (i := 522) (by decide +kernel) rfl
theorem lm_RX7_189 : Cond.methodLink RX7 189 yX3_arePair ∈ qW := qW_t (i := 526) (by decide +kernel) rfl
theorem lg_RX7_26 : qLG RX7 26 7 2 := ⟨_, _, _, _, ck_7, by decide, qW_t (i := 356) (by decide +kernel) rfl, rfl⟩
theorem lm_RX7_192 : Cond.methodLink RX7 192 yX6_compare ∈ qW := qW_t (i := 535) (by decide +kernel) rfl
theorem lm_RX7_196 : Cond.methodLink RX7 196 yX6_length ∈ qW := qW_t (i := 546) (by decide +kernel) rfl
theorem lm_RX7_197 : Cond.methodLink RX7 197 yX6_entryAt ∈ qW := qW_t (i := 550) (by decide +kernel) rfl
theorem lm_RX7_200 : Cond.methodLink RX7 200 yX6_yearAt ∈ qW := qW_t (i := 558) (by decide +kernel) rfl
theorem lc_RX7_203 : Cond.constantLong RX7 203 (-1) ∈ qW := qW_t (i := 566) (by decide +kernel) rfl
theorem lm_RX7_205 : Cond.methodLink RX7 205 yX6_scaledSpread ∈ qW := qW_t (i := 567) (by decide +kernel) rfl
theorem lm_RX7_209 : Cond.methodLink RX7 209 yX7_segment ∈ qW := qW_t (i := 576) (by decide +kernel) rfl
theorem lg_RX7_33 : qLG RX7 33 7 3 := ⟨_, _, _, _, ck_7, by decide, qW_t (i := 357) (by decide +kernel) rfl, rfl⟩
theorem lm_RX7_212 : Cond.methodLink RX7 212 yX5_breakCount ∈ qW := qW_t (i := 600) (by decide +kernel) rfl
theorem lm_RX7_215 : Cond.methodLink RX7 215 yX5_breakYear ∈ qW := qW_t (i := 604) (by decide +kernel) rfl
theorem lm_RX7_218 : Cond.methodLink RX7 218 yX5_compare ∈ qW := qW_t (i := 580) (by decide +kernel) rfl
theorem lm_RX7_219 : Cond.methodLink RX7 219 yX5_fit ∈ qW := qW_t (i := 585) (by decide +kernel) rfl
theorem lm_RX7_222 : Cond.methodLink RX7 222 yX5_scaledCost ∈ qW := qW_t (i := 613) (by decide +kernel) rfl
theorem lm_RX7_226 : Cond.methodLink RX7 226 yX5_scaledSpreads ∈ qW := qW_t (i := 621) (by decide +kernel) rfl
theorem lc_RX7_229 : Cond.constant RX7 229 (65536) ∈ qW := qW_t (i := 641) (by decide +kernel) rfl
theorem lg_RX7_40 : qLG RX7 40 7 4 := ⟨_, _, _, _, ck_7, by decide, qW_t (i := 358) (by decide +kernel) rfl, rfl⟩
theorem lm_RX7_230 : Cond.methodLink RX7 230 yX0_refresh ∈ qW := qW_t (i := 646) (by decide +kernel) rfl
theorem lm_RX7_233 : Cond.methodLink RX7 233 yX0_votesCast ∈ qW := qW_t (i := 709) (by decide +kernel) rfl
theorem lm_RX7_236 : Cond.methodLink RX7 236 yX0_length ∈ qW := qW_t (i := 717) (by decide +kernel) rfl
theorem lm_RX7_237 : Cond.methodLink RX7 237 yX0_property ∈ qW := qW_t (i := 721) (by decide +kernel) rfl
theorem lm_RX7_240 : Cond.methodLink RX7 240 yX7_mendCulprit ∈ qW := qW_t (i := 729) (by decide +kernel) rfl
theorem lm_RX7_243 : Cond.methodLink RX7 243 yX2_isFull ∈ qW := qW_t (i := 733) (by decide +kernel) rfl
theorem lm_RX7_247 : Cond.methodLink RX7 247 yX3_canShiftEarlier ∈ qW := qW_t (i := 737) (by decide +kernel) rfl
theorem lm_RX7_250 : Cond.methodLink RX7 250 yX2_add ∈ qW := qW_t (i := 742) (by decide +kernel) rfl
theorem lm_RX7_252 : Cond.methodLink RX7 252 yX2_length ∈ qW := qW_t (i := 747) (by decide +kernel) rfl
theorem lm_RX7_253 : Cond.methodLink RX7 253 yX2_property ∈ qW := qW_t (i := 759) (by decide +kernel) rfl
theorem lm_RX7_254 : Cond.methodLink RX7 254 yX7_estimate ∈ qW := qW_t (i := 767) (by decide +kernel) rfl
theorem lm_RX7_257 : Cond.methodLink RX7 257 yX3_has ∈ qW := qW_t (i := 771) (by decide +kernel) rfl
theorem lc_RX7_260 : Cond.constantLong RX7 260 (720720) ∈ qW := qW_t (i := 694) (by decide +kernel) rfl
theorem lm_RX7_262 : Cond.methodLink RX7 262 yX6_scaledMean ∈ qW := qW_t (i := 772) (by decide +kernel) rfl
theorem lm_RX7_265 : Cond.methodLink RX7 265 yX7_roundedMean ∈ qW := qW_t (i := 773) (by decide +kernel) rfl
theorem lc_RX7_269 : Cond.constantLong RX7 269 (2) ∈ qW := qW_t (i := 695) (by decide +kernel) rfl
theorem lm_RX7_271 : Cond.methodLink RX7 271 yJ9_floorDiv_f86c9 ∈ qW := qW_t (i := 696) (by decide +kernel) rfl
theorem lm_RX7_277 : Cond.methodLink RX7 277 yX7_direction ∈ qW := qW_t (i := 782) (by decide +kernel) rfl
theorem lm_RX7_280 : Cond.methodLink RX7 280 yX3_countPairs ∈ qW := qW_t (i := 789) (by decide +kernel) rfl
theorem lm_RX7_283 : Cond.methodLink RX7 283 yX3_countMissing ∈ qW := qW_t (i := 794) (by decide +kernel) rfl
theorem lf_RX8_91 : qLF RX8 91 8 7 .int := ⟨_, _, _, _, ck_8, by decide, qW_t (i := 832) (by decide +kernel) rfl, rfl, rfl, rfl⟩
theorem lf_RX8_71 : qLF RX8 71 8 8 .int := ⟨_, _, _, _, ck_8, by decide, qW_t (i := 833) (by decide +kernel) rfl, rfl, rfl, rfl⟩
theorem lg_RX8_28 : qLG RX8 28 8 11 := ⟨_, _, _, _, ck_8, by decide, qW_t (i := 836) (by decide +kernel) rfl, rfl⟩
theorem lc_RX8_83 : Cond.constant RX8 83 (99999) ∈ qW := qW_t (i := 808) (by decide +kernel) rfl
theorem lm_RX8_84 : Cond.methodLink RX8 84 yX8_rulesAre ∈ qW := qW_t (i := 809) (by decide +kernel) rfl
theorem lg_RX8_22 : qLG RX8 22 8 9 := ⟨_, _, _, _, ck_8, by decide, qW_t (i := 834) (by decide +kernel) rfl, rfl⟩
theorem lg_RX8_25 : qLG RX8 25 8 10 := ⟨_, _, _, _, ck_8, by decide, qW_t (i := 835) (by decide +kernel) rfl, rfl⟩
theorem lc_RX8_94 : Cond.constantLong RX8 94 (32) ∈ qW := qW_t (i := 923) (by decide +kernel) rfl
theorem lc_RX8_96 : Cond.constantLong RX8 96 (126) ∈ qW := qW_t (i := 924) (by decide +kernel) rfl
theorem lm_RX8_98 : Cond.methodLink RX8 98 yX8_in ∈ qW := qW_t (i := 925) (by decide +kernel) rfl
theorem lf_RX8_102 : qLF RX8 102 8 0 .int := ⟨_, _, _, _, ck_8, by decide, qW_t (i := 825) (by decide +kernel) rfl, rfl, rfl, rfl⟩
theorem lg_RX8_7 : qLG RX8 7 8 1 := ⟨_, _, _, _, ck_8, by decide, qW_t (i := 826) (by decide +kernel) rfl, rfl⟩
theorem lf_RX8_105 : qLF RX8 105 8 15 .int := ⟨_, _, _, _, ck_8, by decide, qW_t (i := 840) (by decide +kernel) rfl, rfl, rfl, rfl⟩
theorem lm_RX8_108 : Cond.methodLink RX8 108 yX8_letterAt ∈ qW := qW_t (i := 940) (by decide +kernel) rfl
theorem lc_RX8_112 : Cond.constantLong RX8 112 (48) ∈ qW := qW_t (i := 952) (by decide +kernel) rfl
theorem lc_RX8_114 : Cond.constantLong RX8 114 (57) ∈ qW := qW_t (i := 953) (by decide +kernel) rfl
theorem lc_RX8_116 : Cond.constantLong RX8 116 (97) ∈ qW := qW_t (i := 954) (by decide +kernel) rfl
theorem lc_RX8_118 : Cond.constantLong RX8 118 (115) ∈ qW := qW_t (i := 955) (by decide +kernel) rfl
theorem lm_RX8_120 : Cond.methodLink RX8 120 yX8_sign ∈ qW := qW_t (i := 948) (by decide +kernel) rfl
theorem lm_RX8_124 : Cond.methodLink RX8 124 yX8_ends ∈ qW := qW_t (i := 956) (by decide +kernel) rfl
theorem lm_RX8_75 : Cond.methodLink RX8 75 yX8_stationIs ∈ qW := qW_t (i := 813) (by decide +kernel) rfl
theorem lm_RX8_128 : Cond.methodLink RX8 128 yX8_stationItem ∈ qW := qW_t (i := 964) (by decide +kernel) rfl
theorem lm_RX8_131 : Cond.methodLink RX8 131 yX8_penaltyItem ∈ qW := qW_t (i := 968) (by decide +kernel) rfl
theorem lm_RX8_134 : Cond.methodLink RX8 134 yX8_rulesItem ∈ qW := qW_t (i := 972) (by decide +kernel) rfl
theorem lm_RX8_68 : Cond.methodLink RX8 68 yX8_empty ∈ qW := qW_t (i := 804) (by decide +kernel) rfl
theorem lm_RX8_137 : Cond.methodLink RX8 137 yX8_yearsItem ∈ qW := qW_t (i := 944) (by decide +kernel) rfl
theorem lm_RX8_140 : Cond.methodLink RX8 140 yX8_item ∈ qW := qW_t (i := 960) (by decide +kernel) rfl
theorem lm_RX8_144 : Cond.methodLink RX8 144 yX8_readAll ∈ qW := qW_t (i := 936) (by decide +kernel) rfl
theorem lm_RX8_88 : Cond.methodLink RX8 88 yX8_begin ∈ qW := qW_t (i := 821) (by decide +kernel) rfl
theorem lf_RX8_148 : qLF RX8 148 8 2 .int := ⟨_, _, _, _, ck_8, by decide, qW_t (i := 827) (by decide +kernel) rfl, rfl, rfl, rfl⟩
theorem lf_RX8_151 : qLF RX8 151 8 3 .int := ⟨_, _, _, _, ck_8, by decide, qW_t (i := 828) (by decide +kernel) rfl, rfl, rfl, rfl⟩
theorem lg_RX8_13 : qLG RX8 13 8 4 := ⟨_, _, _, _, ck_8, by decide, qW_t (i := 829) (by decide +kernel) rfl, rfl⟩
theorem lg_RX8_16 : qLG RX8 16 8 5 := ⟨_, _, _, _, ck_8, by decide, qW_t (i := 830) (by decide +kernel) rfl, rfl⟩
theorem lg_RX8_19 : qLG RX8 19 8 6 := ⟨_, _, _, _, ck_8, by decide, qW_t (i := 831) (by decide +kernel) rfl, rfl⟩
theorem lf_RX8_154 : qLF RX8 154 8 13 .int := ⟨_, _, _, _, ck_8, by decide, qW_t (i := 838) (by decide +kernel) rfl, rfl, rfl, rfl⟩
theorem lf_RX8_157 : qLF RX8 157 8 22 .boolean := ⟨_, _, _, _, ck_8, by decide, qW_t (i := 847) (by decide +kernel) rfl, rfl, rfl, rfl⟩
theorem lm_RX8_161 : Cond.methodLink RX8 161 yX8_isStation ∈ qW := qW_t (i := 984) (by decide +kernel) rfl
theorem lm_RX8_164 : Cond.methodLink RX8 164 yX8_valueOf ∈ qW := qW_t (i := 992) (by decide +kernel) rfl
theorem lc_RX8_167 : Cond.constant RX8 167 (100000) ∈ qW := qW_t (i := 999) (by decide +kernel) rfl
theorem lg_RX8_31 : qLG RX8 31 8 12 := ⟨_, _, _, _, ck_8, by decide, qW_t (i := 837) (by decide +kernel) rfl, rfl⟩
theorem lm_RX8_168 : Cond.methodLink RX8 168 yX8_note ∈ qW := qW_t (i := 1010) (by decide +kernel) rfl
theorem lm_RX8_171 : Cond.methodLink RX8 171 yX8_isYear ∈ qW := qW_t (i := 988) (by decide +kernel) rfl
theorem lm_RX8_174 : Cond.methodLink RX8 174 yX8_told ∈ qW := qW_t (i := 996) (by decide +kernel) rfl
theorem lc_RX8_177 : Cond.constantLong RX8 177 (-9999) ∈ qW := qW_t (i := 1004) (by decide +kernel) rfl
theorem lc_RX8_179 : Cond.constantLong RX8 179 (9999) ∈ qW := qW_t (i := 1005) (by decide +kernel) rfl
theorem lm_RX8_181 : Cond.methodLink RX8 181 yX8_change ∈ qW := qW_t (i := 1006) (by decide +kernel) rfl
theorem lm_RX8_184 : Cond.methodLink RX8 184 yX8_isThere ∈ qW := qW_t (i := 1018) (by decide +kernel) rfl
theorem lc_RX8_188 : Cond.constantLong RX8 188 (99999) ∈ qW := qW_t (i := 1026) (by decide +kernel) rfl
theorem lc_RX8_190 : Cond.constantLong RX8 190 (4) ∈ qW := qW_t (i := 1031) (by decide +kernel) rfl
theorem lc_RX8_192 : Cond.constantLong RX8 192 (2) ∈ qW := qW_t (i := 1032) (by decide +kernel) rfl
theorem lc_RX8_194 : Cond.constantLong RX8 194 (5) ∈ qW := qW_t (i := 1033) (by decide +kernel) rfl
theorem lc_RX8_196 : Cond.constantLong RX8 196 (20) ∈ qW := qW_t (i := 1042) (by decide +kernel) rfl
theorem lc_RX8_198 : Cond.constantLong RX8 198 (7919) ∈ qW := qW_t (i := 1043) (by decide +kernel) rfl
theorem lc_RX8_200 : Cond.constantLong RX8 200 (6151) ∈ qW := qW_t (i := 1044) (by decide +kernel) rfl
theorem lc_RX8_202 : Cond.constantLong RX8 202 (65521) ∈ qW := qW_t (i := 1045) (by decide +kernel) rfl
theorem lm_RX8_204 : Cond.methodLink RX8 204 yX8_square ∈ qW := qW_t (i := 1054) (by decide +kernel) rfl
theorem lm_RX8_207 : Cond.methodLink RX8 207 yX8_rankOf ∈ qW := qW_t (i := 1050) (by decide +kernel) rfl
theorem lm_RX8_210 : Cond.methodLink RX8 210 yX8_areTwo ∈ qW := qW_t (i := 1062) (by decide +kernel) rfl
theorem lm_RX8_213 : Cond.methodLink RX8 213 yX8_isPair ∈ qW := qW_t (i := 1066) (by decide +kernel) rfl
theorem lf_RX8_216 : qLF RX8 216 8 16 .int := ⟨_, _, _, _, ck_8, by decide, qW_t (i := 841) (by decide +kernel) rfl, rfl, rfl, rfl⟩
theorem lg_RX8_37 : qLG RX8 37 8 17 := ⟨_, _, _, _, ck_8, by decide, qW_t (i := 842) (by decide +kernel) rfl, rfl⟩
theorem lg_RX8_41 : qLG RX8 41 8 18 := ⟨_, _, _, _, ck_8, by decide, qW_t (i := 843) (by decide +kernel) rfl, rfl⟩
theorem lm_RX8_219 : Cond.methodLink RX8 219 yX8_sumOf ∈ qW := qW_t (i := 1091) (by decide +kernel) rfl
theorem lc_RX8_223 : Cond.constantLong RX8 223 (720720) ∈ qW := qW_t (i := 1095) (by decide +kernel) rfl
theorem lc_RX8_225 : Cond.constant RX8 225 (720720) ∈ qW := qW_t (i := 1096) (by decide +kernel) rfl
theorem lm_RX8_226 : Cond.methodLink RX8 226 yX8_rowOf ∈ qW := qW_t (i := 1074) (by decide +kernel) rfl
theorem lg_RX8_44 : qLG RX8 44 8 19 := ⟨_, _, _, _, ck_8, by decide, qW_t (i := 844) (by decide +kernel) rfl, rfl⟩
theorem lc_RX8_229 : Cond.constantLong RX8 229 (1152921504606846976) ∈ qW := qW_t (i := 1109) (by decide +kernel) rfl
theorem lm_RX8_231 : Cond.methodLink RX8 231 yX8_spreadOf ∈ qW := qW_t (i := 1087) (by decide +kernel) rfl
theorem lm_RX8_234 : Cond.methodLink RX8 234 yX8_learn ∈ qW := qW_t (i := 1105) (by decide +kernel) rfl
theorem lm_RX8_237 : Cond.methodLink RX8 237 yX8_breaksBy ∈ qW := qW_t (i := 1110) (by decide +kernel) rfl
theorem lf_RX8_240 : qLF RX8 240 8 20 .int := ⟨_, _, _, _, ck_8, by decide, qW_t (i := 845) (by decide +kernel) rfl, rfl, rfl, rfl⟩
theorem lg_RX8_47 : qLG RX8 47 8 21 := ⟨_, _, _, _, ck_8, by decide, qW_t (i := 846) (by decide +kernel) rfl, rfl⟩
theorem lc_RX8_243 : Cond.constantLong RX8 243 (-1) ∈ qW := qW_t (i := 1086) (by decide +kernel) rfl
theorem lm_RX8_245 : Cond.methodLink RX8 245 yX8_findBest ∈ qW := qW_t (i := 1101) (by decide +kernel) rfl
theorem lc_RX8_248 : Cond.constantLong RX8 248 (-4) ∈ qW := qW_t (i := 1122) (by decide +kernel) rfl
theorem lg_RX8_50 : qLG RX8 50 8 23 := ⟨_, _, _, _, ck_8, by decide, qW_t (i := 848) (by decide +kernel) rfl, rfl⟩
theorem lg_RX8_53 : qLG RX8 53 8 24 := ⟨_, _, _, _, ck_8, by decide, qW_t (i := 849) (by decide +kernel) rfl, rfl⟩
theorem lm_RX8_250 : Cond.methodLink RX8 250 yX8_has ∈ qW := qW_t (i := 1147) (by decide +kernel) rfl
theorem lg_RX8_56 : qLG RX8 56 8 26 := ⟨_, _, _, _, ck_8, by decide, qW_t (i := 851) (by decide +kernel) rfl, rfl⟩
theorem lf_RX8_253 : qLF RX8 253 8 25 .int := ⟨_, _, _, _, ck_8, by decide, qW_t (i := 850) (by decide +kernel) rfl, rfl, rfl, rfl⟩
theorem lg_RX8_59 : qLG RX8 59 8 27 := ⟨_, _, _, _, ck_8, by decide, qW_t (i := 852) (by decide +kernel) rfl, rfl⟩
theorem lg_RX8_65 : qLG RX8 65 8 29 := ⟨_, _, _, _, ck_8, by decide, qW_t (i := 854) (by decide +kernel) rfl, rfl⟩
theorem lm_RX8_256 : Cond.methodLink RX8 256 yX8_withWhom ∈ qW := qW_t (i := 1143) (by decide +kernel) rfl
theorem lg_RX8_62 : qLG RX8 62 8 28 := ⟨_, _, _, _, ck_8, by decide, qW_t (i := 853) (by decide +kernel) rfl, rfl⟩
theorem lm_RX8_260 : Cond.methodLink RX8 260 yX8_ones ∈ qW := qW_t (i := 1150) (by decide +kernel) rfl
theorem lm_RX8_263 : Cond.methodLink RX8 263 yX8_findBreaks ∈ qW := qW_t (i := 1139) (by decide +kernel) rfl
theorem lm_RX8_266 : Cond.methodLink RX8 266 yX8_finds ∈ qW := qW_t (i := 1153) (by decide +kernel) rfl
theorem lm_RX8_269 : Cond.methodLink RX8 269 yX8_know ∈ qW := qW_t (i := 1135) (by decide +kernel) rfl
theorem lm_RX8_272 : Cond.methodLink RX8 272 yX8_rises ∈ qW := qW_t (i := 1166) (by decide +kernel) rfl
theorem lm_RX8_276 : Cond.methodLink RX8 276 yX8_nearestOf ∈ qW := qW_t (i := 1170) (by decide +kernel) rfl
theorem lc_RX8_280 : Cond.constantLong RX8 280 (3) ∈ qW := qW_t (i := 1161) (by decide +kernel) rfl
theorem lm_RX8_282 : Cond.methodLink RX8 282 yX8_sizeOf ∈ qW := qW_t (i := 1162) (by decide +kernel) rfl
theorem lg_RX8_34 : qLG RX8 34 8 14 := ⟨_, _, _, _, ck_8, by decide, qW_t (i := 839) (by decide +kernel) rfl, rfl⟩
theorem lm_RX8_285 : Cond.methodLink RX8 285 yX8_mend ∈ qW := qW_t (i := 1181) (by decide +kernel) rfl
theorem lf_RX8_288 : qLF RX8 288 8 30 .int := ⟨_, _, _, _, ck_8, by decide, qW_t (i := 855) (by decide +kernel) rfl, rfl, rfl, rfl⟩
theorem lm_RX8_291 : Cond.methodLink RX8 291 yX8_canMake ∈ qW := qW_t (i := 1190) (by decide +kernel) rfl
theorem lm_RX8_294 : Cond.methodLink RX8 294 yX8_pairs ∈ qW := qW_t (i := 1206) (by decide +kernel) rfl
theorem lm_RX8_297 : Cond.methodLink RX8 297 yX8_missing ∈ qW := qW_t (i := 1210) (by decide +kernel) rfl
