theorem be_X7_feed_6 (M : am_M) : am_ev am_PP nX7_feed 6 [] [] M =
    some ((-3), M) := (am_blk am_PP _ _ _ _ _).trans rfl
set_option maxRecDepth 100000 in
set_option maxHeartbeats 8000000 in
theorem be_X7_feed_7 (M : am_M) (l0 l1 l2 : Int) : am_ev am_PP nX7_feed 7 [l0, l1, l2] [] M =
    (am_gf 7 6 M l0).bind fun v1 =>
    (am_gf 7 5 M l0).bind fun v2 =>
    (am_ald 0 M v2 l1).bind fun v3 =>
    (am_ast 1 M v1 (am_w32 ((am_w32 (200 * l1)) + v3)) l2).bind fun M1 =>
    (am_gf 7 5 M1 l0).bind fun v4 =>
    (am_ald 0 M1 v4 l1).bind fun v5 =>
    (am_ast 0 M1 v4 l1 (am_w32 (v5 + 1))).bind fun M2 =>
    (am_gf 7 5 M2 l0).bind fun v6 =>
    (am_ald 0 M2 v6 l1).bind fun v7 =>
    some (v7, M2) := (am_blk am_PP _ _ _ _ _).trans rfl
theorem be_X7_isStep_m (M : am_M) (a0 a1 a2 : Int) : am_evm am_PP nX7_isStep [(0, a0), (0, a1), (0, a2)] M = am_ev am_PP nX7_isStep 0 [a0, a1, a2] [] M := rfl
theorem be_X7_isStep_0 (M : am_M) (l0 l1 l2 : Int) : am_ev am_PP nX7_isStep 0 [l0, l1, l2] [] M =
    bif decide (l0 = 0) then am_ev am_PP nX7_isStep 1 [l1, l2] [] M else
    bif decide (l0 = 1) then am_ev am_PP nX7_isStep 1 [l1, l2] [] M else
    bif decide (l0 = 2) then am_ev am_PP nX7_isStep 6 [l1] [] M else
    bif decide (l0 = 3) then am_ev am_PP nX7_isStep 7 [l1, l2] [] M else
    bif decide (l0 = 4) then am_ev am_PP nX7_isStep 7 [l1, l2] [] M else
    bif decide (l0 = 5) then am_ev am_PP nX7_isStep 12 [l1, l2] [] M else
    bif decide (l0 = 6) then am_ev am_PP nX7_isStep 1 [l1, l2] [] M else
    am_ev am_PP nX7_isStep 17 [l0] [] M := (am_blk am_PP _ _ _ _ _).trans rfl
theorem be_X7_isStep_1 (M : am_M) (l1 l2 : Int) : am_ev am_PP nX7_isStep 1 [l1, l2] [] M =
    (am_evm am_PP nX7_in [(1, l1), (1, 0), (1, 1)] M).bind fun q1 =>
    bif decide (q1.1 = 0) then am_ev am_PP nX7_isStep 4 [] [] q1.2
    else am_ev am_PP nX7_isStep 2 [l2] [] q1.2 := (am_blk am_PP _ _ _ _ _).trans rfl
theorem be_X7_isStep_2 (M : am_M) (l2 : Int) : am_ev am_PP nX7_isStep 2 [l2] [] M =
    (am_evm am_PP nX7_in [(1, l2), (1, 0), (1, 3)] M).bind fun q1 =>
    bif decide (q1.1 = 0) then am_ev am_PP nX7_isStep 4 [] [] q1.2
    else am_ev am_PP nX7_isStep 3 [] [] q1.2 := (am_blk am_PP _ _ _ _ _).trans rfl
theorem be_X7_isStep_3 (M : am_M) : am_ev am_PP nX7_isStep 3 [] [] M =
    am_ev am_PP nX7_isStep 5 [] [(0, 1)] M := (am_blk am_PP _ _ _ _ _).trans rfl
theorem be_X7_isStep_4 (M : am_M) : am_ev am_PP nX7_isStep 4 [] [] M =
    am_ev am_PP nX7_isStep 5 [] [(0, 0)] M := (am_blk am_PP _ _ _ _ _).trans rfl
theorem be_X7_isStep_5 (M : am_M) (s0 : Int) : am_ev am_PP nX7_isStep 5 [] [(0, s0)] M =
    if s0 = 0 ∨ s0 = 1 then some (s0, M) else none := (am_blk am_PP _ _ _ _ _).trans rfl
theorem be_X7_isStep_6 (M : am_M) (l1 : Int) : am_ev am_PP nX7_isStep 6 [l1] [] M =
    (am_evm am_PP nX7_in [(1, l1), (1, 0), (1, 3)] M).bind fun q1 =>
    if q1.1 = 0 ∨ q1.1 = 1 then some (q1.1, q1.2) else none := (am_blk am_PP _ _ _ _ _).trans rfl
theorem be_X7_isStep_7 (M : am_M) (l1 l2 : Int) : am_ev am_PP nX7_isStep 7 [l1, l2] [] M =
    (am_evm am_PP nX7_in [(1, l1), (1, 0), (1, 3)] M).bind fun q1 =>
    bif decide (q1.1 = 0) then am_ev am_PP nX7_isStep 10 [] [] q1.2
    else am_ev am_PP nX7_isStep 8 [l2] [] q1.2 := (am_blk am_PP _ _ _ _ _).trans rfl
theorem be_X7_isStep_8 (M : am_M) (l2 : Int) : am_ev am_PP nX7_isStep 8 [l2] [] M =
    (am_evm am_PP nX7_in [(1, l2), (1, 0), (1, 3)] M).bind fun q1 =>
    bif decide (q1.1 = 0) then am_ev am_PP nX7_isStep 10 [] [] q1.2
    else am_ev am_PP nX7_isStep 9 [] [] q1.2 := (am_blk am_PP _ _ _ _ _).trans rfl
theorem be_X7_isStep_9 (M : am_M) : am_ev am_PP nX7_isStep 9 [] [] M =
    am_ev am_PP nX7_isStep 11 [] [(0, 1)] M := (am_blk am_PP _ _ _ _ _).trans rfl
theorem be_X7_isStep_10 (M : am_M) : am_ev am_PP nX7_isStep 10 [] [] M =
    am_ev am_PP nX7_isStep 11 [] [(0, 0)] M := (am_blk am_PP _ _ _ _ _).trans rfl
theorem be_X7_isStep_11 (M : am_M) (s0 : Int) : am_ev am_PP nX7_isStep 11 [] [(0, s0)] M =
    if s0 = 0 ∨ s0 = 1 then some (s0, M) else none := (am_blk am_PP _ _ _ _ _).trans rfl
theorem be_X7_isStep_12 (M : am_M) (l1 l2 : Int) : am_ev am_PP nX7_isStep 12 [l1, l2] [] M =
    (am_evm am_PP nX7_in [(1, l1), (1, 0), (1, 11)] M).bind fun q1 =>
    bif decide (q1.1 = 0) then am_ev am_PP nX7_isStep 15 [] [] q1.2
    else am_ev am_PP nX7_isStep 13 [l2] [] q1.2 := (am_blk am_PP _ _ _ _ _).trans rfl
theorem be_X7_isStep_13 (M : am_M) (l2 : Int) : am_ev am_PP nX7_isStep 13 [l2] [] M =
    (am_evm am_PP nX7_in [(1, l2), (1, 0), (1, 3)] M).bind fun q1 =>
    bif decide (q1.1 = 0) then am_ev am_PP nX7_isStep 15 [] [] q1.2
    else am_ev am_PP nX7_isStep 14 [] [] q1.2 := (am_blk am_PP _ _ _ _ _).trans rfl
theorem be_X7_isStep_14 (M : am_M) : am_ev am_PP nX7_isStep 14 [] [] M =
    am_ev am_PP nX7_isStep 16 [] [(0, 1)] M := (am_blk am_PP _ _ _ _ _).trans rfl
theorem be_X7_isStep_15 (M : am_M) : am_ev am_PP nX7_isStep 15 [] [] M =
    am_ev am_PP nX7_isStep 16 [] [(0, 0)] M := (am_blk am_PP _ _ _ _ _).trans rfl
theorem be_X7_isStep_16 (M : am_M) (s0 : Int) : am_ev am_PP nX7_isStep 16 [] [(0, s0)] M =
    if s0 = 0 ∨ s0 = 1 then some (s0, M) else none := (am_blk am_PP _ _ _ _ _).trans rfl
theorem be_X7_isStep_17 (M : am_M) (l0 : Int) : am_ev am_PP nX7_isStep 17 [l0] [] M =
    bif !(decide (l0 = 7)) then am_ev am_PP nX7_isStep 19 [] [] M
    else am_ev am_PP nX7_isStep 18 [] [] M := (am_blk am_PP _ _ _ _ _).trans rfl
theorem be_X7_isStep_18 (M : am_M) : am_ev am_PP nX7_isStep 18 [] [] M =
    am_ev am_PP nX7_isStep 20 [] [(0, 1)] M := (am_blk am_PP _ _ _ _ _).trans rfl
theorem be_X7_isStep_19 (M : am_M) : am_ev am_PP nX7_isStep 19 [] [] M =
    am_ev am_PP nX7_isStep 20 [] [(0, 0)] M := (am_blk am_PP _ _ _ _ _).trans rfl
theorem be_X7_isStep_20 (M : am_M) (s0 : Int) : am_ev am_PP nX7_isStep 20 [] [(0, s0)] M =
    if s0 = 0 ∨ s0 = 1 then some (s0, M) else none := (am_blk am_PP _ _ _ _ _).trans rfl
theorem be_X7_step_m (M : am_M) (a0 a1 a2 a3 a4 : Int) : am_evm am_PP nX7_step [(2, a0), (0, a1), (0, a2), (0, a3), (0, a4)] M = am_ev am_PP nX7_step 0 [a0, a1, a2, a3, a4] [] M := rfl
theorem be_X7_step_0 (M : am_M) (l0 l1 l2 l3 l4 : Int) : am_ev am_PP nX7_step 0 [l0, l1, l2, l3, l4] [] M =
    if 0 < l0 ∧ am_cls l0 = 7 then
    (am_evm am_PP nX7_isWeaver [(2, l0), (0, l1)] M).bind fun q1 =>
    bif decide (q1.1 = 0) then am_ev am_PP nX7_step 3 [] [] q1.2
    else am_ev am_PP nX7_step 1 [l0, l1, l2, l3, l4] [] q1.2
    else none := (am_blk am_PP _ _ _ _ _).trans rfl
theorem be_X7_step_1 (M : am_M) (l0 l1 l2 l3 l4 : Int) : am_ev am_PP nX7_step 1 [l0, l1, l2, l3, l4] [] M =
    (am_gf 7 1 M l0).bind fun v1 =>
    (am_ald 0 M v1 l1).bind fun v2 =>
    bif !(decide (v2 = 13)) then am_ev am_PP nX7_step 3 [] [] M
    else am_ev am_PP nX7_step 2 [l0, l1, l2, l3, l4] [] M := (am_blk am_PP _ _ _ _ _).trans rfl
theorem be_X7_step_2 (M : am_M) (l0 l1 l2 l3 l4 : Int) : am_ev am_PP nX7_step 2 [l0, l1, l2, l3, l4] [] M =
    (am_evm am_PP nX7_isStep [(0, l2), (0, l3), (0, l4)] M).bind fun q1 =>
    bif !(decide (q1.1 = 0)) then am_ev am_PP nX7_step 4 [l0, l1, l2, l3, l4] [] q1.2
    else am_ev am_PP nX7_step 3 [] [] q1.2 := (am_blk am_PP _ _ _ _ _).trans rfl
theorem be_X7_step_3 (M : am_M) : am_ev am_PP nX7_step 3 [] [] M =
    some ((-1), M) := (am_blk am_PP _ _ _ _ _).trans rfl
theorem be_X7_step_4 (M : am_M) (l0 l1 l2 l3 l4 : Int) : am_ev am_PP nX7_step 4 [l0, l1, l2, l3, l4] [] M =
    (am_gf 7 17 M l0).bind fun v1 =>
    bif decide (v1 = 0) then am_ev am_PP nX7_step 6 [l0, l1, l2, l3, l4] [] M
    else am_ev am_PP nX7_step 5 [] [] M := (am_blk am_PP _ _ _ _ _).trans rfl
theorem be_X7_step_5 (M : am_M) : am_ev am_PP nX7_step 5 [] [] M =
    some ((-2), M) := (am_blk am_PP _ _ _ _ _).trans rfl
theorem be_X7_step_6 (M : am_M) (l0 l1 l2 l3 l4 : Int) : am_ev am_PP nX7_step 6 [l0, l1, l2, l3, l4] [] M =
    (am_gf 7 7 M l0).bind fun v1 =>
    (am_ald 0 M v1 l1).bind fun v2 =>
    bif !(decide (v2 = 12)) then am_ev am_PP nX7_step 8 [l0, l1, l2, l3, l4] [] M
    else am_ev am_PP nX7_step 7 [] [] M := (am_blk am_PP _ _ _ _ _).trans rfl
theorem be_X7_step_7 (M : am_M) : am_ev am_PP nX7_step 7 [] [] M =
    some ((-3), M) := (am_blk am_PP _ _ _ _ _).trans rfl
set_option maxRecDepth 100000 in
set_option maxHeartbeats 8000000 in
theorem be_X7_step_8 (M : am_M) (l0 l1 l2 l3 l4 : Int) : am_ev am_PP nX7_step 8 [l0, l1, l2, l3, l4] [] M =
    (am_gf 7 7 M l0).bind fun v1 =>
    (am_ald 0 M v1 l1).bind fun v2 =>
    (am_gf 7 8 M l0).bind fun v3 =>
    (am_ast 0 M v3 (am_w32 ((am_w32 (12 * l1)) + v2)) l2).bind fun M1 =>
    (am_gf 7 9 M1 l0).bind fun v4 =>
    (am_ast 0 M1 v4 (am_w32 ((am_w32 (12 * l1)) + v2)) l3).bind fun M2 =>
    (am_gf 7 10 M2 l0).bind fun v5 =>
    (am_ast 0 M2 v5 (am_w32 ((am_w32 (12 * l1)) + v2)) l4).bind fun M3 =>
    (am_gf 7 7 M3 l0).bind fun v6 =>
    (am_ald 0 M3 v6 l1).bind fun v7 =>
    (am_ast 0 M3 v6 l1 (am_w32 (v7 + 1))).bind fun M4 =>
    (am_gf 7 7 M4 l0).bind fun v8 =>
    (am_ald 0 M4 v8 l1).bind fun v9 =>
    some (v9, M4) := (am_blk am_PP _ _ _ _ _).trans rfl
theorem be_X7_band_m (M : am_M) (a0 a1 a2 a3 a4 a5 : Int) : am_evm am_PP nX7_band [(2, a0), (0, a1), (0, a2), (0, a3), (0, a4), (0, a5)] M = am_ev am_PP nX7_band 0 [a0, a1, a2, a3, a4, a5] [] M := rfl
theorem be_X7_band_0 (M : am_M) (l0 l1 l2 l3 l4 l5 : Int) : am_ev am_PP nX7_band 0 [l0, l1, l2, l3, l4, l5] [] M =
    if 0 < l0 ∧ am_cls l0 = 7 then
    (am_evm am_PP nX7_isWeaver [(2, l0), (0, l1)] M).bind fun q1 =>
    bif decide (q1.1 = 0) then am_ev am_PP nX7_band 5 [] [] q1.2
    else am_ev am_PP nX7_band 1 [l0, l1, l2, l3, l4, l5] [] q1.2
    else none := (am_blk am_PP _ _ _ _ _).trans rfl
theorem be_X7_band_1 (M : am_M) (l0 l1 l2 l3 l4 l5 : Int) : am_ev am_PP nX7_band 1 [l0, l1, l2, l3, l4, l5] [] M =
    if 0 < l0 ∧ am_cls l0 = 7 then
    (am_evm am_PP nX7_isWeaver [(2, l0), (0, l3)] M).bind fun q1 =>
    bif decide (q1.1 = 0) then am_ev am_PP nX7_band 5 [] [] q1.2
    else am_ev am_PP nX7_band 2 [l0, l1, l2, l3, l4, l5] [] q1.2
    else none := (am_blk am_PP _ _ _ _ _).trans rfl
theorem be_X7_band_2 (M : am_M) (l0 l1 l2 l3 l4 l5 : Int) : am_ev am_PP nX7_band 2 [l0, l1, l2, l3, l4, l5] [] M =
    (am_gf 7 1 M l0).bind fun v1 =>
    (am_ald 0 M v1 l1).bind fun v2 =>
    (am_evm am_PP nX7_outsOf [(0, v2)] M).bind fun q3 =>
    (am_evm am_PP nX7_in [(1, l2), (1, 0), (1, (am_w32 (q3.1 - 1)))] q3.2).bind fun q4 =>
    bif decide (q4.1 = 0) then am_ev am_PP nX7_band 5 [] [] q4.2
    else am_ev am_PP nX7_band 3 [l0, l1, l2, l3, l4, l5] [] q4.2 := (am_blk am_PP _ _ _ _ _).trans rfl
theorem be_X7_band_3 (M : am_M) (l0 l1 l2 l3 l4 l5 : Int) : am_ev am_PP nX7_band 3 [l0, l1, l2, l3, l4, l5] [] M =
    (am_gf 7 1 M l0).bind fun v1 =>
    (am_ald 0 M v1 l3).bind fun v2 =>
    (am_evm am_PP nX7_insOf [(0, v2)] M).bind fun q3 =>
    (am_evm am_PP nX7_in [(1, l4), (1, 0), (1, (am_w32 (q3.1 - 1)))] q3.2).bind fun q4 =>
    bif decide (q4.1 = 0) then am_ev am_PP nX7_band 5 [] [] q4.2
    else am_ev am_PP nX7_band 4 [l0, l1, l2, l3, l4, l5] [] q4.2 := (am_blk am_PP _ _ _ _ _).trans rfl
theorem be_X7_band_4 (M : am_M) (l0 l1 l2 l3 l4 l5 : Int) : am_ev am_PP nX7_band 4 [l0, l1, l2, l3, l4, l5] [] M =
    (am_evm am_PP nX7_in [(1, l5), (1, 1), (1, 50)] M).bind fun q1 =>
    bif !(decide (q1.1 = 0)) then am_ev am_PP nX7_band 6 [l0, l1, l2, l3, l4, l5] [] q1.2
    else am_ev am_PP nX7_band 5 [] [] q1.2 := (am_blk am_PP _ _ _ _ _).trans rfl
theorem be_X7_band_5 (M : am_M) : am_ev am_PP nX7_band 5 [] [] M =
    some ((-1), M) := (am_blk am_PP _ _ _ _ _).trans rfl
theorem be_X7_band_6 (M : am_M) (l0 l1 l2 l3 l4 l5 : Int) : am_ev am_PP nX7_band 6 [l0, l1, l2, l3, l4, l5] [] M =
    (am_gf 7 17 M l0).bind fun v1 =>
    bif !(decide (v1 = 0)) then am_ev am_PP nX7_band 9 [] [] M
    else am_ev am_PP nX7_band 7 [l0, l1, l2, l3, l4, l5] [] M := (am_blk am_PP _ _ _ _ _).trans rfl
theorem be_X7_band_7 (M : am_M) (l0 l1 l2 l3 l4 l5 : Int) : am_ev am_PP nX7_band 7 [l0, l1, l2, l3, l4, l5] [] M =
    (am_gf 7 4 M l0).bind fun v1 =>
    (am_ald 0 M v1 (am_w32 ((am_w32 (2 * l1)) + l2))).bind fun v2 =>
    bif decide (0 ≤ v2) then am_ev am_PP nX7_band 9 [] [] M
    else am_ev am_PP nX7_band 8 [l0, l1, l2, l3, l4, l5] [] M := (am_blk am_PP _ _ _ _ _).trans rfl
theorem be_X7_band_8 (M : am_M) (l0 l1 l2 l3 l4 l5 : Int) : am_ev am_PP nX7_band 8 [l0, l1, l2, l3, l4, l5] [] M =
    (am_gf 7 3 M l0).bind fun v1 =>
    (am_ald 0 M v1 (am_w32 ((am_w32 (3 * l3)) + l4))).bind fun v2 =>
    bif decide (v2 < 0) then am_ev am_PP nX7_band 10 [l0, l1, l2, l3, l4, l5] [] M
    else am_ev am_PP nX7_band 9 [] [] M := (am_blk am_PP _ _ _ _ _).trans rfl
theorem be_X7_band_9 (M : am_M) : am_ev am_PP nX7_band 9 [] [] M =
    some ((-2), M) := (am_blk am_PP _ _ _ _ _).trans rfl
theorem be_X7_band_10 (M : am_M) (l0 l1 l2 l3 l4 l5 : Int) : am_ev am_PP nX7_band 10 [l0, l1, l2, l3, l4, l5] [] M =
    (am_gf 7 11 M l0).bind fun v1 =>
    bif !(decide (v1 = 60)) then am_ev am_PP nX7_band 12 [l0, l1, l2, l3, l4, l5] [] M
    else am_ev am_PP nX7_band 11 [] [] M := (am_blk am_PP _ _ _ _ _).trans rfl
theorem be_X7_band_11 (M : am_M) : am_ev am_PP nX7_band 11 [] [] M =
    some ((-3), M) := (am_blk am_PP _ _ _ _ _).trans rfl
set_option maxRecDepth 100000 in
set_option maxHeartbeats 8000000 in
theorem be_X7_band_12 (M : am_M) (l0 l1 l2 l3 l4 l5 : Int) : am_ev am_PP nX7_band 12 [l0, l1, l2, l3, l4, l5] [] M =
    (am_gf 7 11 M l0).bind fun v1 =>
    (am_gf 7 12 M l0).bind fun v2 =>
    (am_ast 0 M v2 v1 l1).bind fun M1 =>
    (am_gf 7 13 M1 l0).bind fun v3 =>
    (am_ast 0 M1 v3 v1 l3).bind fun M2 =>
    (am_gf 7 14 M2 l0).bind fun v4 =>
    (am_ast 0 M2 v4 v1 l2).bind fun M3 =>
    (am_gf 7 15 M3 l0).bind fun v5 =>
    (am_ast 0 M3 v5 v1 l4).bind fun M4 =>
    (am_gf 7 16 M4 l0).bind fun v6 =>
    (am_ast 0 M4 v6 v1 l5).bind fun M5 =>
    (am_gf 7 4 M5 l0).bind fun v7 =>
    (am_ast 0 M5 v7 (am_w32 ((am_w32 (2 * l1)) + l2)) v1).bind fun M6 =>
    (am_gf 7 3 M6 l0).bind fun v8 =>
    (am_ast 0 M6 v8 (am_w32 ((am_w32 (3 * l3)) + l4)) v1).bind fun M7 =>
    (am_gf 7 11 M7 l0).bind fun v9 =>
    (am_pf 7 11 0 M7 l0 (am_w32 (v9 + 1))).bind fun M8 =>
    some (v1, M8) := (am_blk am_PP _ _ _ _ _).trans rfl
theorem be_X7_isBand_m (M : am_M) (a0 a1 : Int) : am_evm am_PP nX7_isBand [(2, a0), (0, a1)] M = am_ev am_PP nX7_isBand 0 [a0, a1] [] M := rfl
theorem be_X7_isBand_0 (M : am_M) (l0 l1 : Int) : am_ev am_PP nX7_isBand 0 [l0, l1] [] M =
    (am_gf 7 11 M l0).bind fun v1 =>
    (am_evm am_PP nX7_in [(1, l1), (1, 0), (1, (am_w32 (v1 - 1)))] M).bind fun q2 =>
    if q2.1 = 0 ∨ q2.1 = 1 then some (q2.1, q2.2) else none := (am_blk am_PP _ _ _ _ _).trans rfl
theorem be_X7_width_m (M : am_M) (a0 a1 a2 : Int) : am_evm am_PP nX7_width [(2, a0), (0, a1), (0, a2)] M = am_ev am_PP nX7_width 0 [a0, a1, a2] [] M := rfl
theorem be_X7_width_0 (M : am_M) (l0 l1 l2 : Int) : am_ev am_PP nX7_width 0 [l0, l1, l2] [] M =
    if 0 < l0 ∧ am_cls l0 = 7 then
    (am_evm am_PP nX7_isBand [(2, l0), (0, l1)] M).bind fun q1 =>
    bif decide (q1.1 = 0) then am_ev am_PP nX7_width 2 [] [] q1.2
    else am_ev am_PP nX7_width 1 [l0, l1, l2] [] q1.2
    else none := (am_blk am_PP _ _ _ _ _).trans rfl
theorem be_X7_width_1 (M : am_M) (l0 l1 l2 : Int) : am_ev am_PP nX7_width 1 [l0, l1, l2] [] M =
    (am_evm am_PP nX7_in [(1, l2), (1, 1), (1, 50)] M).bind fun q1 =>
    bif !(decide (q1.1 = 0)) then am_ev am_PP nX7_width 3 [l0, l1, l2] [] q1.2
    else am_ev am_PP nX7_width 2 [] [] q1.2 := (am_blk am_PP _ _ _ _ _).trans rfl
theorem be_X7_width_2 (M : am_M) : am_ev am_PP nX7_width 2 [] [] M =
    some ((-1), M) := (am_blk am_PP _ _ _ _ _).trans rfl
theorem be_X7_width_3 (M : am_M) (l0 l1 l2 : Int) : am_ev am_PP nX7_width 3 [l0, l1, l2] [] M =
    (am_gf 7 17 M l0).bind fun v1 =>
    bif decide (v1 = 0) then am_ev am_PP nX7_width 5 [l0, l1, l2] [] M
    else am_ev am_PP nX7_width 4 [] [] M := (am_blk am_PP _ _ _ _ _).trans rfl
theorem be_X7_width_4 (M : am_M) : am_ev am_PP nX7_width 4 [] [] M =
    some ((-2), M) := (am_blk am_PP _ _ _ _ _).trans rfl
theorem be_X7_width_5 (M : am_M) (l0 l1 l2 : Int) : am_ev am_PP nX7_width 5 [l0, l1, l2] [] M =
    (am_gf 7 16 M l0).bind fun v1 =>
    (am_ald 0 M v1 l1).bind fun v2 =>
    (am_gf 7 16 M l0).bind fun v3 =>
    (am_ast 0 M v3 l1 l2).bind fun M1 =>
    some (v2, M1) := (am_blk am_PP _ _ _ _ _).trans rfl
theorem be_X7_clear_m (M : am_M) (a0 : Int) : am_evm am_PP nX7_clear [(2, a0)] M = am_ev am_PP nX7_clear 0 [a0] [] M := rfl
theorem be_X7_clear_0 (M : am_M) (l0 : Int) : am_ev am_PP nX7_clear 0 [l0] [] M =
    (am_gf 7 0 M l0).bind fun v1 =>
    (am_pf 7 0 0 M l0 0).bind fun M1 =>
    (am_pf 7 11 0 M1 l0 0).bind fun M2 =>
    (am_pf 7 17 4 M2 l0 0).bind fun M3 =>
    some (v1, M3) := (am_blk am_PP _ _ _ _ _).trans rfl
theorem be_X7_isWhole_m (M : am_M) (a0 : Int) : am_evm am_PP nX7_isWhole [(2, a0)] M = am_ev am_PP nX7_isWhole 0 [a0] [] M := rfl
theorem be_X7_isWhole_0 (M : am_M) (l0 : Int) : am_ev am_PP nX7_isWhole 0 [l0] [] M =
    am_ev am_PP nX7_isWhole 1 [l0, 1, 0] [] M := (am_blk am_PP _ _ _ _ _).trans rfl
theorem be_X7_isWhole_1 (M : am_M) (l0 l1 l2 : Int) : am_ev am_PP nX7_isWhole 1 [l0, l1, l2] [] M =
    (am_gf 7 0 M l0).bind fun v1 =>
    bif decide (v1 ≤ l2) then am_ev am_PP nX7_isWhole 17 [l1] [] M
    else am_ev am_PP nX7_isWhole 2 [l0, l1, l2] [] M := (am_blk am_PP _ _ _ _ _).trans rfl
theorem be_X7_isWhole_2 (M : am_M) (l0 l1 l2 : Int) : am_ev am_PP nX7_isWhole 2 [l0, l1, l2] [] M =
    am_ev am_PP nX7_isWhole 3 [l0, l1, l2, 0] [] M := (am_blk am_PP _ _ _ _ _).trans rfl
theorem be_X7_isWhole_3 (M : am_M) (l0 l1 l2 l3 : Int) : am_ev am_PP nX7_isWhole 3 [l0, l1, l2, l3] [] M =
    (am_gf 7 1 M l0).bind fun v1 =>
    (am_ald 0 M v1 l2).bind fun v2 =>
    (am_evm am_PP nX7_insOf [(0, v2)] M).bind fun q3 =>
    bif decide (q3.1 ≤ l3) then am_ev am_PP nX7_isWhole 9 [l0, l1, l2] [] q3.2
    else am_ev am_PP nX7_isWhole 4 [l0, l1, l2, l3] [] q3.2 := (am_blk am_PP _ _ _ _ _).trans rfl
theorem be_X7_isWhole_4 (M : am_M) (l0 l1 l2 l3 : Int) : am_ev am_PP nX7_isWhole 4 [l0, l1, l2, l3] [] M =
    bif decide (l1 = 0) then am_ev am_PP nX7_isWhole 7 [l0, l2, l3] [] M
    else am_ev am_PP nX7_isWhole 5 [l0, l2, l3] [] M := (am_blk am_PP _ _ _ _ _).trans rfl
theorem be_X7_isWhole_5 (M : am_M) (l0 l2 l3 : Int) : am_ev am_PP nX7_isWhole 5 [l0, l2, l3] [] M =
    (am_gf 7 3 M l0).bind fun v1 =>
    (am_ald 0 M v1 (am_w32 ((am_w32 (3 * l2)) + l3))).bind fun v2 =>
    bif decide (v2 < 0) then am_ev am_PP nX7_isWhole 7 [l0, l2, l3] [] M
    else am_ev am_PP nX7_isWhole 6 [l0, l2, l3] [] M := (am_blk am_PP _ _ _ _ _).trans rfl
theorem be_X7_isWhole_6 (M : am_M) (l0 l2 l3 : Int) : am_ev am_PP nX7_isWhole 6 [l0, l2, l3] [] M =
    am_ev am_PP nX7_isWhole 8 [l0, l2, l3] [(0, 1)] M := (am_blk am_PP _ _ _ _ _).trans rfl
theorem be_X7_isWhole_7 (M : am_M) (l0 l2 l3 : Int) : am_ev am_PP nX7_isWhole 7 [l0, l2, l3] [] M =
    am_ev am_PP nX7_isWhole 8 [l0, l2, l3] [(0, 0)] M := (am_blk am_PP _ _ _ _ _).trans rfl
theorem be_X7_isWhole_8 (M : am_M) (l0 l2 l3 s0 : Int) : am_ev am_PP nX7_isWhole 8 [l0, l2, l3] [(0, s0)] M =
    am_ev am_PP nX7_isWhole 3 [l0, s0, l2, (am_w32 (l3 + 1))] [] M := (am_blk am_PP _ _ _ _ _).trans rfl
theorem be_X7_isWhole_9 (M : am_M) (l0 l1 l2 : Int) : am_ev am_PP nX7_isWhole 9 [l0, l1, l2] [] M =
    am_ev am_PP nX7_isWhole 10 [l0, l1, l2, 0] [] M := (am_blk am_PP _ _ _ _ _).trans rfl
theorem be_X7_isWhole_10 (M : am_M) (l0 l1 l2 l3 : Int) : am_ev am_PP nX7_isWhole 10 [l0, l1, l2, l3] [] M =
    (am_gf 7 1 M l0).bind fun v1 =>
    (am_ald 0 M v1 l2).bind fun v2 =>
    (am_evm am_PP nX7_outsOf [(0, v2)] M).bind fun q3 =>
    bif decide (q3.1 ≤ l3) then am_ev am_PP nX7_isWhole 16 [l0, l1, l2] [] q3.2
    else am_ev am_PP nX7_isWhole 11 [l0, l1, l2, l3] [] q3.2 := (am_blk am_PP _ _ _ _ _).trans rfl
theorem be_X7_isWhole_11 (M : am_M) (l0 l1 l2 l3 : Int) : am_ev am_PP nX7_isWhole 11 [l0, l1, l2, l3] [] M =
    bif decide (l1 = 0) then am_ev am_PP nX7_isWhole 14 [l0, l2, l3] [] M
    else am_ev am_PP nX7_isWhole 12 [l0, l2, l3] [] M := (am_blk am_PP _ _ _ _ _).trans rfl
theorem be_X7_isWhole_12 (M : am_M) (l0 l2 l3 : Int) : am_ev am_PP nX7_isWhole 12 [l0, l2, l3] [] M =
    (am_gf 7 4 M l0).bind fun v1 =>
    (am_ald 0 M v1 (am_w32 ((am_w32 (2 * l2)) + l3))).bind fun v2 =>
    bif decide (v2 < 0) then am_ev am_PP nX7_isWhole 14 [l0, l2, l3] [] M
    else am_ev am_PP nX7_isWhole 13 [l0, l2, l3] [] M := (am_blk am_PP _ _ _ _ _).trans rfl
theorem be_X7_isWhole_13 (M : am_M) (l0 l2 l3 : Int) : am_ev am_PP nX7_isWhole 13 [l0, l2, l3] [] M =
    am_ev am_PP nX7_isWhole 15 [l0, l2, l3] [(0, 1)] M := (am_blk am_PP _ _ _ _ _).trans rfl
theorem be_X7_isWhole_14 (M : am_M) (l0 l2 l3 : Int) : am_ev am_PP nX7_isWhole 14 [l0, l2, l3] [] M =
    am_ev am_PP nX7_isWhole 15 [l0, l2, l3] [(0, 0)] M := (am_blk am_PP _ _ _ _ _).trans rfl
theorem be_X7_isWhole_15 (M : am_M) (l0 l2 l3 s0 : Int) : am_ev am_PP nX7_isWhole 15 [l0, l2, l3] [(0, s0)] M =
    am_ev am_PP nX7_isWhole 10 [l0, s0, l2, (am_w32 (l3 + 1))] [] M := (am_blk am_PP _ _ _ _ _).trans rfl
theorem be_X7_isWhole_16 (M : am_M) (l0 l1 l2 : Int) : am_ev am_PP nX7_isWhole 16 [l0, l1, l2] [] M =
    am_ev am_PP nX7_isWhole 1 [l0, l1, (am_w32 (l2 + 1))] [] M := (am_blk am_PP _ _ _ _ _).trans rfl
theorem be_X7_isWhole_17 (M : am_M) (l1 : Int) : am_ev am_PP nX7_isWhole 17 [l1] [] M =
    if l1 = 0 ∨ l1 = 1 then some (l1, M) else none := (am_blk am_PP _ _ _ _ _).trans rfl
theorem be_X7_begin_m (M : am_M) (a0 : Int) : am_evm am_PP nX7_begin [(2, a0)] M = am_ev am_PP nX7_begin 0 [a0] [] M := rfl
theorem be_X7_begin_0 (M : am_M) (l0 : Int) : am_ev am_PP nX7_begin 0 [l0] [] M =
    (am_pf 7 17 4 M l0 1).bind fun M1 =>
    (am_pf 7 42 0 M1 l0 0).bind fun M2 =>
    (am_pf 7 43 0 M2 l0 0).bind fun M3 =>
    (am_pf 7 29 0 M3 l0 0).bind fun M4 =>
    am_ev am_PP nX7_begin 1 [l0, 0] [] M4 := (am_blk am_PP _ _ _ _ _).trans rfl
theorem be_X7_begin_1 (M : am_M) (l0 l1 : Int) : am_ev am_PP nX7_begin 1 [l0, l1] [] M =
    (am_gf 7 11 M l0).bind fun v1 =>
    bif decide (v1 ≤ l1) then am_ev am_PP nX7_begin 3 [l0] [] M
    else am_ev am_PP nX7_begin 2 [l0, l1] [] M := (am_blk am_PP _ _ _ _ _).trans rfl
set_option maxRecDepth 100000 in
set_option maxHeartbeats 8000000 in
theorem be_X7_begin_2 (M : am_M) (l0 l1 : Int) : am_ev am_PP nX7_begin 2 [l0, l1] [] M =
    (am_gf 7 18 M l0).bind fun v1 =>
    (am_gf 7 16 M l0).bind fun v2 =>
    (am_ald 0 M v2 l1).bind fun v3 =>
    (am_ast 0 M v1 l1 v3).bind fun M1 =>
    (am_gf 7 19 M1 l0).bind fun v4 =>
    (am_ast 0 M1 v4 l1 0).bind fun M2 =>
    (am_gf 7 20 M2 l0).bind fun v5 =>
    (am_ast 0 M2 v5 l1 0).bind fun M3 =>
    (am_gf 7 21 M3 l0).bind fun v6 =>
    (am_ast 0 M3 v6 l1 0).bind fun M4 =>
    (am_gf 7 22 M4 l0).bind fun v7 =>
    (am_ast 0 M4 v7 l1 0).bind fun M5 =>
    (am_gf 7 23 M5 l0).bind fun v8 =>
    (am_ast 1 M5 v8 l1 7).bind fun M6 =>
    (am_gf 7 24 M6 l0).bind fun v9 =>
    (am_ast 0 M6 v9 l1 (-1)).bind fun M7 =>
    (am_gf 7 25 M7 l0).bind fun v10 =>
    (am_ast 0 M7 v10 l1 (-1)).bind fun M8 =>
    (am_gf 7 26 M8 l0).bind fun v11 =>
    (am_ast 0 M8 v11 l1 (-1)).bind fun M9 =>
    am_ev am_PP nX7_begin 1 [l0, (am_w32 (l1 + 1))] [] M9 := (am_blk am_PP _ _ _ _ _).trans rfl
theorem be_X7_begin_3 (M : am_M) (l0 : Int) : am_ev am_PP nX7_begin 3 [l0] [] M =
    am_ev am_PP nX7_begin 4 [l0, 0] [] M := (am_blk am_PP _ _ _ _ _).trans rfl
theorem be_X7_begin_4 (M : am_M) (l0 l1 : Int) : am_ev am_PP nX7_begin 4 [l0, l1] [] M =
    (am_gf 7 0 M l0).bind fun v1 =>
    bif decide (v1 ≤ l1) then am_ev am_PP nX7_begin 15 [] [] M
    else am_ev am_PP nX7_begin 5 [l0, l1] [] M := (am_blk am_PP _ _ _ _ _).trans rfl
theorem be_X7_begin_5 (M : am_M) (l0 l1 : Int) : am_ev am_PP nX7_begin 5 [l0, l1] [] M =
    (am_gf 7 30 M l0).bind fun v1 =>
    (am_ast 0 M v1 l1 0).bind fun M1 =>
    (am_gf 7 31 M1 l0).bind fun v2 =>
    (am_gf 7 1 M1 l0).bind fun v3 =>
    (am_ald 0 M1 v3 l1).bind fun v4 =>
    bif !(decide (v4 = 3)) then am_ev am_PP nX7_begin 7 [l0, l1] [(0, l1), (2, v2)] M1
    else am_ev am_PP nX7_begin 6 [l0, l1] [(0, l1), (2, v2)] M1 := (am_blk am_PP _ _ _ _ _).trans rfl
theorem be_X7_begin_6 (M : am_M) (l0 l1 s0 s1 : Int) : am_ev am_PP nX7_begin 6 [l0, l1] [(0, s1), (2, s0)] M =
    am_ev am_PP nX7_begin 8 [l0, l1] [(0, 2), (0, s1), (2, s0)] M := (am_blk am_PP _ _ _ _ _).trans rfl
theorem be_X7_begin_7 (M : am_M) (l0 l1 s0 s1 : Int) : am_ev am_PP nX7_begin 7 [l0, l1] [(0, s1), (2, s0)] M =
    am_ev am_PP nX7_begin 8 [l0, l1] [(0, 0), (0, s1), (2, s0)] M := (am_blk am_PP _ _ _ _ _).trans rfl
theorem be_X7_begin_8 (M : am_M) (l0 l1 s0 s1 s2 : Int) : am_ev am_PP nX7_begin 8 [l0, l1] [(0, s2), (0, s1), (2, s0)] M =
    (am_ast 0 M s0 s1 s2).bind fun M1 =>
    (am_gf 7 32 M1 l0).bind fun v1 =>
    (am_gf 7 1 M1 l0).bind fun v2 =>
    (am_ald 0 M1 v2 l1).bind fun v3 =>
    bif !(decide (v3 = 3)) then am_ev am_PP nX7_begin 10 [l0, l1] [(0, l1), (2, v1)] M1
    else am_ev am_PP nX7_begin 9 [l0, l1] [(0, l1), (2, v1)] M1 := (am_blk am_PP _ _ _ _ _).trans rfl
theorem be_X7_begin_9 (M : am_M) (l0 l1 s0 s1 : Int) : am_ev am_PP nX7_begin 9 [l0, l1] [(0, s1), (2, s0)] M =
    (am_gf 7 2 M l0).bind fun v1 =>
    (am_ald 0 M v1 l1).bind fun v2 =>
    am_ev am_PP nX7_begin 11 [l0, l1] [(1, v2), (0, s1), (2, s0)] M := (am_blk am_PP _ _ _ _ _).trans rfl
theorem be_X7_begin_10 (M : am_M) (l0 l1 s0 s1 : Int) : am_ev am_PP nX7_begin 10 [l0, l1] [(0, s1), (2, s0)] M =
    am_ev am_PP nX7_begin 11 [l0, l1] [(1, 0), (0, s1), (2, s0)] M := (am_blk am_PP _ _ _ _ _).trans rfl
set_option maxRecDepth 100000 in
set_option maxHeartbeats 8000000 in
theorem be_X7_begin_11 (M : am_M) (l0 l1 s0 s1 s2 : Int) : am_ev am_PP nX7_begin 11 [l0, l1] [(1, s2), (0, s1), (2, s0)] M =
    (am_ast 1 M s0 s1 s2).bind fun M1 =>
    (am_gf 7 33 M1 l0).bind fun v1 =>
    (am_ast 1 M1 v1 l1 0).bind fun M2 =>
    (am_gf 7 34 M2 l0).bind fun v2 =>
    (am_ast 0 M2 v2 l1 0).bind fun M3 =>
    (am_gf 7 35 M3 l0).bind fun v3 =>
    (am_ast 0 M3 v3 l1 0).bind fun M4 =>
    (am_gf 7 40 M4 l0).bind fun v4 =>
    (am_ast 0 M4 v4 l1 0).bind fun M5 =>
    (am_gf 7 41 M5 l0).bind fun v5 =>
    (am_ast 0 M5 v5 l1 0).bind fun M6 =>
    am_ev am_PP nX7_begin 12 [l0, l1, 0] [] M6 := (am_blk am_PP _ _ _ _ _).trans rfl
theorem be_X7_begin_12 (M : am_M) (l0 l1 l2 : Int) : am_ev am_PP nX7_begin 12 [l0, l1, l2] [] M =
    bif decide (4 ≤ l2) then am_ev am_PP nX7_begin 14 [l0, l1] [] M
    else am_ev am_PP nX7_begin 13 [l0, l1, l2] [] M := (am_blk am_PP _ _ _ _ _).trans rfl
theorem be_X7_begin_13 (M : am_M) (l0 l1 l2 : Int) : am_ev am_PP nX7_begin 13 [l0, l1, l2] [] M =
    (am_gf 7 38 M l0).bind fun v1 =>
    (am_ast 1 M v1 (am_w32 ((am_w32 (4 * l1)) + l2)) 0).bind fun M1 =>
    am_ev am_PP nX7_begin 12 [l0, l1, (am_w32 (l2 + 1))] [] M1 := (am_blk am_PP _ _ _ _ _).trans rfl
theorem be_X7_begin_14 (M : am_M) (l0 l1 : Int) : am_ev am_PP nX7_begin 14 [l0, l1] [] M =
    am_ev am_PP nX7_begin 4 [l0, (am_w32 (l1 + 1))] [] M := (am_blk am_PP _ _ _ _ _).trans rfl
theorem be_X7_begin_15 (M : am_M) : am_ev am_PP nX7_begin 15 [] [] M =
    some (0, M) := (am_blk am_PP _ _ _ _ _).trans rfl
theorem be_X7_toRead_m (M : am_M) (a0 a1 : Int) : am_evm am_PP nX7_toRead [(2, a0), (0, a1)] M = am_ev am_PP nX7_toRead 0 [a0, a1] [] M := rfl
theorem be_X7_toRead_0 (M : am_M) (l0 l1 : Int) : am_ev am_PP nX7_toRead 0 [l0, l1] [] M =
    (am_pf 7 45 0 M l0 0).bind fun M1 =>
    (am_pf 7 46 0 M1 l0 l1).bind fun M2 =>
    some (0, M2) := (am_blk am_PP _ _ _ _ _).trans rfl
theorem be_X7_toWrite_m (M : am_M) (a0 a1 a2 : Int) : am_evm am_PP nX7_toWrite [(2, a0), (0, a1), (1, a2)] M = am_ev am_PP nX7_toWrite 0 [a0, a1, a2] [] M := rfl
theorem be_X7_toWrite_0 (M : am_M) (l0 l1 l2 : Int) : am_ev am_PP nX7_toWrite 0 [l0, l1, l2] [] M =
    (am_pf 7 45 0 M l0 1).bind fun M1 =>
    (am_pf 7 46 0 M1 l0 l1).bind fun M2 =>
    (am_pf 7 47 0 M2 l0 l2).bind fun M3 =>
    some (0, M3) := (am_blk am_PP _ _ _ _ _).trans rfl
theorem be_X7_toFail_m (M : am_M) (a0 a1 : Int) : am_evm am_PP nX7_toFail [(2, a0), (0, a1)] M = am_ev am_PP nX7_toFail 0 [a0, a1] [] M := rfl
theorem be_X7_toFail_0 (M : am_M) (l0 l1 : Int) : am_ev am_PP nX7_toFail 0 [l0, l1] [] M =
    (am_pf 7 45 0 M l0 3).bind fun M1 =>
    (am_pf 7 48 0 M1 l0 l1).bind fun M2 =>
    some (0, M2) := (am_blk am_PP _ _ _ _ _).trans rfl
theorem be_X7_find_m (M : am_M) (a0 a1 : Int) : am_evm am_PP nX7_find [(2, a0), (0, a1)] M = am_ev am_PP nX7_find 0 [a0, a1] [] M := rfl
theorem be_X7_find_0 (M : am_M) (l0 l1 : Int) : am_ev am_PP nX7_find 0 [l0, l1] [] M =
    (am_pf 7 45 0 M l0 2).bind fun M1 =>
    (am_gf 7 31 M1 l0).bind fun v1 =>
    (am_ald 0 M1 v1 l1).bind fun v2 =>
    bif decide (0 ≤ v2) then am_ev am_PP nX7_find 2 [l0, l1, v2] [] M1
    else am_ev am_PP nX7_find 1 [] [] M1 := (am_blk am_PP _ _ _ _ _).trans rfl
theorem be_X7_find_1 (M : am_M) : am_ev am_PP nX7_find 1 [] [] M =
    some (0, M) := (am_blk am_PP _ _ _ _ _).trans rfl
theorem be_X7_find_2 (M : am_M) (l0 l1 l2 : Int) : am_ev am_PP nX7_find 2 [l0, l1, l2] [] M =
    (am_gf 7 1 M l0).bind fun v1 =>
    (am_ald 0 M v1 l1).bind fun v2 =>
    bif decide (v2 = 0) then am_ev am_PP nX7_find 3 [l0, l1, l2] [] M else
    bif decide (v2 = 1) then am_ev am_PP nX7_find 32 [l0, l1, l2] [] M else
    bif decide (v2 = 2) then am_ev am_PP nX7_find 5 [l0, l1, l2] [] M else
    bif decide (v2 = 3) then am_ev am_PP nX7_find 32 [l0, l1, l2] [] M else
    bif decide (v2 = 4) then am_ev am_PP nX7_find 8 [l0, l1, l2] [] M else
    bif decide (v2 = 5) then am_ev am_PP nX7_find 9 [l0, l1, l2] [] M else
    bif decide (v2 = 6) then am_ev am_PP nX7_find 15 [l0, l1, l2] [] M else
    bif decide (v2 = 7) then am_ev am_PP nX7_find 18 [l0, l1, l2] [] M else
    bif decide (v2 = 8) then am_ev am_PP nX7_find 21 [l0, l1, l2] [] M else
    bif decide (v2 = 9) then am_ev am_PP nX7_find 32 [l0, l1, l2] [] M else
    bif decide (v2 = 10) then am_ev am_PP nX7_find 32 [l0, l1, l2] [] M else
    bif decide (v2 = 11) then am_ev am_PP nX7_find 24 [l0, l1, l2] [] M else
    bif decide (v2 = 12) then am_ev am_PP nX7_find 25 [l0, l1, l2] [] M else
    bif decide (v2 = 13) then am_ev am_PP nX7_find 31 [l0, l1] [] M else
    am_ev am_PP nX7_find 32 [l0, l1, l2] [] M := (am_blk am_PP _ _ _ _ _).trans rfl
theorem be_X7_find_3 (M : am_M) (l0 l1 l2 : Int) : am_ev am_PP nX7_find 3 [l0, l1, l2] [] M =
    (am_gf 7 5 M l0).bind fun v1 =>
    (am_ald 0 M v1 l1).bind fun v2 =>
    bif decide (v2 ≤ l2) then am_ev am_PP nX7_find 35 [] [] M
    else am_ev am_PP nX7_find 4 [l0, l1, l2] [] M := (am_blk am_PP _ _ _ _ _).trans rfl
theorem be_X7_find_4 (M : am_M) (l0 l1 l2 : Int) : am_ev am_PP nX7_find 4 [l0, l1, l2] [] M =
    (am_gf 7 6 M l0).bind fun v1 =>
    (am_ald 1 M v1 (am_w32 ((am_w32 (200 * l1)) + l2))).bind fun v2 =>
    if 0 < l0 ∧ am_cls l0 = 7 then
    (am_evm am_PP nX7_toWrite [(2, l0), (0, 0), (1, v2)] M).bind fun q3 =>
    am_ev am_PP nX7_find 35 [] [] q3.2
    else none := (am_blk am_PP _ _ _ _ _).trans rfl
theorem be_X7_find_5 (M : am_M) (l0 l1 l2 : Int) : am_ev am_PP nX7_find 5 [l0, l1, l2] [] M =
    bif !(decide (l2 = 0)) then am_ev am_PP nX7_find 7 [l0, l1] [] M
    else am_ev am_PP nX7_find 6 [l0] [] M := (am_blk am_PP _ _ _ _ _).trans rfl
theorem be_X7_find_6 (M : am_M) (l0 : Int) : am_ev am_PP nX7_find 6 [l0] [] M =
    if 0 < l0 ∧ am_cls l0 = 7 then
    (am_evm am_PP nX7_toRead [(2, l0), (0, 0)] M).bind fun q1 =>
    am_ev am_PP nX7_find 35 [] [] q1.2
    else none := (am_blk am_PP _ _ _ _ _).trans rfl
theorem be_X7_find_7 (M : am_M) (l0 l1 : Int) : am_ev am_PP nX7_find 7 [l0, l1] [] M =
    (am_gf 7 32 M l0).bind fun v1 =>
    (am_ald 1 M v1 l1).bind fun v2 =>
    if 0 < l0 ∧ am_cls l0 = 7 then
    (am_evm am_PP nX7_toWrite [(2, l0), (0, 0), (1, v2)] M).bind fun q3 =>
    am_ev am_PP nX7_find 35 [] [] q3.2
    else none := (am_blk am_PP _ _ _ _ _).trans rfl
theorem be_X7_find_8 (M : am_M) (l0 l1 l2 : Int) : am_ev am_PP nX7_find 8 [l0, l1, l2] [] M =
    if 0 < l0 ∧ am_cls l0 = 7 then
    (am_evm am_PP nX7_findMerge [(2, l0), (0, l1), (0, l2)] M).bind fun q1 =>
    am_ev am_PP nX7_find 35 [] [] q1.2
    else none := (am_blk am_PP _ _ _ _ _).trans rfl
theorem be_X7_find_9 (M : am_M) (l0 l1 l2 : Int) : am_ev am_PP nX7_find 9 [l0, l1, l2] [] M =
    bif !(decide (l2 = 0)) then am_ev am_PP nX7_find 11 [l0, l1] [] M
    else am_ev am_PP nX7_find 10 [l0] [] M := (am_blk am_PP _ _ _ _ _).trans rfl
theorem be_X7_find_10 (M : am_M) (l0 : Int) : am_ev am_PP nX7_find 10 [l0] [] M =
    if 0 < l0 ∧ am_cls l0 = 7 then
    (am_evm am_PP nX7_toRead [(2, l0), (0, 0)] M).bind fun q1 =>
    am_ev am_PP nX7_find 35 [] [] q1.2
    else none := (am_blk am_PP _ _ _ _ _).trans rfl
theorem be_X7_find_11 (M : am_M) (l0 l1 : Int) : am_ev am_PP nX7_find 11 [l0, l1] [] M =
    (am_gf 7 32 M l0).bind fun v1 =>
    (am_ald 1 M v1 l1).bind fun v2 =>
    (am_gf 7 2 M l0).bind fun v3 =>
    (am_ald 0 M v3 l1).bind fun v4 =>
    (am_lrem v2 v4).bind fun v5 =>
    bif !(decide ((am_lcmp v5 0) = 0)) then am_ev am_PP nX7_find 13 [l0, l1] [(2, l0)] M
    else am_ev am_PP nX7_find 12 [l0, l1] [(2, l0)] M := (am_blk am_PP _ _ _ _ _).trans rfl
theorem be_X7_find_12 (M : am_M) (l0 l1 s0 : Int) : am_ev am_PP nX7_find 12 [l0, l1] [(2, s0)] M =
    am_ev am_PP nX7_find 14 [l0, l1] [(0, 0), (2, s0)] M := (am_blk am_PP _ _ _ _ _).trans rfl
theorem be_X7_find_13 (M : am_M) (l0 l1 s0 : Int) : am_ev am_PP nX7_find 13 [l0, l1] [(2, s0)] M =
    am_ev am_PP nX7_find 14 [l0, l1] [(0, 1), (2, s0)] M := (am_blk am_PP _ _ _ _ _).trans rfl
theorem be_X7_find_14 (M : am_M) (l0 l1 s0 s1 : Int) : am_ev am_PP nX7_find 14 [l0, l1] [(0, s1), (2, s0)] M =
    (am_gf 7 32 M l0).bind fun v1 =>
    (am_ald 1 M v1 l1).bind fun v2 =>
    if 0 < s0 ∧ am_cls s0 = 7 then
    (am_evm am_PP nX7_toWrite [(2, s0), (0, s1), (1, v2)] M).bind fun q3 =>
    am_ev am_PP nX7_find 35 [] [] q3.2
    else none := (am_blk am_PP _ _ _ _ _).trans rfl
theorem be_X7_find_15 (M : am_M) (l0 l1 l2 : Int) : am_ev am_PP nX7_find 15 [l0, l1, l2] [] M =
    bif decide (2 ≤ l2) then am_ev am_PP nX7_find 17 [l0, l1] [] M
    else am_ev am_PP nX7_find 16 [l0, l2] [] M := (am_blk am_PP _ _ _ _ _).trans rfl
theorem be_X7_find_16 (M : am_M) (l0 l2 : Int) : am_ev am_PP nX7_find 16 [l0, l2] [] M =
    if 0 < l0 ∧ am_cls l0 = 7 then
    (am_evm am_PP nX7_toRead [(2, l0), (0, l2)] M).bind fun q1 =>
    am_ev am_PP nX7_find 35 [] [] q1.2
    else none := (am_blk am_PP _ _ _ _ _).trans rfl
theorem be_X7_find_17 (M : am_M) (l0 l1 : Int) : am_ev am_PP nX7_find 17 [l0, l1] [] M =
    (am_gf 7 32 M l0).bind fun v1 =>
    (am_ald 1 M v1 l1).bind fun v2 =>
    (am_gf 7 33 M l0).bind fun v3 =>
    (am_ald 1 M v3 l1).bind fun v4 =>
    if 0 < l0 ∧ am_cls l0 = 7 then
    (am_evm am_PP nX7_toWrite [(2, l0), (0, 0), (1, (am_w64 (v2 + v4)))] M).bind fun q5 =>
    am_ev am_PP nX7_find 35 [] [] q5.2
    else none := (am_blk am_PP _ _ _ _ _).trans rfl
theorem be_X7_find_18 (M : am_M) (l0 l1 l2 : Int) : am_ev am_PP nX7_find 18 [l0, l1, l2] [] M =
    bif decide (3 ≤ l2) then am_ev am_PP nX7_find 20 [l0, l1] [] M
    else am_ev am_PP nX7_find 19 [l0, l2] [] M := (am_blk am_PP _ _ _ _ _).trans rfl
theorem be_X7_find_19 (M : am_M) (l0 l2 : Int) : am_ev am_PP nX7_find 19 [l0, l2] [] M =
    if 0 < l0 ∧ am_cls l0 = 7 then
    (am_evm am_PP nX7_toRead [(2, l0), (0, l2)] M).bind fun q1 =>
    am_ev am_PP nX7_find 35 [] [] q1.2
    else none := (am_blk am_PP _ _ _ _ _).trans rfl
theorem be_X7_find_20 (M : am_M) (l0 l1 : Int) : am_ev am_PP nX7_find 20 [l0, l1] [] M =
    (am_gf 7 32 M l0).bind fun v1 =>
    (am_ald 1 M v1 l1).bind fun v2 =>
    if 0 < l0 ∧ am_cls l0 = 7 then
    (am_evm am_PP nX7_toWrite [(2, l0), (0, 0), (1, v2)] M).bind fun q3 =>
    am_ev am_PP nX7_find 35 [] [] q3.2
    else none := (am_blk am_PP _ _ _ _ _).trans rfl
theorem be_X7_find_21 (M : am_M) (l0 l1 l2 : Int) : am_ev am_PP nX7_find 21 [l0, l1, l2] [] M =
    bif !(decide (l2 = 0)) then am_ev am_PP nX7_find 23 [l0, l1, l2] [] M
    else am_ev am_PP nX7_find 22 [l0] [] M := (am_blk am_PP _ _ _ _ _).trans rfl
theorem be_X7_find_22 (M : am_M) (l0 : Int) : am_ev am_PP nX7_find 22 [l0] [] M =
    if 0 < l0 ∧ am_cls l0 = 7 then
    (am_evm am_PP nX7_toRead [(2, l0), (0, 0)] M).bind fun q1 =>
    am_ev am_PP nX7_find 35 [] [] q1.2
    else none := (am_blk am_PP _ _ _ _ _).trans rfl
theorem be_X7_find_23 (M : am_M) (l0 l1 l2 : Int) : am_ev am_PP nX7_find 23 [l0, l1, l2] [] M =
    (am_gf 7 32 M l0).bind fun v1 =>
    (am_ald 1 M v1 l1).bind fun v2 =>
    if 0 < l0 ∧ am_cls l0 = 7 then
    (am_evm am_PP nX7_toWrite [(2, l0), (0, (am_w32 (l2 - 1))), (1, v2)] M).bind fun q3 =>
    am_ev am_PP nX7_find 35 [] [] q3.2
    else none := (am_blk am_PP _ _ _ _ _).trans rfl
theorem be_X7_find_24 (M : am_M) (l0 l1 l2 : Int) : am_ev am_PP nX7_find 24 [l0, l1, l2] [] M =
    if 0 < l0 ∧ am_cls l0 = 7 then
    (am_evm am_PP nX7_findSort [(2, l0), (0, l1), (0, l2)] M).bind fun q1 =>
    am_ev am_PP nX7_find 35 [] [] q1.2
    else none := (am_blk am_PP _ _ _ _ _).trans rfl
theorem be_X7_find_25 (M : am_M) (l0 l1 l2 : Int) : am_ev am_PP nX7_find 25 [l0, l1, l2] [] M =
    bif !(decide (l2 = 0)) then am_ev am_PP nX7_find 28 [l0, l1, l2] [] M
    else am_ev am_PP nX7_find 26 [l0, l1, l2] [] M := (am_blk am_PP _ _ _ _ _).trans rfl
theorem be_X7_find_26 (M : am_M) (l0 l1 l2 : Int) : am_ev am_PP nX7_find 26 [l0, l1, l2] [] M =
    (am_gf 7 34 M l0).bind fun v1 =>
    (am_ald 0 M v1 l1).bind fun v2 =>
    (am_gf 7 2 M l0).bind fun v3 =>
    (am_ald 0 M v3 l1).bind fun v4 =>
    bif !(decide (v2 = v4)) then am_ev am_PP nX7_find 28 [l0, l1, l2] [] M
    else am_ev am_PP nX7_find 27 [l0] [] M := (am_blk am_PP _ _ _ _ _).trans rfl
theorem be_X7_find_27 (M : am_M) (l0 : Int) : am_ev am_PP nX7_find 27 [l0] [] M =
    if 0 < l0 ∧ am_cls l0 = 7 then
    (am_evm am_PP nX7_toFail [(2, l0), (0, 1)] M).bind fun q1 =>
    am_ev am_PP nX7_find 35 [] [] q1.2
    else none := (am_blk am_PP _ _ _ _ _).trans rfl
theorem be_X7_find_28 (M : am_M) (l0 l1 l2 : Int) : am_ev am_PP nX7_find 28 [l0, l1, l2] [] M =
    bif !(decide (l2 = 0)) then am_ev am_PP nX7_find 30 [l0, l1] [] M
    else am_ev am_PP nX7_find 29 [l0] [] M := (am_blk am_PP _ _ _ _ _).trans rfl
theorem be_X7_find_29 (M : am_M) (l0 : Int) : am_ev am_PP nX7_find 29 [l0] [] M =
    if 0 < l0 ∧ am_cls l0 = 7 then
    (am_evm am_PP nX7_toRead [(2, l0), (0, 0)] M).bind fun q1 =>
    am_ev am_PP nX7_find 35 [] [] q1.2
    else none := (am_blk am_PP _ _ _ _ _).trans rfl
theorem be_X7_find_30 (M : am_M) (l0 l1 : Int) : am_ev am_PP nX7_find 30 [l0, l1] [] M =
    (am_gf 7 32 M l0).bind fun v1 =>
    (am_ald 1 M v1 l1).bind fun v2 =>
    if 0 < l0 ∧ am_cls l0 = 7 then
    (am_evm am_PP nX7_toWrite [(2, l0), (0, 0), (1, v2)] M).bind fun q3 =>
    am_ev am_PP nX7_find 35 [] [] q3.2
    else none := (am_blk am_PP _ _ _ _ _).trans rfl
theorem be_X7_find_31 (M : am_M) (l0 l1 : Int) : am_ev am_PP nX7_find 31 [l0, l1] [] M =
    if 0 < l0 ∧ am_cls l0 = 7 then
    (am_evm am_PP nX7_findScript [(2, l0), (0, l1)] M).bind fun q1 =>
    am_ev am_PP nX7_find 35 [] [] q1.2
    else none := (am_blk am_PP _ _ _ _ _).trans rfl
theorem be_X7_find_32 (M : am_M) (l0 l1 l2 : Int) : am_ev am_PP nX7_find 32 [l0, l1, l2] [] M =
    bif !(decide (l2 = 0)) then am_ev am_PP nX7_find 34 [l0, l1] [] M
    else am_ev am_PP nX7_find 33 [l0] [] M := (am_blk am_PP _ _ _ _ _).trans rfl
theorem be_X7_find_33 (M : am_M) (l0 : Int) : am_ev am_PP nX7_find 33 [l0] [] M =
    if 0 < l0 ∧ am_cls l0 = 7 then
    (am_evm am_PP nX7_toRead [(2, l0), (0, 0)] M).bind fun q1 =>
    am_ev am_PP nX7_find 35 [] [] q1.2
    else none := (am_blk am_PP _ _ _ _ _).trans rfl
theorem be_X7_find_34 (M : am_M) (l0 l1 : Int) : am_ev am_PP nX7_find 34 [l0, l1] [] M =
    (am_gf 7 32 M l0).bind fun v1 =>
    (am_ald 1 M v1 l1).bind fun v2 =>
    if 0 < l0 ∧ am_cls l0 = 7 then
    (am_evm am_PP nX7_toWrite [(2, l0), (0, 0), (1, v2)] M).bind fun q3 =>
    am_ev am_PP nX7_find 35 [] [] q3.2
    else none := (am_blk am_PP _ _ _ _ _).trans rfl
theorem be_X7_find_35 (M : am_M) : am_ev am_PP nX7_find 35 [] [] M =
    some (0, M) := (am_blk am_PP _ _ _ _ _).trans rfl
theorem be_X7_findMerge_m (M : am_M) (a0 a1 a2 : Int) : am_evm am_PP nX7_findMerge [(2, a0), (0, a1), (0, a2)] M = am_ev am_PP nX7_findMerge 0 [a0, a1, a2] [] M := rfl
theorem be_X7_findMerge_0 (M : am_M) (l0 l1 l2 : Int) : am_ev am_PP nX7_findMerge 0 [l0, l1, l2] [] M =
    bif !(decide ((am_and l2 5) = 0)) then am_ev am_PP nX7_findMerge 2 [l0, l1, l2] [] M
    else am_ev am_PP nX7_findMerge 1 [l0] [] M := (am_blk am_PP _ _ _ _ _).trans rfl
theorem be_X7_findMerge_1 (M : am_M) (l0 : Int) : am_ev am_PP nX7_findMerge 1 [l0] [] M =
    if 0 < l0 ∧ am_cls l0 = 7 then
    (am_evm am_PP nX7_toRead [(2, l0), (0, 0)] M).bind fun q1 =>
    am_ev am_PP nX7_findMerge 14 [] [] q1.2
    else none := (am_blk am_PP _ _ _ _ _).trans rfl
theorem be_X7_findMerge_2 (M : am_M) (l0 l1 l2 : Int) : am_ev am_PP nX7_findMerge 2 [l0, l1, l2] [] M =
    bif !(decide ((am_and l2 10) = 0)) then am_ev am_PP nX7_findMerge 4 [l0, l1, l2] [] M
    else am_ev am_PP nX7_findMerge 3 [l0] [] M := (am_blk am_PP _ _ _ _ _).trans rfl
theorem be_X7_findMerge_3 (M : am_M) (l0 : Int) : am_ev am_PP nX7_findMerge 3 [l0] [] M =
    if 0 < l0 ∧ am_cls l0 = 7 then
    (am_evm am_PP nX7_toRead [(2, l0), (0, 1)] M).bind fun q1 =>
    am_ev am_PP nX7_findMerge 14 [] [] q1.2
    else none := (am_blk am_PP _ _ _ _ _).trans rfl
theorem be_X7_findMerge_4 (M : am_M) (l0 l1 l2 : Int) : am_ev am_PP nX7_findMerge 4 [l0, l1, l2] [] M =
    bif decide ((am_and l2 3) = 0) then am_ev am_PP nX7_findMerge 14 [] [] M
    else am_ev am_PP nX7_findMerge 5 [l0, l1, l2] [] M := (am_blk am_PP _ _ _ _ _).trans rfl
theorem be_X7_findMerge_5 (M : am_M) (l0 l1 l2 : Int) : am_ev am_PP nX7_findMerge 5 [l0, l1, l2] [] M =
    bif decide ((am_and l2 1) = 0) then am_ev am_PP nX7_findMerge 9 [l0, l1] [] M
    else am_ev am_PP nX7_findMerge 6 [l0, l1, l2] [] M := (am_blk am_PP _ _ _ _ _).trans rfl
theorem be_X7_findMerge_6 (M : am_M) (l0 l1 l2 : Int) : am_ev am_PP nX7_findMerge 6 [l0, l1, l2] [] M =
    bif decide ((am_and l2 2) = 0) then am_ev am_PP nX7_findMerge 8 [l0, l1] [] M
    else am_ev am_PP nX7_findMerge 7 [l0, l1] [] M := (am_blk am_PP _ _ _ _ _).trans rfl
theorem be_X7_findMerge_7 (M : am_M) (l0 l1 : Int) : am_ev am_PP nX7_findMerge 7 [l0, l1] [] M =
    (am_gf 7 32 M l0).bind fun v1 =>
    (am_ald 1 M v1 l1).bind fun v2 =>
    (am_gf 7 33 M l0).bind fun v3 =>
    (am_ald 1 M v3 l1).bind fun v4 =>
    bif decide (0 < (am_lcmp v2 v4)) then am_ev am_PP nX7_findMerge 9 [l0, l1] [] M
    else am_ev am_PP nX7_findMerge 8 [l0, l1] [] M := (am_blk am_PP _ _ _ _ _).trans rfl
theorem be_X7_findMerge_8 (M : am_M) (l0 l1 : Int) : am_ev am_PP nX7_findMerge 8 [l0, l1] [] M =
    am_ev am_PP nX7_findMerge 10 [l0, l1] [(0, 1)] M := (am_blk am_PP _ _ _ _ _).trans rfl
theorem be_X7_findMerge_9 (M : am_M) (l0 l1 : Int) : am_ev am_PP nX7_findMerge 9 [l0, l1] [] M =
    am_ev am_PP nX7_findMerge 10 [l0, l1] [(0, 0)] M := (am_blk am_PP _ _ _ _ _).trans rfl
theorem be_X7_findMerge_10 (M : am_M) (l0 l1 s0 : Int) : am_ev am_PP nX7_findMerge 10 [l0, l1] [(0, s0)] M =
    bif decide (s0 = 0) then am_ev am_PP nX7_findMerge 12 [l0, l1] [(0, 0), (2, l0)] M
    else am_ev am_PP nX7_findMerge 11 [l0, l1] [(0, 0), (2, l0)] M := (am_blk am_PP _ _ _ _ _).trans rfl
theorem be_X7_findMerge_11 (M : am_M) (l0 l1 s0 s1 : Int) : am_ev am_PP nX7_findMerge 11 [l0, l1] [(0, s1), (2, s0)] M =
    (am_gf 7 32 M l0).bind fun v1 =>
    (am_ald 1 M v1 l1).bind fun v2 =>
    am_ev am_PP nX7_findMerge 13 [] [(1, v2), (0, s1), (2, s0)] M := (am_blk am_PP _ _ _ _ _).trans rfl
theorem be_X7_findMerge_12 (M : am_M) (l0 l1 s0 s1 : Int) : am_ev am_PP nX7_findMerge 12 [l0, l1] [(0, s1), (2, s0)] M =
    (am_gf 7 33 M l0).bind fun v1 =>
    (am_ald 1 M v1 l1).bind fun v2 =>
    am_ev am_PP nX7_findMerge 13 [] [(1, v2), (0, s1), (2, s0)] M := (am_blk am_PP _ _ _ _ _).trans rfl
theorem be_X7_findMerge_13 (M : am_M) (s0 s1 s2 : Int) : am_ev am_PP nX7_findMerge 13 [] [(1, s2), (0, s1), (2, s0)] M =
    if 0 < s0 ∧ am_cls s0 = 7 then
    (am_evm am_PP nX7_toWrite [(2, s0), (0, s1), (1, s2)] M).bind fun q1 =>
    am_ev am_PP nX7_findMerge 14 [] [] q1.2
    else none := (am_blk am_PP _ _ _ _ _).trans rfl
theorem be_X7_findMerge_14 (M : am_M) : am_ev am_PP nX7_findMerge 14 [] [] M =
    some (0, M) := (am_blk am_PP _ _ _ _ _).trans rfl
theorem be_X7_findSort_m (M : am_M) (a0 a1 a2 : Int) : am_evm am_PP nX7_findSort [(2, a0), (0, a1), (0, a2)] M = am_ev am_PP nX7_findSort 0 [a0, a1, a2] [] M := rfl
theorem be_X7_findSort_0 (M : am_M) (l0 l1 l2 : Int) : am_ev am_PP nX7_findSort 0 [l0, l1, l2] [] M =
    bif !(decide (l2 = 0)) then am_ev am_PP nX7_findSort 2 [l0, l1] [] M
    else am_ev am_PP nX7_findSort 1 [l0] [] M := (am_blk am_PP _ _ _ _ _).trans rfl
theorem be_X7_findSort_1 (M : am_M) (l0 : Int) : am_ev am_PP nX7_findSort 1 [l0] [] M =
    if 0 < l0 ∧ am_cls l0 = 7 then
    (am_evm am_PP nX7_toRead [(2, l0), (0, 0)] M).bind fun q1 =>
    am_ev am_PP nX7_findSort 4 [] [] q1.2
    else none := (am_blk am_PP _ _ _ _ _).trans rfl
