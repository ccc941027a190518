theorem be_X6_feed_6 (M : am_M) : am_ev am_PP nX6_feed 6 [] [] M =
    some ((-3), M) := (am_blk am_PP _ _ _ _ _).trans rfl
theorem be_X6_feed_7 (M : am_M) (l2 l4 : Int) : am_ev am_PP nX6_feed 7 [l2, l4] [] M =
    (am_gf 5 3 M l4).bind fun v1 =>
    if 0 < v1 ∧ am_cls v1 = 3 then
    (am_evm am_PP nX3_append [(2, v1), (1, l2)] M).bind fun q2 =>
    (am_gf 5 3 q2.2 l4).bind fun v3 =>
    (am_gf 3 1 q2.2 v3).bind fun v4 =>
    some (v4, q2.2)
    else none := (am_blk am_PP _ _ _ _ _).trans rfl
theorem be_X6_step_m (M : am_M) (a0 a1 a2 a3 a4 : Int) : am_evm am_PP nX6_step [(2, a0), (0, a1), (0, a2), (0, a3), (0, a4)] M = am_ev am_PP nX6_step 0 [a0, a1, a2, a3, a4] [] M := rfl
theorem be_X6_step_0 (M : am_M) (l0 l1 l2 l3 l4 : Int) : am_ev am_PP nX6_step 0 [l0, l1, l2, l3, l4] [] M =
    if 0 < l0 ∧ am_cls l0 = 6 then
    (am_evm am_PP nX6_weaverAt [(2, l0), (0, l1)] M).bind fun q1 =>
    bif decide (q1.1 = 0) then am_ev am_PP nX6_step 3 [] [] q1.2
    else am_ev am_PP nX6_step 1 [l0, l2, l3, l4, q1.1] [] q1.2
    else none := (am_blk am_PP _ _ _ _ _).trans rfl
theorem be_X6_step_1 (M : am_M) (l0 l2 l3 l4 l5 : Int) : am_ev am_PP nX6_step 1 [l0, l2, l3, l4, l5] [] M =
    (am_gf 5 6 M l5).bind fun v1 =>
    bif !(decide (v1 = 13)) then am_ev am_PP nX6_step 3 [] [] M
    else am_ev am_PP nX6_step 2 [l0, l2, l3, l4, l5] [] M := (am_blk am_PP _ _ _ _ _).trans rfl
theorem be_X6_step_2 (M : am_M) (l0 l2 l3 l4 l5 : Int) : am_ev am_PP nX6_step 2 [l0, l2, l3, l4, l5] [] M =
    (am_evm am_PP nX6_isStep [(0, l2), (0, l3), (0, l4)] M).bind fun q1 =>
    bif !(decide (q1.1 = 0)) then am_ev am_PP nX6_step 4 [l0, l2, l3, l4, l5] [] q1.2
    else am_ev am_PP nX6_step 3 [] [] q1.2 := (am_blk am_PP _ _ _ _ _).trans rfl
theorem be_X6_step_3 (M : am_M) : am_ev am_PP nX6_step 3 [] [] M =
    some ((-1), M) := (am_blk am_PP _ _ _ _ _).trans rfl
theorem be_X6_step_4 (M : am_M) (l0 l2 l3 l4 l5 : Int) : am_ev am_PP nX6_step 4 [l0, l2, l3, l4, l5] [] M =
    (am_gf 6 9 M l0).bind fun v1 =>
    bif decide (v1 = 0) then am_ev am_PP nX6_step 6 [l2, l3, l4, l5] [] M
    else am_ev am_PP nX6_step 5 [] [] M := (am_blk am_PP _ _ _ _ _).trans rfl
theorem be_X6_step_5 (M : am_M) : am_ev am_PP nX6_step 5 [] [] M =
    some ((-2), M) := (am_blk am_PP _ _ _ _ _).trans rfl
theorem be_X6_step_6 (M : am_M) (l2 l3 l4 l5 : Int) : am_ev am_PP nX6_step 6 [l2, l3, l4, l5] [] M =
    (am_gf 5 5 M l5).bind fun v1 =>
    (am_gf 4 4 M v1).bind fun v2 =>
    bif decide (v2 < 12) then am_ev am_PP nX6_step 8 [l2, l3, l4, l5] [] M
    else am_ev am_PP nX6_step 7 [] [] M := (am_blk am_PP _ _ _ _ _).trans rfl
theorem be_X6_step_7 (M : am_M) : am_ev am_PP nX6_step 7 [] [] M =
    some ((-3), M) := (am_blk am_PP _ _ _ _ _).trans rfl
theorem be_X6_step_8 (M : am_M) (l2 l3 l4 l5 : Int) : am_ev am_PP nX6_step 8 [l2, l3, l4, l5] [] M =
    (am_gf 5 5 M l5).bind fun v1 =>
    if 0 < v1 ∧ am_cls v1 = 4 then
    (am_evm am_PP nX4_append [(2, v1), (0, l2), (0, l3), (0, l4)] M).bind fun q2 =>
    (am_gf 5 5 q2.2 l5).bind fun v3 =>
    (am_gf 4 4 q2.2 v3).bind fun v4 =>
    some (v4, q2.2)
    else none := (am_blk am_PP _ _ _ _ _).trans rfl
theorem be_X6_band_m (M : am_M) (a0 a1 a2 a3 a4 a5 : Int) : am_evm am_PP nX6_band [(2, a0), (0, a1), (0, a2), (0, a3), (0, a4), (0, a5)] M = am_ev am_PP nX6_band 0 [a0, a1, a2, a3, a4, a5] [] M := rfl
theorem be_X6_band_0 (M : am_M) (l0 l1 l2 l3 l4 l5 : Int) : am_ev am_PP nX6_band 0 [l0, l1, l2, l3, l4, l5] [] M =
    if 0 < l0 ∧ am_cls l0 = 6 then
    (am_evm am_PP nX6_weaverAt [(2, l0), (0, l1)] M).bind fun q1 =>
    if 0 < l0 ∧ am_cls l0 = 6 then
    (am_evm am_PP nX6_weaverAt [(2, l0), (0, l3)] q1.2).bind fun q2 =>
    bif decide (q1.1 = 0) then am_ev am_PP nX6_band 7 [] [] q2.2
    else am_ev am_PP nX6_band 1 [l0, l2, l4, l5, q1.1, q2.1] [] q2.2
    else none
    else none := (am_blk am_PP _ _ _ _ _).trans rfl
theorem be_X6_band_1 (M : am_M) (l0 l2 l4 l5 l6 l7 : Int) : am_ev am_PP nX6_band 1 [l0, l2, l4, l5, l6, l7] [] M =
    bif decide (l7 = 0) then am_ev am_PP nX6_band 7 [] [] M
    else am_ev am_PP nX6_band 2 [l0, l2, l4, l5, l6, l7] [] M := (am_blk am_PP _ _ _ _ _).trans rfl
theorem be_X6_band_2 (M : am_M) (l0 l2 l4 l5 l6 l7 : Int) : am_ev am_PP nX6_band 2 [l0, l2, l4, l5, l6, l7] [] M =
    (am_evm am_PP nX6_isToldWidth [(0, l5)] M).bind fun q1 =>
    bif decide (q1.1 = 0) then am_ev am_PP nX6_band 7 [] [] q1.2
    else am_ev am_PP nX6_band 3 [l0, l2, l4, l5, l6, l7] [] q1.2 := (am_blk am_PP _ _ _ _ _).trans rfl
theorem be_X6_band_3 (M : am_M) (l0 l2 l4 l5 l6 l7 : Int) : am_ev am_PP nX6_band 3 [l0, l2, l4, l5, l6, l7] [] M =
    bif decide (l2 < 0) then am_ev am_PP nX6_band 7 [] [] M
    else am_ev am_PP nX6_band 4 [l0, l2, l4, l5, l6, l7] [] M := (am_blk am_PP _ _ _ _ _).trans rfl
theorem be_X6_band_4 (M : am_M) (l0 l2 l4 l5 l6 l7 : Int) : am_ev am_PP nX6_band 4 [l0, l2, l4, l5, l6, l7] [] M =
    (am_gf 5 6 M l6).bind fun v1 =>
    (am_ald 0 M 3 v1).bind fun v2 =>
    bif decide (v2 ≤ l2) then am_ev am_PP nX6_band 7 [] [] M
    else am_ev am_PP nX6_band 5 [l0, l2, l4, l5, l6, l7] [] M := (am_blk am_PP _ _ _ _ _).trans rfl
theorem be_X6_band_5 (M : am_M) (l0 l2 l4 l5 l6 l7 : Int) : am_ev am_PP nX6_band 5 [l0, l2, l4, l5, l6, l7] [] M =
    bif decide (l4 < 0) then am_ev am_PP nX6_band 7 [] [] M
    else am_ev am_PP nX6_band 6 [l0, l2, l4, l5, l6, l7] [] M := (am_blk am_PP _ _ _ _ _).trans rfl
theorem be_X6_band_6 (M : am_M) (l0 l2 l4 l5 l6 l7 : Int) : am_ev am_PP nX6_band 6 [l0, l2, l4, l5, l6, l7] [] M =
    (am_gf 5 6 M l7).bind fun v1 =>
    (am_ald 0 M 2 v1).bind fun v2 =>
    bif decide (l4 < v2) then am_ev am_PP nX6_band 8 [l0, l2, l4, l5, l6, l7] [] M
    else am_ev am_PP nX6_band 7 [] [] M := (am_blk am_PP _ _ _ _ _).trans rfl
theorem be_X6_band_7 (M : am_M) : am_ev am_PP nX6_band 7 [] [] M =
    some ((-1), M) := (am_blk am_PP _ _ _ _ _).trans rfl
theorem be_X6_band_8 (M : am_M) (l0 l2 l4 l5 l6 l7 : Int) : am_ev am_PP nX6_band 8 [l0, l2, l4, l5, l6, l7] [] M =
    (am_gf 6 9 M l0).bind fun v1 =>
    bif !(decide (v1 = 0)) then am_ev am_PP nX6_band 11 [] [] M
    else am_ev am_PP nX6_band 9 [l0, l2, l4, l5, l6, l7] [] M := (am_blk am_PP _ _ _ _ _).trans rfl
theorem be_X6_band_9 (M : am_M) (l0 l2 l4 l5 l6 l7 : Int) : am_ev am_PP nX6_band 9 [l0, l2, l4, l5, l6, l7] [] M =
    (am_gf 5 2 M l6).bind fun v1 =>
    (am_ald 4 M v1 l2).bind fun v2 =>
    bif !(decide (v2 = 0)) then am_ev am_PP nX6_band 11 [] [] M
    else am_ev am_PP nX6_band 10 [l0, l2, l4, l5, l6, l7] [] M := (am_blk am_PP _ _ _ _ _).trans rfl
theorem be_X6_band_10 (M : am_M) (l0 l2 l4 l5 l6 l7 : Int) : am_ev am_PP nX6_band 10 [l0, l2, l4, l5, l6, l7] [] M =
    (am_gf 5 1 M l7).bind fun v1 =>
    (am_ald 4 M v1 l4).bind fun v2 =>
    bif decide (v2 = 0) then am_ev am_PP nX6_band 12 [l0, l2, l4, l5, l6, l7] [] M
    else am_ev am_PP nX6_band 11 [] [] M := (am_blk am_PP _ _ _ _ _).trans rfl
theorem be_X6_band_11 (M : am_M) : am_ev am_PP nX6_band 11 [] [] M =
    some ((-2), M) := (am_blk am_PP _ _ _ _ _).trans rfl
theorem be_X6_band_12 (M : am_M) (l0 l2 l4 l5 l6 l7 : Int) : am_ev am_PP nX6_band 12 [l0, l2, l4, l5, l6, l7] [] M =
    (am_gf 6 5 M l0).bind fun v1 =>
    bif decide (v1 < 60) then am_ev am_PP nX6_band 14 [l0, l2, l4, l5, l6, l7] [] M
    else am_ev am_PP nX6_band 13 [] [] M := (am_blk am_PP _ _ _ _ _).trans rfl
theorem be_X6_band_13 (M : am_M) : am_ev am_PP nX6_band 13 [] [] M =
    some ((-3), M) := (am_blk am_PP _ _ _ _ _).trans rfl
theorem be_X6_band_14 (M : am_M) (l0 l2 l4 l5 l6 l7 : Int) : am_ev am_PP nX6_band 14 [l0, l2, l4, l5, l6, l7] [] M =
    (am_gf 6 1 M l0).bind fun v1 =>
    (am_gf 6 5 M l0).bind fun v2 =>
    (am_ald 4 M v1 v2).bind fun v3 =>
    bif !(decide (v3 = 0)) then am_ev am_PP nX6_band 16 [l0, l2, l4, l5, l6, l7, v3] [] M
    else am_ev am_PP nX6_band 15 [l0, l2, l4, l5, l6, l7] [] M := (am_blk am_PP _ _ _ _ _).trans rfl
theorem be_X6_band_15 (M : am_M) (l0 l2 l4 l5 l6 l7 : Int) : am_ev am_PP nX6_band 15 [l0, l2, l4, l5, l6, l7] [] M =
    (am_newo 0 M (10 + 256 * M 16 5)).bind fun M1 =>
    (am_gf 6 5 M1 l0).bind fun v1 =>
    if (10 + 256 * M 16 5) = 0 then none else
    (am_evm am_PP nX0_init [(2, (10 + 256 * M 16 5)), (0, v1)] M1).bind fun q2 =>
    (am_gf 6 1 q2.2 l0).bind fun v3 =>
    (am_gf 6 5 q2.2 l0).bind fun v4 =>
    (am_ast 4 q2.2 v3 v4 (10 + 256 * M 16 5)).bind fun M2 =>
    am_ev am_PP nX6_band 16 [l0, l2, l4, l5, l6, l7, (10 + 256 * M 16 5)] [] M2 := (am_blk am_PP _ _ _ _ _).trans rfl
set_option maxRecDepth 100000 in
set_option maxHeartbeats 8000000 in
theorem be_X6_band_16 (M : am_M) (l0 l2 l4 l5 l6 l7 l8 : Int) : am_ev am_PP nX6_band 16 [l0, l2, l4, l5, l6, l7, l8] [] M =
    if 0 < l8 ∧ am_cls l8 = 0 then
    (am_evm am_PP nX0_join [(2, l8), (2, l6), (2, l7), (0, l5)] M).bind fun q1 =>
    (am_gf 5 2 q1.2 l6).bind fun v2 =>
    (am_ast 4 q1.2 v2 l2 l8).bind fun M1 =>
    (am_gf 5 1 M1 l7).bind fun v3 =>
    (am_ast 4 M1 v3 l4 l8).bind fun M2 =>
    (am_gf 6 6 M2 l0).bind fun v4 =>
    (am_pf 6 6 0 M2 l0 (am_w32 (v4 - 2))).bind fun M3 =>
    (am_gf 6 5 M3 l0).bind fun v5 =>
    (am_pf 6 5 0 M3 l0 (am_w32 (v5 + 1))).bind fun M4 =>
    (am_gf 0 0 M4 l8).bind fun v6 =>
    some (v6, M4)
    else none := (am_blk am_PP _ _ _ _ _).trans rfl
theorem be_X6_width_m (M : am_M) (a0 a1 a2 : Int) : am_evm am_PP nX6_width [(2, a0), (0, a1), (0, a2)] M = am_ev am_PP nX6_width 0 [a0, a1, a2] [] M := rfl
theorem be_X6_width_0 (M : am_M) (l0 l1 l2 : Int) : am_ev am_PP nX6_width 0 [l0, l1, l2] [] M =
    if 0 < l0 ∧ am_cls l0 = 6 then
    (am_evm am_PP nX6_bandAt [(2, l0), (0, l1)] M).bind fun q1 =>
    bif decide (q1.1 = 0) then am_ev am_PP nX6_width 2 [] [] q1.2
    else am_ev am_PP nX6_width 1 [l0, l2, q1.1] [] q1.2
    else none := (am_blk am_PP _ _ _ _ _).trans rfl
theorem be_X6_width_1 (M : am_M) (l0 l2 l3 : Int) : am_ev am_PP nX6_width 1 [l0, l2, l3] [] M =
    (am_evm am_PP nX6_isToldWidth [(0, l2)] M).bind fun q1 =>
    bif !(decide (q1.1 = 0)) then am_ev am_PP nX6_width 3 [l0, l2, l3] [] q1.2
    else am_ev am_PP nX6_width 2 [] [] q1.2 := (am_blk am_PP _ _ _ _ _).trans rfl
theorem be_X6_width_2 (M : am_M) : am_ev am_PP nX6_width 2 [] [] M =
    some ((-1), M) := (am_blk am_PP _ _ _ _ _).trans rfl
theorem be_X6_width_3 (M : am_M) (l0 l2 l3 : Int) : am_ev am_PP nX6_width 3 [l0, l2, l3] [] M =
    (am_gf 6 9 M l0).bind fun v1 =>
    bif decide (v1 = 0) then am_ev am_PP nX6_width 5 [l2, l3] [] M
    else am_ev am_PP nX6_width 4 [] [] M := (am_blk am_PP _ _ _ _ _).trans rfl
theorem be_X6_width_4 (M : am_M) : am_ev am_PP nX6_width 4 [] [] M =
    some ((-2), M) := (am_blk am_PP _ _ _ _ _).trans rfl
theorem be_X6_width_5 (M : am_M) (l2 l3 : Int) : am_ev am_PP nX6_width 5 [l2, l3] [] M =
    (am_gf 0 4 M l3).bind fun v1 =>
    (am_pf 0 4 0 M l3 l2).bind fun M1 =>
    if 0 < l3 ∧ am_cls l3 = 0 then
    (am_evm am_PP nX0_restart [(2, l3)] M1).bind fun q2 =>
    some (v1, q2.2)
    else none := (am_blk am_PP _ _ _ _ _).trans rfl
theorem be_X6_clear_m (M : am_M) (a0 : Int) : am_evm am_PP nX6_clear [(2, a0)] M = am_ev am_PP nX6_clear 0 [a0] [] M := rfl
theorem be_X6_clear_0 (M : am_M) (l0 : Int) : am_ev am_PP nX6_clear 0 [l0] [] M =
    (am_gf 6 4 M l0).bind fun v1 =>
    (am_pf 6 4 0 M l0 0).bind fun M1 =>
    (am_pf 6 5 0 M1 l0 0).bind fun M2 =>
    (am_pf 6 6 0 M2 l0 0).bind fun M3 =>
    if 0 < l0 ∧ am_cls l0 = 6 then
    (am_evm am_PP nX6_forgetRun [(2, l0)] M3).bind fun q2 =>
    some (v1, q2.2)
    else none := (am_blk am_PP _ _ _ _ _).trans rfl
theorem be_X6_run_m (M : am_M) (a0 a1 a2 a3 : Int) : am_evm am_PP nX6_run [(2, a0), (0, a1), (0, a2), (0, a3)] M = am_ev am_PP nX6_run 0 [a0, a1, a2, a3] [] M := rfl
theorem be_X6_run_0 (M : am_M) (l0 l1 l2 l3 : Int) : am_ev am_PP nX6_run 0 [l0, l1, l2, l3] [] M =
    bif decide (l1 < 0) then am_ev am_PP nX6_run 4 [] [] M
    else am_ev am_PP nX6_run 1 [l0, l1, l2, l3] [] M := (am_blk am_PP _ _ _ _ _).trans rfl
theorem be_X6_run_1 (M : am_M) (l0 l1 l2 l3 : Int) : am_ev am_PP nX6_run 1 [l0, l1, l2, l3] [] M =
    bif decide (3 < l1) then am_ev am_PP nX6_run 4 [] [] M
    else am_ev am_PP nX6_run 2 [l0, l1, l2, l3] [] M := (am_blk am_PP _ _ _ _ _).trans rfl
theorem be_X6_run_2 (M : am_M) (l0 l1 l2 l3 : Int) : am_ev am_PP nX6_run 2 [l0, l1, l2, l3] [] M =
    bif decide (l2 < 1) then am_ev am_PP nX6_run 4 [] [] M
    else am_ev am_PP nX6_run 3 [l0, l1, l2, l3] [] M := (am_blk am_PP _ _ _ _ _).trans rfl
theorem be_X6_run_3 (M : am_M) (l0 l1 l2 l3 : Int) : am_ev am_PP nX6_run 3 [l0, l1, l2, l3] [] M =
    bif decide (l2 ≤ 2000) then am_ev am_PP nX6_run 5 [l0, l1, l2, l3] [] M
    else am_ev am_PP nX6_run 4 [] [] M := (am_blk am_PP _ _ _ _ _).trans rfl
theorem be_X6_run_4 (M : am_M) : am_ev am_PP nX6_run 4 [] [] M =
    some ((-1), M) := (am_blk am_PP _ _ _ _ _).trans rfl
theorem be_X6_run_5 (M : am_M) (l0 l1 l2 l3 : Int) : am_ev am_PP nX6_run 5 [l0, l1, l2, l3] [] M =
    (am_gf 6 6 M l0).bind fun v1 =>
    bif decide (v1 = 0) then am_ev am_PP nX6_run 7 [l0, l1, l2, l3] [] M
    else am_ev am_PP nX6_run 6 [] [] M := (am_blk am_PP _ _ _ _ _).trans rfl
theorem be_X6_run_6 (M : am_M) : am_ev am_PP nX6_run 6 [] [] M =
    some ((-2), M) := (am_blk am_PP _ _ _ _ _).trans rfl
theorem be_X6_run_7 (M : am_M) (l0 l1 l2 l3 : Int) : am_ev am_PP nX6_run 7 [l0, l1, l2, l3] [] M =
    (am_gf 6 8 M l0).bind fun v1 =>
    bif decide (v1 < 40000) then am_ev am_PP nX6_run 9 [l0, l1, l2, l3] [] M
    else am_ev am_PP nX6_run 8 [] [] M := (am_blk am_PP _ _ _ _ _).trans rfl
theorem be_X6_run_8 (M : am_M) : am_ev am_PP nX6_run 8 [] [] M =
    some ((-3), M) := (am_blk am_PP _ _ _ _ _).trans rfl
theorem be_X6_run_9 (M : am_M) (l0 l1 l2 l3 : Int) : am_ev am_PP nX6_run 9 [l0, l1, l2, l3] [] M =
    (am_gf 6 9 M l0).bind fun v1 =>
    bif !(decide (v1 = 0)) then am_ev am_PP nX6_run 11 [l0, l1, l2, l3] [] M
    else am_ev am_PP nX6_run 10 [l0, l1, l2, l3] [] M := (am_blk am_PP _ _ _ _ _).trans rfl
theorem be_X6_run_10 (M : am_M) (l0 l1 l2 l3 : Int) : am_ev am_PP nX6_run 10 [l0, l1, l2, l3] [] M =
    if 0 < l0 ∧ am_cls l0 = 6 then
    (am_evm am_PP nX6_restartAll [(2, l0)] M).bind fun q1 =>
    (am_pf 6 9 4 q1.2 l0 1).bind fun M1 =>
    am_ev am_PP nX6_run 11 [l0, l1, l2, l3] [] M1
    else none := (am_blk am_PP _ _ _ _ _).trans rfl
theorem be_X6_run_11 (M : am_M) (l0 l1 l2 l3 : Int) : am_ev am_PP nX6_run 11 [l0, l1, l2, l3] [] M =
    if 0 < l0 ∧ am_cls l0 = 6 then
    (am_evm am_PP nX6_doActs [(2, l0), (0, l1), (0, l2), (0, l3)] M).bind fun q1 =>
    some (q1.1, q1.2)
    else none := (am_blk am_PP _ _ _ _ _).trans rfl
theorem be_X6_reset_m (M : am_M) (a0 : Int) : am_evm am_PP nX6_reset [(2, a0)] M = am_ev am_PP nX6_reset 0 [a0] [] M := rfl
theorem be_X6_reset_0 (M : am_M) (l0 : Int) : am_ev am_PP nX6_reset 0 [l0] [] M =
    (am_gf 6 9 M l0).bind fun v1 =>
    bif !(decide (v1 = 0)) then am_ev am_PP nX6_reset 2 [l0] [] M
    else am_ev am_PP nX6_reset 1 [] [] M := (am_blk am_PP _ _ _ _ _).trans rfl
theorem be_X6_reset_1 (M : am_M) : am_ev am_PP nX6_reset 1 [] [] M =
    some ((-2), M) := (am_blk am_PP _ _ _ _ _).trans rfl
theorem be_X6_reset_2 (M : am_M) (l0 : Int) : am_ev am_PP nX6_reset 2 [l0] [] M =
    (am_gf 6 8 M l0).bind fun v1 =>
    if 0 < l0 ∧ am_cls l0 = 6 then
    (am_evm am_PP nX6_forgetRun [(2, l0)] M).bind fun q2 =>
    if 0 < l0 ∧ am_cls l0 = 6 then
    (am_evm am_PP nX6_restartAll [(2, l0)] q2.2).bind fun q3 =>
    some (v1, q3.2)
    else none
    else none := (am_blk am_PP _ _ _ _ _).trans rfl
theorem be_X6_told_m (M : am_M) (a0 a1 a2 : Int) : am_evm am_PP nX6_told [(2, a0), (0, a1), (0, a2)] M = am_ev am_PP nX6_told 0 [a0, a1, a2] [] M := rfl
theorem be_X6_told_0 (M : am_M) (l0 l1 l2 : Int) : am_ev am_PP nX6_told 0 [l0, l1, l2] [] M =
    if 0 < l0 ∧ am_cls l0 = 6 then
    (am_evm am_PP nX6_weaverAt [(2, l0), (0, l1)] M).bind fun q1 =>
    bif !(decide (q1.1 = 0)) then am_ev am_PP nX6_told 2 [l0, l2, q1.1] [] q1.2
    else am_ev am_PP nX6_told 1 [] [] q1.2
    else none := (am_blk am_PP _ _ _ _ _).trans rfl
theorem be_X6_told_1 (M : am_M) : am_ev am_PP nX6_told 1 [] [] M =
    some ((-1), M) := (am_blk am_PP _ _ _ _ _).trans rfl
theorem be_X6_told_2 (M : am_M) (l0 l2 l3 : Int) : am_ev am_PP nX6_told 2 [l0, l2, l3] [] M =
    bif decide (l2 = 0) then am_ev am_PP nX6_told 3 [l3] [] M else
    bif decide (l2 = 1) then am_ev am_PP nX6_told 4 [l0, l3] [] M else
    bif decide (l2 = 2) then am_ev am_PP nX6_told 8 [l0, l3] [] M else
    bif decide (l2 = 3) then am_ev am_PP nX6_told 13 [l3] [] M else
    bif decide (l2 = 4) then am_ev am_PP nX6_told 14 [l3] [] M else
    bif decide (l2 = 5) then am_ev am_PP nX6_told 15 [l3] [] M else
    am_ev am_PP nX6_told 16 [] [] M := (am_blk am_PP _ _ _ _ _).trans rfl
theorem be_X6_told_3 (M : am_M) (l3 : Int) : am_ev am_PP nX6_told 3 [l3] [] M =
    (am_gf 5 6 M l3).bind fun v1 =>
    some (v1, M) := (am_blk am_PP _ _ _ _ _).trans rfl
theorem be_X6_told_4 (M : am_M) (l0 l3 : Int) : am_ev am_PP nX6_told 4 [l0, l3] [] M =
    (am_gf 6 9 M l0).bind fun v1 =>
    bif decide (v1 = 0) then am_ev am_PP nX6_told 6 [] [] M
    else am_ev am_PP nX6_told 5 [l3] [] M := (am_blk am_PP _ _ _ _ _).trans rfl
theorem be_X6_told_5 (M : am_M) (l3 : Int) : am_ev am_PP nX6_told 5 [l3] [] M =
    if 0 < l3 ∧ am_cls l3 = 5 then
    (am_evm am_PP nX5_doing [(2, l3)] M).bind fun q1 =>
    am_ev am_PP nX6_told 7 [] [(0, q1.1)] q1.2
    else none := (am_blk am_PP _ _ _ _ _).trans rfl
theorem be_X6_told_6 (M : am_M) : am_ev am_PP nX6_told 6 [] [] M =
    am_ev am_PP nX6_told 7 [] [(0, 0)] M := (am_blk am_PP _ _ _ _ _).trans rfl
theorem be_X6_told_7 (M : am_M) (s0 : Int) : am_ev am_PP nX6_told 7 [] [(0, s0)] M =
    some (s0, M) := (am_blk am_PP _ _ _ _ _).trans rfl
theorem be_X6_told_8 (M : am_M) (l0 l3 : Int) : am_ev am_PP nX6_told 8 [l0, l3] [] M =
    (am_gf 6 9 M l0).bind fun v1 =>
    bif decide (v1 = 0) then am_ev am_PP nX6_told 11 [] [] M
    else am_ev am_PP nX6_told 9 [l3] [] M := (am_blk am_PP _ _ _ _ _).trans rfl
theorem be_X6_told_9 (M : am_M) (l3 : Int) : am_ev am_PP nX6_told 9 [l3] [] M =
    if 0 < l3 ∧ am_cls l3 = 5 then
    (am_evm am_PP nX5_waits [(2, l3)] M).bind fun q1 =>
    bif decide (q1.1 = 0) then am_ev am_PP nX6_told 11 [] [] q1.2
    else am_ev am_PP nX6_told 10 [l3] [] q1.2
    else none := (am_blk am_PP _ _ _ _ _).trans rfl
theorem be_X6_told_10 (M : am_M) (l3 : Int) : am_ev am_PP nX6_told 10 [l3] [] M =
    (am_gf 5 9 M l3).bind fun v1 =>
    am_ev am_PP nX6_told 12 [] [(0, v1)] M := (am_blk am_PP _ _ _ _ _).trans rfl
theorem be_X6_told_11 (M : am_M) : am_ev am_PP nX6_told 11 [] [] M =
    am_ev am_PP nX6_told 12 [] [(0, (-5))] M := (am_blk am_PP _ _ _ _ _).trans rfl
theorem be_X6_told_12 (M : am_M) (s0 : Int) : am_ev am_PP nX6_told 12 [] [(0, s0)] M =
    some (s0, M) := (am_blk am_PP _ _ _ _ _).trans rfl
theorem be_X6_told_13 (M : am_M) (l3 : Int) : am_ev am_PP nX6_told 13 [l3] [] M =
    (am_gf 5 12 M l3).bind fun v1 =>
    some (v1, M) := (am_blk am_PP _ _ _ _ _).trans rfl
theorem be_X6_told_14 (M : am_M) (l3 : Int) : am_ev am_PP nX6_told 14 [l3] [] M =
    (am_gf 5 13 M l3).bind fun v1 =>
    some (v1, M) := (am_blk am_PP _ _ _ _ _).trans rfl
theorem be_X6_told_15 (M : am_M) (l3 : Int) : am_ev am_PP nX6_told 15 [l3] [] M =
    if 0 < l3 ∧ am_cls l3 = 5 then
    (am_evm am_PP nX5_stock [(2, l3)] M).bind fun q1 =>
    some (q1.1, q1.2)
    else none := (am_blk am_PP _ _ _ _ _).trans rfl
theorem be_X6_told_16 (M : am_M) : am_ev am_PP nX6_told 16 [] [] M =
    some ((-1), M) := (am_blk am_PP _ _ _ _ _).trans rfl
theorem be_X6_woven_m (M : am_M) (a0 a1 a2 : Int) : am_evm am_PP nX6_woven [(2, a0), (0, a1), (0, a2)] M = am_ev am_PP nX6_woven 0 [a0, a1, a2] [] M := rfl
theorem be_X6_woven_0 (M : am_M) (l0 l1 l2 : Int) : am_ev am_PP nX6_woven 0 [l0, l1, l2] [] M =
    if 0 < l0 ∧ am_cls l0 = 6 then
    (am_evm am_PP nX6_weaverAt [(2, l0), (0, l1)] M).bind fun q1 =>
    bif decide (q1.1 = 0) then am_ev am_PP nX6_woven 2 [] [] q1.2
    else am_ev am_PP nX6_woven 1 [l2, q1.1] [] q1.2
    else none := (am_blk am_PP _ _ _ _ _).trans rfl
theorem be_X6_woven_1 (M : am_M) (l2 l3 : Int) : am_ev am_PP nX6_woven 1 [l2, l3] [] M =
    (am_gf 5 6 M l3).bind fun v1 =>
    bif decide (v1 = 9) then am_ev am_PP nX6_woven 3 [l2, l3] [] M
    else am_ev am_PP nX6_woven 2 [] [] M := (am_blk am_PP _ _ _ _ _).trans rfl
theorem be_X6_woven_2 (M : am_M) : am_ev am_PP nX6_woven 2 [] [] M =
    am_ev am_PP nX6_woven 4 [] [(1, 0)] M := (am_blk am_PP _ _ _ _ _).trans rfl
theorem be_X6_woven_3 (M : am_M) (l2 l3 : Int) : am_ev am_PP nX6_woven 3 [l2, l3] [] M =
    (am_gf 5 3 M l3).bind fun v1 =>
    if 0 < v1 ∧ am_cls v1 = 3 then
    (am_evm am_PP nX3_at [(2, v1), (0, l2)] M).bind fun q2 =>
    am_ev am_PP nX6_woven 4 [] [(1, q2.1)] q2.2
    else none := (am_blk am_PP _ _ _ _ _).trans rfl
theorem be_X6_woven_4 (M : am_M) (s0 : Int) : am_ev am_PP nX6_woven 4 [] [(1, s0)] M =
    some (s0, M) := (am_blk am_PP _ _ _ _ _).trans rfl
theorem be_X6_bandTold_m (M : am_M) (a0 a1 a2 : Int) : am_evm am_PP nX6_bandTold [(2, a0), (0, a1), (0, a2)] M = am_ev am_PP nX6_bandTold 0 [a0, a1, a2] [] M := rfl
theorem be_X6_bandTold_0 (M : am_M) (l0 l1 l2 : Int) : am_ev am_PP nX6_bandTold 0 [l0, l1, l2] [] M =
    if 0 < l0 ∧ am_cls l0 = 6 then
    (am_evm am_PP nX6_bandAt [(2, l0), (0, l1)] M).bind fun q1 =>
    bif !(decide (q1.1 = 0)) then am_ev am_PP nX6_bandTold 2 [l2, q1.1] [] q1.2
    else am_ev am_PP nX6_bandTold 1 [] [] q1.2
    else none := (am_blk am_PP _ _ _ _ _).trans rfl
theorem be_X6_bandTold_1 (M : am_M) : am_ev am_PP nX6_bandTold 1 [] [] M =
    some ((-1), M) := (am_blk am_PP _ _ _ _ _).trans rfl
theorem be_X6_bandTold_2 (M : am_M) (l2 l3 : Int) : am_ev am_PP nX6_bandTold 2 [l2, l3] [] M =
    bif decide (l2 = 0) then am_ev am_PP nX6_bandTold 3 [l3] [] M else
    bif decide (l2 = 1) then am_ev am_PP nX6_bandTold 4 [l3] [] M else
    bif decide (l2 = 2) then am_ev am_PP nX6_bandTold 5 [l3] [] M else
    bif decide (l2 = 3) then am_ev am_PP nX6_bandTold 6 [l3] [] M else
    bif decide (l2 = 4) then am_ev am_PP nX6_bandTold 7 [l3] [] M else
    bif decide (l2 = 5) then am_ev am_PP nX6_bandTold 8 [l3] [] M else
    bif decide (l2 = 6) then am_ev am_PP nX6_bandTold 9 [l3] [] M else
    bif decide (l2 = 7) then am_ev am_PP nX6_bandTold 10 [l3] [] M else
    am_ev am_PP nX6_bandTold 11 [] [] M := (am_blk am_PP _ _ _ _ _).trans rfl
theorem be_X6_bandTold_3 (M : am_M) (l3 : Int) : am_ev am_PP nX6_bandTold 3 [l3] [] M =
    (am_gf 0 5 M l3).bind fun v1 =>
    some (v1, M) := (am_blk am_PP _ _ _ _ _).trans rfl
theorem be_X6_bandTold_4 (M : am_M) (l3 : Int) : am_ev am_PP nX6_bandTold 4 [l3] [] M =
    (am_gf 0 9 M l3).bind fun v1 =>
    some (v1, M) := (am_blk am_PP _ _ _ _ _).trans rfl
theorem be_X6_bandTold_5 (M : am_M) (l3 : Int) : am_ev am_PP nX6_bandTold 5 [l3] [] M =
    (am_gf 0 10 M l3).bind fun v1 =>
    some (v1, M) := (am_blk am_PP _ _ _ _ _).trans rfl
theorem be_X6_bandTold_6 (M : am_M) (l3 : Int) : am_ev am_PP nX6_bandTold 6 [l3] [] M =
    (am_gf 0 1 M l3).bind fun v1 =>
    (am_gf 3 1 M v1).bind fun v2 =>
    some (v2, M) := (am_blk am_PP _ _ _ _ _).trans rfl
theorem be_X6_bandTold_7 (M : am_M) (l3 : Int) : am_ev am_PP nX6_bandTold 7 [l3] [] M =
    if 0 < l3 ∧ am_cls l3 = 0 then
    (am_evm am_PP nX0_ending [(2, l3)] M).bind fun q1 =>
    some (q1.1, q1.2)
    else none := (am_blk am_PP _ _ _ _ _).trans rfl
theorem be_X6_bandTold_8 (M : am_M) (l3 : Int) : am_ev am_PP nX6_bandTold 8 [l3] [] M =
    (am_gf 0 6 M l3).bind fun v1 =>
    some (v1, M) := (am_blk am_PP _ _ _ _ _).trans rfl
theorem be_X6_bandTold_9 (M : am_M) (l3 : Int) : am_ev am_PP nX6_bandTold 9 [l3] [] M =
    (am_gf 0 2 M l3).bind fun v1 =>
    (am_gf 5 0 M v1).bind fun v2 =>
    some (v2, M) := (am_blk am_PP _ _ _ _ _).trans rfl
theorem be_X6_bandTold_10 (M : am_M) (l3 : Int) : am_ev am_PP nX6_bandTold 10 [l3] [] M =
    (am_gf 0 3 M l3).bind fun v1 =>
    (am_gf 5 0 M v1).bind fun v2 =>
    some (v2, M) := (am_blk am_PP _ _ _ _ _).trans rfl
theorem be_X6_bandTold_11 (M : am_M) : am_ev am_PP nX6_bandTold 11 [] [] M =
    some ((-1), M) := (am_blk am_PP _ _ _ _ _).trans rfl
theorem be_X6_history_m (M : am_M) (a0 a1 a2 : Int) : am_evm am_PP nX6_history [(2, a0), (0, a1), (0, a2)] M = am_ev am_PP nX6_history 0 [a0, a1, a2] [] M := rfl
theorem be_X6_history_0 (M : am_M) (l0 l1 l2 : Int) : am_ev am_PP nX6_history 0 [l0, l1, l2] [] M =
    if 0 < l0 ∧ am_cls l0 = 6 then
    (am_evm am_PP nX6_bandAt [(2, l0), (0, l1)] M).bind fun q1 =>
    bif !(decide (q1.1 = 0)) then am_ev am_PP nX6_history 2 [l2, q1.1] [] q1.2
    else am_ev am_PP nX6_history 1 [] [] q1.2
    else none := (am_blk am_PP _ _ _ _ _).trans rfl
theorem be_X6_history_1 (M : am_M) : am_ev am_PP nX6_history 1 [] [] M =
    am_ev am_PP nX6_history 3 [] [(1, 0)] M := (am_blk am_PP _ _ _ _ _).trans rfl
theorem be_X6_history_2 (M : am_M) (l2 l3 : Int) : am_ev am_PP nX6_history 2 [l2, l3] [] M =
    (am_gf 0 1 M l3).bind fun v1 =>
    if 0 < v1 ∧ am_cls v1 = 3 then
    (am_evm am_PP nX3_at [(2, v1), (0, l2)] M).bind fun q2 =>
    am_ev am_PP nX6_history 3 [] [(1, q2.1)] q2.2
    else none := (am_blk am_PP _ _ _ _ _).trans rfl
theorem be_X6_history_3 (M : am_M) (s0 : Int) : am_ev am_PP nX6_history 3 [] [(1, s0)] M =
    some (s0, M) := (am_blk am_PP _ _ _ _ _).trans rfl
theorem be_X6_digest_m (M : am_M) (a0 a1 : Int) : am_evm am_PP nX6_digest [(2, a0), (0, a1)] M = am_ev am_PP nX6_digest 0 [a0, a1] [] M := rfl
theorem be_X6_digest_0 (M : am_M) (l0 l1 : Int) : am_ev am_PP nX6_digest 0 [l0, l1] [] M =
    if 0 < l0 ∧ am_cls l0 = 6 then
    (am_evm am_PP nX6_bandAt [(2, l0), (0, l1)] M).bind fun q1 =>
    bif !(decide (q1.1 = 0)) then am_ev am_PP nX6_digest 2 [q1.1] [] q1.2
    else am_ev am_PP nX6_digest 1 [] [] q1.2
    else none := (am_blk am_PP _ _ _ _ _).trans rfl
theorem be_X6_digest_1 (M : am_M) : am_ev am_PP nX6_digest 1 [] [] M =
    am_ev am_PP nX6_digest 3 [] [(1, 0)] M := (am_blk am_PP _ _ _ _ _).trans rfl
theorem be_X6_digest_2 (M : am_M) (l2 : Int) : am_ev am_PP nX6_digest 2 [l2] [] M =
    (am_gf 0 11 M l2).bind fun v1 =>
    am_ev am_PP nX6_digest 3 [] [(1, v1)] M := (am_blk am_PP _ _ _ _ _).trans rfl
theorem be_X6_digest_3 (M : am_M) (s0 : Int) : am_ev am_PP nX6_digest 3 [] [(1, s0)] M =
    some (s0, M) := (am_blk am_PP _ _ _ _ _).trans rfl
theorem be_X6_widened_m (M : am_M) (a0 a1 : Int) : am_evm am_PP nX6_widened [(2, a0), (0, a1)] M = am_ev am_PP nX6_widened 0 [a0, a1] [] M := rfl
theorem be_X6_widened_0 (M : am_M) (l0 l1 : Int) : am_ev am_PP nX6_widened 0 [l0, l1] [] M =
    bif decide (l1 < 0) then am_ev am_PP nX6_widened 3 [] [] M
    else am_ev am_PP nX6_widened 1 [l0, l1] [] M := (am_blk am_PP _ _ _ _ _).trans rfl
theorem be_X6_widened_1 (M : am_M) (l0 l1 : Int) : am_ev am_PP nX6_widened 1 [l0, l1] [] M =
    (am_gf 6 7 M l0).bind fun v1 =>
    bif decide (v1 ≤ l1) then am_ev am_PP nX6_widened 3 [] [] M
    else am_ev am_PP nX6_widened 2 [l0, l1] [] M := (am_blk am_PP _ _ _ _ _).trans rfl
theorem be_X6_widened_2 (M : am_M) (l0 l1 : Int) : am_ev am_PP nX6_widened 2 [l0, l1] [] M =
    bif decide (l1 < 100) then am_ev am_PP nX6_widened 4 [l0, l1] [] M
    else am_ev am_PP nX6_widened 3 [] [] M := (am_blk am_PP _ _ _ _ _).trans rfl
theorem be_X6_widened_3 (M : am_M) : am_ev am_PP nX6_widened 3 [] [] M =
    am_ev am_PP nX6_widened 5 [] [(0, (-1))] M := (am_blk am_PP _ _ _ _ _).trans rfl
theorem be_X6_widened_4 (M : am_M) (l0 l1 : Int) : am_ev am_PP nX6_widened 4 [l0, l1] [] M =
    (am_gf 6 2 M l0).bind fun v1 =>
    (am_ald 0 M v1 l1).bind fun v2 =>
    am_ev am_PP nX6_widened 5 [] [(0, v2)] M := (am_blk am_PP _ _ _ _ _).trans rfl
theorem be_X6_widened_5 (M : am_M) (s0 : Int) : am_ev am_PP nX6_widened 5 [] [(0, s0)] M =
    some (s0, M) := (am_blk am_PP _ _ _ _ _).trans rfl
theorem be_X6_failure_m (M : am_M) (a0 a1 a2 : Int) : am_evm am_PP nX6_failure [(2, a0), (0, a1), (0, a2)] M = am_ev am_PP nX6_failure 0 [a0, a1, a2] [] M := rfl
theorem be_X6_failure_0 (M : am_M) (l0 l1 l2 : Int) : am_ev am_PP nX6_failure 0 [l0, l1, l2] [] M =
    if 0 < l0 ∧ am_cls l0 = 6 then
    (am_evm am_PP nX6_weaverAt [(2, l0), (0, l1)] M).bind fun q1 =>
    bif decide (q1.1 = 0) then am_ev am_PP nX6_failure 4 [] [] q1.2
    else am_ev am_PP nX6_failure 1 [l2, q1.1] [] q1.2
    else none := (am_blk am_PP _ _ _ _ _).trans rfl
theorem be_X6_failure_1 (M : am_M) (l2 l3 : Int) : am_ev am_PP nX6_failure 1 [l2, l3] [] M =
    bif decide (l2 < 0) then am_ev am_PP nX6_failure 4 [] [] M
    else am_ev am_PP nX6_failure 2 [l2, l3] [] M := (am_blk am_PP _ _ _ _ _).trans rfl
theorem be_X6_failure_2 (M : am_M) (l2 l3 : Int) : am_ev am_PP nX6_failure 2 [l2, l3] [] M =
    bif decide (1 < l2) then am_ev am_PP nX6_failure 4 [] [] M
    else am_ev am_PP nX6_failure 3 [l2, l3] [] M := (am_blk am_PP _ _ _ _ _).trans rfl
theorem be_X6_failure_3 (M : am_M) (l2 l3 : Int) : am_ev am_PP nX6_failure 3 [l2, l3] [] M =
    (am_gf 5 8 M l3).bind fun v1 =>
    bif decide (v1 = 5) then am_ev am_PP nX6_failure 5 [l2, l3] [] M
    else am_ev am_PP nX6_failure 4 [] [] M := (am_blk am_PP _ _ _ _ _).trans rfl
theorem be_X6_failure_4 (M : am_M) : am_ev am_PP nX6_failure 4 [] [] M =
    some ((-1), M) := (am_blk am_PP _ _ _ _ _).trans rfl
theorem be_X6_failure_5 (M : am_M) (l2 l3 : Int) : am_ev am_PP nX6_failure 5 [l2, l3] [] M =
    bif !(decide (l2 = 0)) then am_ev am_PP nX6_failure 7 [l3] [] M
    else am_ev am_PP nX6_failure 6 [l3] [] M := (am_blk am_PP _ _ _ _ _).trans rfl
theorem be_X6_failure_6 (M : am_M) (l3 : Int) : am_ev am_PP nX6_failure 6 [l3] [] M =
    (am_gf 5 14 M l3).bind fun v1 =>
    am_ev am_PP nX6_failure 8 [] [(0, v1)] M := (am_blk am_PP _ _ _ _ _).trans rfl
theorem be_X6_failure_7 (M : am_M) (l3 : Int) : am_ev am_PP nX6_failure 7 [l3] [] M =
    (am_gf 5 15 M l3).bind fun v1 =>
    am_ev am_PP nX6_failure 8 [] [(0, v1)] M := (am_blk am_PP _ _ _ _ _).trans rfl
theorem be_X6_failure_8 (M : am_M) (s0 : Int) : am_ev am_PP nX6_failure 8 [] [(0, s0)] M =
    some (s0, M) := (am_blk am_PP _ _ _ _ _).trans rfl
theorem be_X6_balance_m (M : am_M) (a0 a1 : Int) : am_evm am_PP nX6_balance [(2, a0), (0, a1)] M = am_ev am_PP nX6_balance 0 [a0, a1] [] M := rfl
theorem be_X6_balance_0 (M : am_M) (l0 l1 : Int) : am_ev am_PP nX6_balance 0 [l0, l1] [] M =
    if 0 < l0 ∧ am_cls l0 = 6 then
    (am_evm am_PP nX6_weaverAt [(2, l0), (0, l1)] M).bind fun q1 =>
    bif !(decide (q1.1 = 0)) then am_ev am_PP nX6_balance 2 [l0, l1] [] q1.2
    else am_ev am_PP nX6_balance 1 [] [] q1.2
    else none := (am_blk am_PP _ _ _ _ _).trans rfl
theorem be_X6_balance_1 (M : am_M) : am_ev am_PP nX6_balance 1 [] [] M =
    some ((-1), M) := (am_blk am_PP _ _ _ _ _).trans rfl
theorem be_X6_balance_2 (M : am_M) (l0 l1 : Int) : am_ev am_PP nX6_balance 2 [l0, l1] [] M =
    if 0 < l0 ∧ am_cls l0 = 6 then
    (am_evm am_PP nX6_isFixed [(2, l0)] M).bind fun q1 =>
    bif !(decide (q1.1 = 0)) then am_ev am_PP nX6_balance 4 [l0, l1] [] q1.2
    else am_ev am_PP nX6_balance 3 [] [] q1.2
    else none := (am_blk am_PP _ _ _ _ _).trans rfl
theorem be_X6_balance_3 (M : am_M) : am_ev am_PP nX6_balance 3 [] [] M =
    some ((-2), M) := (am_blk am_PP _ _ _ _ _).trans rfl
theorem be_X6_balance_4 (M : am_M) (l0 l1 : Int) : am_ev am_PP nX6_balance 4 [l0, l1] [] M =
    (am_gf 6 3 M l0).bind fun v1 =>
    (am_gf 6 4 M l0).bind fun v2 =>
    (am_gf 6 1 M l0).bind fun v3 =>
    (am_gf 6 5 M l0).bind fun v4 =>
    if 0 < v1 ∧ am_cls v1 = 2 then
    (am_evm am_PP nX2_solve [(2, v1), (0, v2), (2, v3), (0, v4)] M).bind fun q5 =>
    bif !(decide (q5.1 = 0)) then am_ev am_PP nX6_balance 6 [l0, l1] [] q5.2
    else am_ev am_PP nX6_balance 5 [] [] q5.2
    else none := (am_blk am_PP _ _ _ _ _).trans rfl
theorem be_X6_balance_5 (M : am_M) : am_ev am_PP nX6_balance 5 [] [] M =
    some ((-5), M) := (am_blk am_PP _ _ _ _ _).trans rfl
theorem be_X6_balance_6 (M : am_M) (l0 l1 : Int) : am_ev am_PP nX6_balance 6 [l0, l1] [] M =
    (am_gf 6 3 M l0).bind fun v1 =>
    if 0 < v1 ∧ am_cls v1 = 2 then
    (am_evm am_PP nX2_firingsOf [(2, v1), (0, l1)] M).bind fun q2 =>
    some (q2.1, q2.2)
    else none := (am_blk am_PP _ _ _ _ _).trans rfl
theorem be_X6_count_m (M : am_M) (a0 a1 : Int) : am_evm am_PP nX6_count [(2, a0), (0, a1)] M = am_ev am_PP nX6_count 0 [a0, a1] [] M := rfl
theorem be_X6_count_0 (M : am_M) (l0 l1 : Int) : am_ev am_PP nX6_count 0 [l0, l1] [] M =
    bif decide (l1 = 0) then am_ev am_PP nX6_count 1 [l0] [] M else
    bif decide (l1 = 1) then am_ev am_PP nX6_count 2 [l0] [] M else
    bif decide (l1 = 2) then am_ev am_PP nX6_count 3 [l0] [] M else
    bif decide (l1 = 3) then am_ev am_PP nX6_count 4 [l0] [] M else
    bif decide (l1 = 4) then am_ev am_PP nX6_count 5 [l0] [] M else
    bif decide (l1 = 5) then am_ev am_PP nX6_count 9 [l0] [] M else
    bif decide (l1 = 6) then am_ev am_PP nX6_count 13 [l0] [] M else
    am_ev am_PP nX6_count 14 [] [] M := (am_blk am_PP _ _ _ _ _).trans rfl
theorem be_X6_count_1 (M : am_M) (l0 : Int) : am_ev am_PP nX6_count 1 [l0] [] M =
    (am_gf 6 4 M l0).bind fun v1 =>
    some (v1, M) := (am_blk am_PP _ _ _ _ _).trans rfl
theorem be_X6_count_2 (M : am_M) (l0 : Int) : am_ev am_PP nX6_count 2 [l0] [] M =
    (am_gf 6 5 M l0).bind fun v1 =>
    some (v1, M) := (am_blk am_PP _ _ _ _ _).trans rfl
theorem be_X6_count_3 (M : am_M) (l0 : Int) : am_ev am_PP nX6_count 3 [l0] [] M =
    (am_gf 6 8 M l0).bind fun v1 =>
    some (v1, M) := (am_blk am_PP _ _ _ _ _).trans rfl
theorem be_X6_count_4 (M : am_M) (l0 : Int) : am_ev am_PP nX6_count 4 [l0] [] M =
    (am_gf 6 7 M l0).bind fun v1 =>
    some (v1, M) := (am_blk am_PP _ _ _ _ _).trans rfl
theorem be_X6_count_5 (M : am_M) (l0 : Int) : am_ev am_PP nX6_count 5 [l0] [] M =
    (am_gf 6 6 M l0).bind fun v1 =>
    bif !(decide (v1 = 0)) then am_ev am_PP nX6_count 7 [] [] M
    else am_ev am_PP nX6_count 6 [] [] M := (am_blk am_PP _ _ _ _ _).trans rfl
theorem be_X6_count_6 (M : am_M) : am_ev am_PP nX6_count 6 [] [] M =
    am_ev am_PP nX6_count 8 [] [(0, 1)] M := (am_blk am_PP _ _ _ _ _).trans rfl
theorem be_X6_count_7 (M : am_M) : am_ev am_PP nX6_count 7 [] [] M =
    am_ev am_PP nX6_count 8 [] [(0, 0)] M := (am_blk am_PP _ _ _ _ _).trans rfl
theorem be_X6_count_8 (M : am_M) (s0 : Int) : am_ev am_PP nX6_count 8 [] [(0, s0)] M =
    some (s0, M) := (am_blk am_PP _ _ _ _ _).trans rfl
theorem be_X6_count_9 (M : am_M) (l0 : Int) : am_ev am_PP nX6_count 9 [l0] [] M =
    (am_gf 6 9 M l0).bind fun v1 =>
    bif decide (v1 = 0) then am_ev am_PP nX6_count 11 [] [] M
    else am_ev am_PP nX6_count 10 [] [] M := (am_blk am_PP _ _ _ _ _).trans rfl
theorem be_X6_count_10 (M : am_M) : am_ev am_PP nX6_count 10 [] [] M =
    am_ev am_PP nX6_count 12 [] [(0, 1)] M := (am_blk am_PP _ _ _ _ _).trans rfl
theorem be_X6_count_11 (M : am_M) : am_ev am_PP nX6_count 11 [] [] M =
    am_ev am_PP nX6_count 12 [] [(0, 0)] M := (am_blk am_PP _ _ _ _ _).trans rfl
theorem be_X6_count_12 (M : am_M) (s0 : Int) : am_ev am_PP nX6_count 12 [] [(0, s0)] M =
    some (s0, M) := (am_blk am_PP _ _ _ _ _).trans rfl
theorem be_X6_count_13 (M : am_M) (l0 : Int) : am_ev am_PP nX6_count 13 [l0] [] M =
    (am_gf 6 3 M l0).bind fun v1 =>
    (am_gf 6 4 M l0).bind fun v2 =>
    (am_gf 6 1 M l0).bind fun v3 =>
    (am_gf 6 5 M l0).bind fun v4 =>
    if 0 < v1 ∧ am_cls v1 = 2 then
    (am_evm am_PP nX2_findParts [(2, v1), (0, v2), (2, v3), (0, v4)] M).bind fun q5 =>
    some (q5.1, q5.2)
    else none := (am_blk am_PP _ _ _ _ _).trans rfl
theorem be_X6_count_14 (M : am_M) : am_ev am_PP nX6_count 14 [] [] M =
    some ((-1), M) := (am_blk am_PP _ _ _ _ _).trans rfl
theorem be_X6_weaverAt_m (M : am_M) (a0 a1 : Int) : am_evm am_PP nX6_weaverAt [(2, a0), (0, a1)] M = am_ev am_PP nX6_weaverAt 0 [a0, a1] [] M := rfl
theorem be_X6_weaverAt_0 (M : am_M) (l0 l1 : Int) : am_ev am_PP nX6_weaverAt 0 [l0, l1] [] M =
    bif decide (l1 < 0) then am_ev am_PP nX6_weaverAt 2 [] [] M
    else am_ev am_PP nX6_weaverAt 1 [l0, l1] [] M := (am_blk am_PP _ _ _ _ _).trans rfl
theorem be_X6_weaverAt_1 (M : am_M) (l0 l1 : Int) : am_ev am_PP nX6_weaverAt 1 [l0, l1] [] M =
    (am_gf 6 4 M l0).bind fun v1 =>
    bif decide (l1 < v1) then am_ev am_PP nX6_weaverAt 3 [l0, l1] [] M
    else am_ev am_PP nX6_weaverAt 2 [] [] M := (am_blk am_PP _ _ _ _ _).trans rfl
theorem be_X6_weaverAt_2 (M : am_M) : am_ev am_PP nX6_weaverAt 2 [] [] M =
    am_ev am_PP nX6_weaverAt 4 [] [(2, 0)] M := (am_blk am_PP _ _ _ _ _).trans rfl
theorem be_X6_weaverAt_3 (M : am_M) (l0 l1 : Int) : am_ev am_PP nX6_weaverAt 3 [l0, l1] [] M =
    (am_gf 6 0 M l0).bind fun v1 =>
    (am_ald 3 M v1 l1).bind fun v2 =>
    am_ev am_PP nX6_weaverAt 4 [] [(2, v2)] M := (am_blk am_PP _ _ _ _ _).trans rfl
theorem be_X6_weaverAt_4 (M : am_M) (s0 : Int) : am_ev am_PP nX6_weaverAt 4 [] [(2, s0)] M =
    some (s0, M) := (am_blk am_PP _ _ _ _ _).trans rfl
theorem be_X6_bandAt_m (M : am_M) (a0 a1 : Int) : am_evm am_PP nX6_bandAt [(2, a0), (0, a1)] M = am_ev am_PP nX6_bandAt 0 [a0, a1] [] M := rfl
theorem be_X6_bandAt_0 (M : am_M) (l0 l1 : Int) : am_ev am_PP nX6_bandAt 0 [l0, l1] [] M =
    bif decide (l1 < 0) then am_ev am_PP nX6_bandAt 2 [] [] M
    else am_ev am_PP nX6_bandAt 1 [l0, l1] [] M := (am_blk am_PP _ _ _ _ _).trans rfl
theorem be_X6_bandAt_1 (M : am_M) (l0 l1 : Int) : am_ev am_PP nX6_bandAt 1 [l0, l1] [] M =
    (am_gf 6 5 M l0).bind fun v1 =>
    bif decide (l1 < v1) then am_ev am_PP nX6_bandAt 3 [l0, l1] [] M
    else am_ev am_PP nX6_bandAt 2 [] [] M := (am_blk am_PP _ _ _ _ _).trans rfl
theorem be_X6_bandAt_2 (M : am_M) : am_ev am_PP nX6_bandAt 2 [] [] M =
    am_ev am_PP nX6_bandAt 4 [] [(2, 0)] M := (am_blk am_PP _ _ _ _ _).trans rfl
theorem be_X6_bandAt_3 (M : am_M) (l0 l1 : Int) : am_ev am_PP nX6_bandAt 3 [l0, l1] [] M =
    (am_gf 6 1 M l0).bind fun v1 =>
    (am_ald 4 M v1 l1).bind fun v2 =>
    am_ev am_PP nX6_bandAt 4 [] [(2, v2)] M := (am_blk am_PP _ _ _ _ _).trans rfl
theorem be_X6_bandAt_4 (M : am_M) (s0 : Int) : am_ev am_PP nX6_bandAt 4 [] [(2, s0)] M =
    some (s0, M) := (am_blk am_PP _ _ _ _ _).trans rfl
theorem be_X6_isToldWidth_m (M : am_M) (a0 : Int) : am_evm am_PP nX6_isToldWidth [(0, a0)] M = am_ev am_PP nX6_isToldWidth 0 [a0] [] M := rfl
theorem be_X6_isToldWidth_0 (M : am_M) (l0 : Int) : am_ev am_PP nX6_isToldWidth 0 [l0] [] M =
    bif decide (l0 < 1) then am_ev am_PP nX6_isToldWidth 3 [] [] M
    else am_ev am_PP nX6_isToldWidth 1 [l0] [] M := (am_blk am_PP _ _ _ _ _).trans rfl
theorem be_X6_isToldWidth_1 (M : am_M) (l0 : Int) : am_ev am_PP nX6_isToldWidth 1 [l0] [] M =
    bif decide (50 < l0) then am_ev am_PP nX6_isToldWidth 3 [] [] M
    else am_ev am_PP nX6_isToldWidth 2 [] [] M := (am_blk am_PP _ _ _ _ _).trans rfl
theorem be_X6_isToldWidth_2 (M : am_M) : am_ev am_PP nX6_isToldWidth 2 [] [] M =
    am_ev am_PP nX6_isToldWidth 4 [] [(0, 1)] M := (am_blk am_PP _ _ _ _ _).trans rfl
theorem be_X6_isToldWidth_3 (M : am_M) : am_ev am_PP nX6_isToldWidth 3 [] [] M =
    am_ev am_PP nX6_isToldWidth 4 [] [(0, 0)] M := (am_blk am_PP _ _ _ _ _).trans rfl
theorem be_X6_isToldWidth_4 (M : am_M) (s0 : Int) : am_ev am_PP nX6_isToldWidth 4 [] [(0, s0)] M =
    if s0 = 0 ∨ s0 = 1 then some (s0, M) else none := (am_blk am_PP _ _ _ _ _).trans rfl
theorem be_X6_suits_m (M : am_M) (a0 a1 : Int) : am_evm am_PP nX6_suits [(0, a0), (0, a1)] M = am_ev am_PP nX6_suits 0 [a0, a1] [] M := rfl
theorem be_X6_suits_0 (M : am_M) (l0 l1 : Int) : am_ev am_PP nX6_suits 0 [l0, l1] [] M =
    bif decide (l0 = 2) then am_ev am_PP nX6_suits 1 [l1] [] M else
    bif decide (l0 = 5) then am_ev am_PP nX6_suits 6 [l1] [] M else
    bif decide (l0 = 11) then am_ev am_PP nX6_suits 11 [l1] [] M else
    bif decide (l0 = 12) then am_ev am_PP nX6_suits 16 [l1] [] M else
    am_ev am_PP nX6_suits 21 [] [] M := (am_blk am_PP _ _ _ _ _).trans rfl
theorem be_X6_suits_1 (M : am_M) (l1 : Int) : am_ev am_PP nX6_suits 1 [l1] [] M =
    bif decide (l1 < 0) then am_ev am_PP nX6_suits 4 [] [] M
    else am_ev am_PP nX6_suits 2 [l1] [] M := (am_blk am_PP _ _ _ _ _).trans rfl
theorem be_X6_suits_2 (M : am_M) (l1 : Int) : am_ev am_PP nX6_suits 2 [l1] [] M =
    bif decide (20 < l1) then am_ev am_PP nX6_suits 4 [] [] M
    else am_ev am_PP nX6_suits 3 [] [] M := (am_blk am_PP _ _ _ _ _).trans rfl
theorem be_X6_suits_3 (M : am_M) : am_ev am_PP nX6_suits 3 [] [] M =
    am_ev am_PP nX6_suits 5 [] [(0, 1)] M := (am_blk am_PP _ _ _ _ _).trans rfl
theorem be_X6_suits_4 (M : am_M) : am_ev am_PP nX6_suits 4 [] [] M =
    am_ev am_PP nX6_suits 5 [] [(0, 0)] M := (am_blk am_PP _ _ _ _ _).trans rfl
theorem be_X6_suits_5 (M : am_M) (s0 : Int) : am_ev am_PP nX6_suits 5 [] [(0, s0)] M =
    if s0 = 0 ∨ s0 = 1 then some (s0, M) else none := (am_blk am_PP _ _ _ _ _).trans rfl
theorem be_X6_suits_6 (M : am_M) (l1 : Int) : am_ev am_PP nX6_suits 6 [l1] [] M =
    bif decide (l1 < 1) then am_ev am_PP nX6_suits 9 [] [] M
    else am_ev am_PP nX6_suits 7 [l1] [] M := (am_blk am_PP _ _ _ _ _).trans rfl
theorem be_X6_suits_7 (M : am_M) (l1 : Int) : am_ev am_PP nX6_suits 7 [l1] [] M =
    bif decide (1000 < l1) then am_ev am_PP nX6_suits 9 [] [] M
    else am_ev am_PP nX6_suits 8 [] [] M := (am_blk am_PP _ _ _ _ _).trans rfl
theorem be_X6_suits_8 (M : am_M) : am_ev am_PP nX6_suits 8 [] [] M =
    am_ev am_PP nX6_suits 10 [] [(0, 1)] M := (am_blk am_PP _ _ _ _ _).trans rfl
theorem be_X6_suits_9 (M : am_M) : am_ev am_PP nX6_suits 9 [] [] M =
    am_ev am_PP nX6_suits 10 [] [(0, 0)] M := (am_blk am_PP _ _ _ _ _).trans rfl
theorem be_X6_suits_10 (M : am_M) (s0 : Int) : am_ev am_PP nX6_suits 10 [] [(0, s0)] M =
    if s0 = 0 ∨ s0 = 1 then some (s0, M) else none := (am_blk am_PP _ _ _ _ _).trans rfl
theorem be_X6_suits_11 (M : am_M) (l1 : Int) : am_ev am_PP nX6_suits 11 [l1] [] M =
    bif decide (l1 < 1) then am_ev am_PP nX6_suits 14 [] [] M
    else am_ev am_PP nX6_suits 12 [l1] [] M := (am_blk am_PP _ _ _ _ _).trans rfl
theorem be_X6_suits_12 (M : am_M) (l1 : Int) : am_ev am_PP nX6_suits 12 [l1] [] M =
    bif decide (30 < l1) then am_ev am_PP nX6_suits 14 [] [] M
    else am_ev am_PP nX6_suits 13 [] [] M := (am_blk am_PP _ _ _ _ _).trans rfl
theorem be_X6_suits_13 (M : am_M) : am_ev am_PP nX6_suits 13 [] [] M =
    am_ev am_PP nX6_suits 15 [] [(0, 1)] M := (am_blk am_PP _ _ _ _ _).trans rfl
theorem be_X6_suits_14 (M : am_M) : am_ev am_PP nX6_suits 14 [] [] M =
    am_ev am_PP nX6_suits 15 [] [(0, 0)] M := (am_blk am_PP _ _ _ _ _).trans rfl
theorem be_X6_suits_15 (M : am_M) (s0 : Int) : am_ev am_PP nX6_suits 15 [] [(0, s0)] M =
    if s0 = 0 ∨ s0 = 1 then some (s0, M) else none := (am_blk am_PP _ _ _ _ _).trans rfl
theorem be_X6_suits_16 (M : am_M) (l1 : Int) : am_ev am_PP nX6_suits 16 [l1] [] M =
    bif decide (l1 < 0) then am_ev am_PP nX6_suits 19 [] [] M
    else am_ev am_PP nX6_suits 17 [l1] [] M := (am_blk am_PP _ _ _ _ _).trans rfl
theorem be_X6_suits_17 (M : am_M) (l1 : Int) : am_ev am_PP nX6_suits 17 [l1] [] M =
    bif decide (1000 < l1) then am_ev am_PP nX6_suits 19 [] [] M
    else am_ev am_PP nX6_suits 18 [] [] M := (am_blk am_PP _ _ _ _ _).trans rfl
theorem be_X6_suits_18 (M : am_M) : am_ev am_PP nX6_suits 18 [] [] M =
    am_ev am_PP nX6_suits 20 [] [(0, 1)] M := (am_blk am_PP _ _ _ _ _).trans rfl
theorem be_X6_suits_19 (M : am_M) : am_ev am_PP nX6_suits 19 [] [] M =
    am_ev am_PP nX6_suits 20 [] [(0, 0)] M := (am_blk am_PP _ _ _ _ _).trans rfl
theorem be_X6_suits_20 (M : am_M) (s0 : Int) : am_ev am_PP nX6_suits 20 [] [(0, s0)] M =
    if s0 = 0 ∨ s0 = 1 then some (s0, M) else none := (am_blk am_PP _ _ _ _ _).trans rfl
theorem be_X6_suits_21 (M : am_M) : am_ev am_PP nX6_suits 21 [] [] M =
    if 1 = 0 ∨ 1 = 1 then some (1, M) else none := (am_blk am_PP _ _ _ _ _).trans rfl
theorem be_X6_isStep_m (M : am_M) (a0 a1 a2 : Int) : am_evm am_PP nX6_isStep [(0, a0), (0, a1), (0, a2)] M = am_ev am_PP nX6_isStep 0 [a0, a1, a2] [] M := rfl
theorem be_X6_isStep_0 (M : am_M) (l0 l1 l2 : Int) : am_ev am_PP nX6_isStep 0 [l0, l1, l2] [] M =
    bif decide (l0 = 0) then am_ev am_PP nX6_isStep 1 [l1, l2] [] M else
    bif decide (l0 = 1) then am_ev am_PP nX6_isStep 1 [l1, l2] [] M else
    bif decide (l0 = 2) then am_ev am_PP nX6_isStep 7 [l1] [] M else
    bif decide (l0 = 3) then am_ev am_PP nX6_isStep 8 [l1, l2] [] M else
    bif decide (l0 = 4) then am_ev am_PP nX6_isStep 8 [l1, l2] [] M else
    bif decide (l0 = 5) then am_ev am_PP nX6_isStep 13 [l1, l2] [] M else
    bif decide (l0 = 6) then am_ev am_PP nX6_isStep 1 [l1, l2] [] M else
    bif decide (l0 = 7) then am_ev am_PP nX6_isStep 19 [] [] M else
    am_ev am_PP nX6_isStep 20 [] [] M := (am_blk am_PP _ _ _ _ _).trans rfl
theorem be_X6_isStep_1 (M : am_M) (l1 l2 : Int) : am_ev am_PP nX6_isStep 1 [l1, l2] [] M =
    bif decide (l1 < 0) then am_ev am_PP nX6_isStep 5 [] [] M
    else am_ev am_PP nX6_isStep 2 [l1, l2] [] M := (am_blk am_PP _ _ _ _ _).trans rfl
theorem be_X6_isStep_2 (M : am_M) (l1 l2 : Int) : am_ev am_PP nX6_isStep 2 [l1, l2] [] M =
    bif decide (1 < l1) then am_ev am_PP nX6_isStep 5 [] [] M
    else am_ev am_PP nX6_isStep 3 [l2] [] M := (am_blk am_PP _ _ _ _ _).trans rfl
theorem be_X6_isStep_3 (M : am_M) (l2 : Int) : am_ev am_PP nX6_isStep 3 [l2] [] M =
    (am_evm am_PP nX6_isRegister [(0, l2)] M).bind fun q1 =>
    bif decide (q1.1 = 0) then am_ev am_PP nX6_isStep 5 [] [] q1.2
    else am_ev am_PP nX6_isStep 4 [] [] q1.2 := (am_blk am_PP _ _ _ _ _).trans rfl
