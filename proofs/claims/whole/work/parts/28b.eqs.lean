theorem be_X2_spread_6 (M : am_M) : am_ev am_PP nX2_spread 6 [] [] M =
    if 0 = 0 ∨ 0 = 1 then some (0, M) else none := (am_blk am_PP _ _ _ _ _).trans rfl
theorem be_X2_setFraction_m (M : am_M) (a0 a1 a2 a3 : Int) : am_evm am_PP nX2_setFraction [(2, a0), (0, a1), (1, a2), (1, a3)] M = am_ev am_PP nX2_setFraction 0 [a0, a1, a2, a3] [] M := rfl
theorem be_X2_setFraction_0 (M : am_M) (l0 l1 l2 l4 : Int) : am_ev am_PP nX2_setFraction 0 [l0, l1, l2, l4] [] M =
    (am_evm am_PP nX2_greatestDivisor [(1, l2), (1, l4)] M).bind fun q1 =>
    bif decide ((am_lcmp l2 0) = 0) then am_ev am_PP nX2_setFraction 5 [l0] [] q1.2
    else am_ev am_PP nX2_setFraction 1 [l0, l1, l2, l4, q1.1] [] q1.2 := (am_blk am_PP _ _ _ _ _).trans rfl
theorem be_X2_setFraction_1 (M : am_M) (l0 l1 l2 l4 l6 : Int) : am_ev am_PP nX2_setFraction 1 [l0, l1, l2, l4, l6] [] M =
    bif decide ((am_lcmp l4 0) = 0) then am_ev am_PP nX2_setFraction 5 [l0] [] M
    else am_ev am_PP nX2_setFraction 2 [l0, l1, l2, l4, l6] [] M := (am_blk am_PP _ _ _ _ _).trans rfl
theorem be_X2_setFraction_2 (M : am_M) (l0 l1 l2 l4 l6 : Int) : am_ev am_PP nX2_setFraction 2 [l0, l1, l2, l4, l6] [] M =
    bif decide ((am_lcmp l6 0) = 0) then am_ev am_PP nX2_setFraction 5 [l0] [] M
    else am_ev am_PP nX2_setFraction 3 [l0, l1, l2, l4, l6] [] M := (am_blk am_PP _ _ _ _ _).trans rfl
theorem be_X2_setFraction_3 (M : am_M) (l0 l1 l2 l4 l6 : Int) : am_ev am_PP nX2_setFraction 3 [l0, l1, l2, l4, l6] [] M =
    (am_ldiv l2 l6).bind fun v1 =>
    bif decide (0 < (am_lcmp v1 1000000)) then am_ev am_PP nX2_setFraction 5 [l0] [] M
    else am_ev am_PP nX2_setFraction 4 [l0, l1, l2, l4, l6] [] M := (am_blk am_PP _ _ _ _ _).trans rfl
theorem be_X2_setFraction_4 (M : am_M) (l0 l1 l2 l4 l6 : Int) : am_ev am_PP nX2_setFraction 4 [l0, l1, l2, l4, l6] [] M =
    (am_ldiv l4 l6).bind fun v1 =>
    bif decide ((am_lcmp v1 1000000) ≤ 0) then am_ev am_PP nX2_setFraction 6 [l0, l1, l2, l4, l6] [] M
    else am_ev am_PP nX2_setFraction 5 [l0] [] M := (am_blk am_PP _ _ _ _ _).trans rfl
theorem be_X2_setFraction_5 (M : am_M) (l0 : Int) : am_ev am_PP nX2_setFraction 5 [l0] [] M =
    (am_pf 2 3 4 M l0 1).bind fun M1 =>
    some (0, M1) := (am_blk am_PP _ _ _ _ _).trans rfl
theorem be_X2_setFraction_6 (M : am_M) (l0 l1 l2 l4 l6 : Int) : am_ev am_PP nX2_setFraction 6 [l0, l1, l2, l4, l6] [] M =
    (am_gf 2 1 M l0).bind fun v1 =>
    (am_ldiv l2 l6).bind fun v2 =>
    (am_ast 1 M v1 l1 v2).bind fun M1 =>
    (am_gf 2 2 M1 l0).bind fun v3 =>
    (am_ldiv l4 l6).bind fun v4 =>
    (am_ast 1 M1 v3 l1 v4).bind fun M2 =>
    some (0, M2) := (am_blk am_PP _ _ _ _ _).trans rfl
theorem be_X2_agreesWithAll_m (M : am_M) (a0 a1 a2 : Int) : am_evm am_PP nX2_agreesWithAll [(2, a0), (2, a1), (0, a2)] M = am_ev am_PP nX2_agreesWithAll 0 [a0, a1, a2] [] M := rfl
theorem be_X2_agreesWithAll_0 (M : am_M) (l0 l1 l2 : Int) : am_ev am_PP nX2_agreesWithAll 0 [l0, l1, l2] [] M =
    am_ev am_PP nX2_agreesWithAll 1 [l0, l1, l2, 0] [] M := (am_blk am_PP _ _ _ _ _).trans rfl
theorem be_X2_agreesWithAll_1 (M : am_M) (l0 l1 l2 l3 : Int) : am_ev am_PP nX2_agreesWithAll 1 [l0, l1, l2, l3] [] M =
    bif decide (l2 ≤ l3) then am_ev am_PP nX2_agreesWithAll 5 [] [] M
    else am_ev am_PP nX2_agreesWithAll 2 [l0, l1, l2, l3] [] M := (am_blk am_PP _ _ _ _ _).trans rfl
set_option maxRecDepth 100000 in
set_option maxHeartbeats 8000000 in
theorem be_X2_agreesWithAll_2 (M : am_M) (l0 l1 l2 l3 : Int) : am_ev am_PP nX2_agreesWithAll 2 [l0, l1, l2, l3] [] M =
    (am_ald 4 M l1 l3).bind fun v1 =>
    (am_gf 0 2 M v1).bind fun v2 =>
    (am_gf 5 0 M v2).bind fun v3 =>
    (am_ald 4 M l1 l3).bind fun v4 =>
    (am_gf 0 3 M v4).bind fun v5 =>
    (am_gf 5 0 M v5).bind fun v6 =>
    (am_gf 2 1 M l0).bind fun v7 =>
    (am_ald 1 M v7 v3).bind fun v8 =>
    (am_ald 4 M l1 l3).bind fun v9 =>
    (am_gf 0 2 M v9).bind fun v10 =>
    (am_evm am_PP nX2_writtenByFiring [(2, v10)] M).bind fun q11 =>
    (am_gf 2 2 q11.2 l0).bind fun v12 =>
    (am_ald 1 q11.2 v12 v6).bind fun v13 =>
    (am_gf 2 1 q11.2 l0).bind fun v14 =>
    (am_ald 1 q11.2 v14 v6).bind fun v15 =>
    (am_gf 2 2 q11.2 l0).bind fun v16 =>
    (am_ald 1 q11.2 v16 v3).bind fun v17 =>
    bif decide ((am_lcmp (am_w64 ((am_w64 (v8 * q11.1)) * v13)) (am_w64 (v15 * v17))) = 0) then am_ev am_PP nX2_agreesWithAll 4 [l0, l1, l2, l3] [] q11.2
    else am_ev am_PP nX2_agreesWithAll 3 [] [] q11.2 := (am_blk am_PP _ _ _ _ _).trans rfl
theorem be_X2_agreesWithAll_3 (M : am_M) : am_ev am_PP nX2_agreesWithAll 3 [] [] M =
    if 0 = 0 ∨ 0 = 1 then some (0, M) else none := (am_blk am_PP _ _ _ _ _).trans rfl
theorem be_X2_agreesWithAll_4 (M : am_M) (l0 l1 l2 l3 : Int) : am_ev am_PP nX2_agreesWithAll 4 [l0, l1, l2, l3] [] M =
    am_ev am_PP nX2_agreesWithAll 1 [l0, l1, l2, (am_w32 (l3 + 1))] [] M := (am_blk am_PP _ _ _ _ _).trans rfl
theorem be_X2_agreesWithAll_5 (M : am_M) : am_ev am_PP nX2_agreesWithAll 5 [] [] M =
    if 1 = 0 ∨ 1 = 1 then some (1, M) else none := (am_blk am_PP _ _ _ _ _).trans rfl
theorem be_X2_makeWhole_m (M : am_M) (a0 a1 : Int) : am_evm am_PP nX2_makeWhole [(2, a0), (0, a1)] M = am_ev am_PP nX2_makeWhole 0 [a0, a1] [] M := rfl
theorem be_X2_makeWhole_0 (M : am_M) (l0 l1 : Int) : am_ev am_PP nX2_makeWhole 0 [l0, l1] [] M =
    am_ev am_PP nX2_makeWhole 1 [l0, l1, 0] [] M := (am_blk am_PP _ _ _ _ _).trans rfl
theorem be_X2_makeWhole_1 (M : am_M) (l0 l1 l2 : Int) : am_ev am_PP nX2_makeWhole 1 [l0, l1, l2] [] M =
    bif decide (l1 ≤ l2) then am_ev am_PP nX2_makeWhole 6 [] [] M
    else am_ev am_PP nX2_makeWhole 2 [l0, l1, l2] [] M := (am_blk am_PP _ _ _ _ _).trans rfl
theorem be_X2_makeWhole_2 (M : am_M) (l0 l1 l2 : Int) : am_ev am_PP nX2_makeWhole 2 [l0, l1, l2] [] M =
    (am_gf 2 0 M l0).bind fun v1 =>
    (am_ald 0 M v1 l2).bind fun v2 =>
    bif !(decide (v2 = l2)) then am_ev am_PP nX2_makeWhole 5 [l0, l1, l2] [] M
    else am_ev am_PP nX2_makeWhole 3 [l0, l1, l2] [] M := (am_blk am_PP _ _ _ _ _).trans rfl
theorem be_X2_makeWhole_3 (M : am_M) (l0 l1 l2 : Int) : am_ev am_PP nX2_makeWhole 3 [l0, l1, l2] [] M =
    if 0 < l0 ∧ am_cls l0 = 2 then
    (am_evm am_PP nX2_makePartWhole [(2, l0), (0, l2), (0, l1)] M).bind fun q1 =>
    bif !(decide (q1.1 = 0)) then am_ev am_PP nX2_makeWhole 5 [l0, l1, l2] [] q1.2
    else am_ev am_PP nX2_makeWhole 4 [] [] q1.2
    else none := (am_blk am_PP _ _ _ _ _).trans rfl
theorem be_X2_makeWhole_4 (M : am_M) : am_ev am_PP nX2_makeWhole 4 [] [] M =
    if 0 = 0 ∨ 0 = 1 then some (0, M) else none := (am_blk am_PP _ _ _ _ _).trans rfl
theorem be_X2_makeWhole_5 (M : am_M) (l0 l1 l2 : Int) : am_ev am_PP nX2_makeWhole 5 [l0, l1, l2] [] M =
    am_ev am_PP nX2_makeWhole 1 [l0, l1, (am_w32 (l2 + 1))] [] M := (am_blk am_PP _ _ _ _ _).trans rfl
theorem be_X2_makeWhole_6 (M : am_M) : am_ev am_PP nX2_makeWhole 6 [] [] M =
    if 1 = 0 ∨ 1 = 1 then some (1, M) else none := (am_blk am_PP _ _ _ _ _).trans rfl
theorem be_X2_makePartWhole_m (M : am_M) (a0 a1 a2 : Int) : am_evm am_PP nX2_makePartWhole [(2, a0), (0, a1), (0, a2)] M = am_ev am_PP nX2_makePartWhole 0 [a0, a1, a2] [] M := rfl
theorem be_X2_makePartWhole_0 (M : am_M) (l0 l1 l2 : Int) : am_ev am_PP nX2_makePartWhole 0 [l0, l1, l2] [] M =
    am_ev am_PP nX2_makePartWhole 1 [l0, l1, l2, 1, l1] [] M := (am_blk am_PP _ _ _ _ _).trans rfl
theorem be_X2_makePartWhole_1 (M : am_M) (l0 l1 l2 l3 l5 : Int) : am_ev am_PP nX2_makePartWhole 1 [l0, l1, l2, l3, l5] [] M =
    bif decide (l2 ≤ l5) then am_ev am_PP nX2_makePartWhole 10 [l0, l1, l2, l3] [] M
    else am_ev am_PP nX2_makePartWhole 2 [l0, l1, l2, l3, l5] [] M := (am_blk am_PP _ _ _ _ _).trans rfl
theorem be_X2_makePartWhole_2 (M : am_M) (l0 l1 l2 l3 l5 : Int) : am_ev am_PP nX2_makePartWhole 2 [l0, l1, l2, l3, l5] [] M =
    (am_gf 2 0 M l0).bind fun v1 =>
    (am_ald 0 M v1 l5).bind fun v2 =>
    bif !(decide (v2 = l1)) then am_ev am_PP nX2_makePartWhole 4 [l0, l1, l2, l3, l5] [] M
    else am_ev am_PP nX2_makePartWhole 3 [l0, l1, l2, l3, l5] [] M := (am_blk am_PP _ _ _ _ _).trans rfl
theorem be_X2_makePartWhole_3 (M : am_M) (l0 l1 l2 l3 l5 : Int) : am_ev am_PP nX2_makePartWhole 3 [l0, l1, l2, l3, l5] [] M =
    (am_gf 2 2 M l0).bind fun v1 =>
    (am_ald 1 M v1 l5).bind fun v2 =>
    (am_evm am_PP nX2_greatestDivisor [(1, l3), (1, v2)] M).bind fun q3 =>
    am_ev am_PP nX2_makePartWhole 5 [l0, l1, l2, l3, l5] [(1, q3.1)] q3.2 := (am_blk am_PP _ _ _ _ _).trans rfl
theorem be_X2_makePartWhole_4 (M : am_M) (l0 l1 l2 l3 l5 : Int) : am_ev am_PP nX2_makePartWhole 4 [l0, l1, l2, l3, l5] [] M =
    am_ev am_PP nX2_makePartWhole 5 [l0, l1, l2, l3, l5] [(1, 0)] M := (am_blk am_PP _ _ _ _ _).trans rfl
theorem be_X2_makePartWhole_5 (M : am_M) (l0 l1 l2 l3 l5 s0 : Int) : am_ev am_PP nX2_makePartWhole 5 [l0, l1, l2, l3, l5] [(1, s0)] M =
    bif decide ((am_lcmp s0 0) = 0) then am_ev am_PP nX2_makePartWhole 7 [l0, l1, l2, l3, l5] [] M
    else am_ev am_PP nX2_makePartWhole 6 [l0, l1, l2, l3, l5, s0] [] M := (am_blk am_PP _ _ _ _ _).trans rfl
theorem be_X2_makePartWhole_6 (M : am_M) (l0 l1 l2 l3 l5 l6 : Int) : am_ev am_PP nX2_makePartWhole 6 [l0, l1, l2, l3, l5, l6] [] M =
    (am_ldiv l3 l6).bind fun v1 =>
    (am_gf 2 2 M l0).bind fun v2 =>
    (am_ald 1 M v2 l5).bind fun v3 =>
    am_ev am_PP nX2_makePartWhole 7 [l0, l1, l2, (am_w64 (v1 * v3)), l5] [] M := (am_blk am_PP _ _ _ _ _).trans rfl
theorem be_X2_makePartWhole_7 (M : am_M) (l0 l1 l2 l3 l5 : Int) : am_ev am_PP nX2_makePartWhole 7 [l0, l1, l2, l3, l5] [] M =
    bif decide ((am_lcmp l3 1000000) ≤ 0) then am_ev am_PP nX2_makePartWhole 9 [l0, l1, l2, l3, l5] [] M
    else am_ev am_PP nX2_makePartWhole 8 [] [] M := (am_blk am_PP _ _ _ _ _).trans rfl
theorem be_X2_makePartWhole_8 (M : am_M) : am_ev am_PP nX2_makePartWhole 8 [] [] M =
    if 0 = 0 ∨ 0 = 1 then some (0, M) else none := (am_blk am_PP _ _ _ _ _).trans rfl
theorem be_X2_makePartWhole_9 (M : am_M) (l0 l1 l2 l3 l5 : Int) : am_ev am_PP nX2_makePartWhole 9 [l0, l1, l2, l3, l5] [] M =
    am_ev am_PP nX2_makePartWhole 1 [l0, l1, l2, l3, (am_w32 (l5 + 1))] [] M := (am_blk am_PP _ _ _ _ _).trans rfl
theorem be_X2_makePartWhole_10 (M : am_M) (l0 l1 l2 l3 : Int) : am_ev am_PP nX2_makePartWhole 10 [l0, l1, l2, l3] [] M =
    am_ev am_PP nX2_makePartWhole 11 [l0, l1, l2, l3, l1] [] M := (am_blk am_PP _ _ _ _ _).trans rfl
theorem be_X2_makePartWhole_11 (M : am_M) (l0 l1 l2 l3 l5 : Int) : am_ev am_PP nX2_makePartWhole 11 [l0, l1, l2, l3, l5] [] M =
    bif decide (l2 ≤ l5) then am_ev am_PP nX2_makePartWhole 17 [] [] M
    else am_ev am_PP nX2_makePartWhole 12 [l0, l1, l2, l3, l5] [] M := (am_blk am_PP _ _ _ _ _).trans rfl
theorem be_X2_makePartWhole_12 (M : am_M) (l0 l1 l2 l3 l5 : Int) : am_ev am_PP nX2_makePartWhole 12 [l0, l1, l2, l3, l5] [] M =
    (am_gf 2 0 M l0).bind fun v1 =>
    (am_ald 0 M v1 l5).bind fun v2 =>
    bif !(decide (v2 = l1)) then am_ev am_PP nX2_makePartWhole 16 [l0, l1, l2, l3, l5] [] M
    else am_ev am_PP nX2_makePartWhole 13 [l0, l1, l2, l3, l5] [] M := (am_blk am_PP _ _ _ _ _).trans rfl
theorem be_X2_makePartWhole_13 (M : am_M) (l0 l1 l2 l3 l5 : Int) : am_ev am_PP nX2_makePartWhole 13 [l0, l1, l2, l3, l5] [] M =
    (am_gf 2 2 M l0).bind fun v1 =>
    (am_ald 1 M v1 l5).bind fun v2 =>
    bif decide ((am_lcmp v2 0) = 0) then am_ev am_PP nX2_makePartWhole 16 [l0, l1, l2, l3, l5] [] M
    else am_ev am_PP nX2_makePartWhole 14 [l0, l1, l2, l3, l5] [] M := (am_blk am_PP _ _ _ _ _).trans rfl
theorem be_X2_makePartWhole_14 (M : am_M) (l0 l1 l2 l3 l5 : Int) : am_ev am_PP nX2_makePartWhole 14 [l0, l1, l2, l3, l5] [] M =
    (am_gf 2 1 M l0).bind fun v1 =>
    (am_ald 1 M v1 l5).bind fun v2 =>
    (am_gf 2 2 M l0).bind fun v3 =>
    (am_ald 1 M v3 l5).bind fun v4 =>
    (am_ldiv l3 v4).bind fun v5 =>
    (am_ast 1 M v1 l5 (am_w64 (v2 * v5))).bind fun M1 =>
    (am_gf 2 1 M1 l0).bind fun v6 =>
    (am_ald 1 M1 v6 l5).bind fun v7 =>
    bif decide ((am_lcmp v7 1000000) ≤ 0) then am_ev am_PP nX2_makePartWhole 16 [l0, l1, l2, l3, l5] [] M1
    else am_ev am_PP nX2_makePartWhole 15 [] [] M1 := (am_blk am_PP _ _ _ _ _).trans rfl
theorem be_X2_makePartWhole_15 (M : am_M) : am_ev am_PP nX2_makePartWhole 15 [] [] M =
    if 0 = 0 ∨ 0 = 1 then some (0, M) else none := (am_blk am_PP _ _ _ _ _).trans rfl
theorem be_X2_makePartWhole_16 (M : am_M) (l0 l1 l2 l3 l5 : Int) : am_ev am_PP nX2_makePartWhole 16 [l0, l1, l2, l3, l5] [] M =
    am_ev am_PP nX2_makePartWhole 11 [l0, l1, l2, l3, (am_w32 (l5 + 1))] [] M := (am_blk am_PP _ _ _ _ _).trans rfl
theorem be_X2_makePartWhole_17 (M : am_M) : am_ev am_PP nX2_makePartWhole 17 [] [] M =
    if 1 = 0 ∨ 1 = 1 then some (1, M) else none := (am_blk am_PP _ _ _ _ _).trans rfl
theorem be_X2_greatestDivisor_m (M : am_M) (a0 a1 : Int) : am_evm am_PP nX2_greatestDivisor [(1, a0), (1, a1)] M = am_ev am_PP nX2_greatestDivisor 0 [a0, a1] [] M := rfl
theorem be_X2_greatestDivisor_0 (M : am_M) (l0 l2 : Int) : am_ev am_PP nX2_greatestDivisor 0 [l0, l2] [] M =
    am_ev am_PP nX2_greatestDivisor 1 [l0, l2, 0] [] M := (am_blk am_PP _ _ _ _ _).trans rfl
theorem be_X2_greatestDivisor_1 (M : am_M) (l4 l6 l8 : Int) : am_ev am_PP nX2_greatestDivisor 1 [l4, l6, l8] [] M =
    bif decide (100 ≤ l8) then am_ev am_PP nX2_greatestDivisor 4 [l4] [] M
    else am_ev am_PP nX2_greatestDivisor 2 [l4, l6, l8] [] M := (am_blk am_PP _ _ _ _ _).trans rfl
theorem be_X2_greatestDivisor_2 (M : am_M) (l4 l6 l8 : Int) : am_ev am_PP nX2_greatestDivisor 2 [l4, l6, l8] [] M =
    bif decide ((am_lcmp l6 0) = 0) then am_ev am_PP nX2_greatestDivisor 4 [l4] [] M
    else am_ev am_PP nX2_greatestDivisor 3 [l4, l6, l8] [] M := (am_blk am_PP _ _ _ _ _).trans rfl
theorem be_X2_greatestDivisor_3 (M : am_M) (l4 l6 l8 : Int) : am_ev am_PP nX2_greatestDivisor 3 [l4, l6, l8] [] M =
    (am_lrem l4 l6).bind fun v1 =>
    am_ev am_PP nX2_greatestDivisor 1 [l6, v1, (am_w32 (l8 + 1))] [] M := (am_blk am_PP _ _ _ _ _).trans rfl
theorem be_X2_greatestDivisor_4 (M : am_M) (l4 : Int) : am_ev am_PP nX2_greatestDivisor 4 [l4] [] M =
    some (l4, M) := (am_blk am_PP _ _ _ _ _).trans rfl
theorem be_X3_init_m (M : am_M) (a0 : Int) : am_evm am_PP nX3_init [(2, a0)] M = am_ev am_PP nX3_init 0 [a0] [] M := rfl
theorem be_X3_init_0 (M : am_M) (l0 : Int) : am_ev am_PP nX3_init 0 [l0] [] M =
    if l0 = 0 then none else
    (am_newa 1 8 M (l0 + 1)).bind fun M1 =>
    (am_pf 3 0 0 M1 l0 (l0 + 1)).bind fun M2 =>
    some (0, M2) := (am_blk am_PP _ _ _ _ _).trans rfl
theorem be_X3_empty_m (M : am_M) (a0 : Int) : am_evm am_PP nX3_empty [(2, a0)] M = am_ev am_PP nX3_empty 0 [a0] [] M := rfl
theorem be_X3_empty_0 (M : am_M) (l0 : Int) : am_ev am_PP nX3_empty 0 [l0] [] M =
    (am_pf 3 1 0 M l0 0).bind fun M1 =>
    some (0, M1) := (am_blk am_PP _ _ _ _ _).trans rfl
theorem be_X3_append_m (M : am_M) (a0 a1 : Int) : am_evm am_PP nX3_append [(2, a0), (1, a1)] M = am_ev am_PP nX3_append 0 [a0, a1] [] M := rfl
theorem be_X3_append_0 (M : am_M) (l0 l1 : Int) : am_ev am_PP nX3_append 0 [l0, l1] [] M =
    (am_gf 3 1 M l0).bind fun v1 =>
    bif decide (300 ≤ v1) then am_ev am_PP nX3_append 4 [l0] [] M
    else am_ev am_PP nX3_append 1 [l0, l1] [] M := (am_blk am_PP _ _ _ _ _).trans rfl
theorem be_X3_append_1 (M : am_M) (l0 l1 : Int) : am_ev am_PP nX3_append 1 [l0, l1] [] M =
    (am_gf 3 1 M l0).bind fun v1 =>
    (am_gf 3 0 M l0).bind fun v2 =>
    (am_alen M v2).bind fun v3 =>
    bif decide (v1 < v3) then am_ev am_PP nX3_append 3 [l0, l1] [] M
    else am_ev am_PP nX3_append 2 [l0, l1] [] M := (am_blk am_PP _ _ _ _ _).trans rfl
theorem be_X3_append_2 (M : am_M) (l0 l1 : Int) : am_ev am_PP nX3_append 2 [l0, l1] [] M =
    (am_gf 3 0 M l0).bind fun v1 =>
    (am_gf 3 0 M l0).bind fun v2 =>
    (am_alen M v2).bind fun v3 =>
    (am_evm am_PP nJ7_copyOf_c38d5 [(2, v1), (0, (if 300 < (am_w32 (2 * v3)) then 300 else (am_w32 (2 * v3))))] M).bind fun q4 =>
    (am_pf 3 0 0 q4.2 l0 q4.1).bind fun M1 =>
    am_ev am_PP nX3_append 3 [l0, l1] [] M1 := (am_blk am_PP _ _ _ _ _).trans rfl
theorem be_X3_append_3 (M : am_M) (l0 l1 : Int) : am_ev am_PP nX3_append 3 [l0, l1] [] M =
    (am_gf 3 0 M l0).bind fun v1 =>
    (am_gf 3 1 M l0).bind fun v2 =>
    (am_ast 1 M v1 v2 l1).bind fun M1 =>
    am_ev am_PP nX3_append 4 [l0] [] M1 := (am_blk am_PP _ _ _ _ _).trans rfl
theorem be_X3_append_4 (M : am_M) (l0 : Int) : am_ev am_PP nX3_append 4 [l0] [] M =
    (am_gf 3 1 M l0).bind fun v1 =>
    (am_pf 3 1 0 M l0 (am_w32 (v1 + 1))).bind fun M1 =>
    some (0, M1) := (am_blk am_PP _ _ _ _ _).trans rfl
theorem be_X3_at_m (M : am_M) (a0 a1 : Int) : am_evm am_PP nX3_at [(2, a0), (0, a1)] M = am_ev am_PP nX3_at 0 [a0, a1] [] M := rfl
theorem be_X3_at_0 (M : am_M) (l0 l1 : Int) : am_ev am_PP nX3_at 0 [l0, l1] [] M =
    bif decide (l1 < 0) then am_ev am_PP nX3_at 3 [] [] M
    else am_ev am_PP nX3_at 1 [l0, l1] [] M := (am_blk am_PP _ _ _ _ _).trans rfl
theorem be_X3_at_1 (M : am_M) (l0 l1 : Int) : am_ev am_PP nX3_at 1 [l0, l1] [] M =
    (am_gf 3 1 M l0).bind fun v1 =>
    bif decide (v1 ≤ l1) then am_ev am_PP nX3_at 3 [] [] M
    else am_ev am_PP nX3_at 2 [l0, l1] [] M := (am_blk am_PP _ _ _ _ _).trans rfl
theorem be_X3_at_2 (M : am_M) (l0 l1 : Int) : am_ev am_PP nX3_at 2 [l0, l1] [] M =
    (am_gf 3 0 M l0).bind fun v1 =>
    (am_alen M v1).bind fun v2 =>
    bif decide (l1 < v2) then am_ev am_PP nX3_at 4 [l0, l1] [] M
    else am_ev am_PP nX3_at 3 [] [] M := (am_blk am_PP _ _ _ _ _).trans rfl
theorem be_X3_at_3 (M : am_M) : am_ev am_PP nX3_at 3 [] [] M =
    am_ev am_PP nX3_at 5 [] [(1, 0)] M := (am_blk am_PP _ _ _ _ _).trans rfl
theorem be_X3_at_4 (M : am_M) (l0 l1 : Int) : am_ev am_PP nX3_at 4 [l0, l1] [] M =
    (am_gf 3 0 M l0).bind fun v1 =>
    (am_ald 1 M v1 l1).bind fun v2 =>
    am_ev am_PP nX3_at 5 [] [(1, v2)] M := (am_blk am_PP _ _ _ _ _).trans rfl
theorem be_X3_at_5 (M : am_M) (s0 : Int) : am_ev am_PP nX3_at 5 [] [(1, s0)] M =
    some (s0, M) := (am_blk am_PP _ _ _ _ _).trans rfl
theorem be_X4_init_m (M : am_M) (a0 : Int) : am_evm am_PP nX4_init [(2, a0)] M = am_ev am_PP nX4_init 0 [a0] [] M := rfl
theorem be_X4_init_0 (M : am_M) (l0 : Int) : am_ev am_PP nX4_init 0 [l0] [] M =
    if l0 = 0 then none else
    (am_newa 0 12 M (59 + 256 * (l0 / 256))).bind fun M1 =>
    (am_pf 4 0 0 M1 l0 (59 + 256 * (l0 / 256))).bind fun M2 =>
    (am_newa 0 12 M2 (73 + 256 * (l0 / 256))).bind fun M3 =>
    (am_pf 4 1 0 M3 l0 (73 + 256 * (l0 / 256))).bind fun M4 =>
    (am_newa 0 12 M4 (74 + 256 * (l0 / 256))).bind fun M5 =>
    (am_pf 4 2 0 M5 l0 (74 + 256 * (l0 / 256))).bind fun M6 =>
    (am_newa 1 4 M6 (60 + 256 * (l0 / 256))).bind fun M7 =>
    (am_pf 4 3 0 M7 l0 (60 + 256 * (l0 / 256))).bind fun M8 =>
    some (0, M8) := (am_blk am_PP _ _ _ _ _).trans rfl
theorem be_X4_append_m (M : am_M) (a0 a1 a2 a3 : Int) : am_evm am_PP nX4_append [(2, a0), (0, a1), (0, a2), (0, a3)] M = am_ev am_PP nX4_append 0 [a0, a1, a2, a3] [] M := rfl
theorem be_X4_append_0 (M : am_M) (l0 l1 l2 l3 : Int) : am_ev am_PP nX4_append 0 [l0, l1, l2, l3] [] M =
    (am_gf 4 4 M l0).bind fun v1 =>
    bif decide (12 ≤ v1) then am_ev am_PP nX4_append 2 [] [] M
    else am_ev am_PP nX4_append 1 [l0, l1, l2, l3] [] M := (am_blk am_PP _ _ _ _ _).trans rfl
set_option maxRecDepth 100000 in
set_option maxHeartbeats 8000000 in
theorem be_X4_append_1 (M : am_M) (l0 l1 l2 l3 : Int) : am_ev am_PP nX4_append 1 [l0, l1, l2, l3] [] M =
    (am_gf 4 0 M l0).bind fun v1 =>
    (am_gf 4 4 M l0).bind fun v2 =>
    (am_ast 0 M v1 v2 l1).bind fun M1 =>
    (am_gf 4 1 M1 l0).bind fun v3 =>
    (am_gf 4 4 M1 l0).bind fun v4 =>
    (am_ast 0 M1 v3 v4 l2).bind fun M2 =>
    (am_gf 4 2 M2 l0).bind fun v5 =>
    (am_gf 4 4 M2 l0).bind fun v6 =>
    (am_ast 0 M2 v5 v6 l3).bind fun M3 =>
    (am_gf 4 4 M3 l0).bind fun v7 =>
    (am_pf 4 4 0 M3 l0 (am_w32 (v7 + 1))).bind fun M4 =>
    am_ev am_PP nX4_append 2 [] [] M4 := (am_blk am_PP _ _ _ _ _).trans rfl
theorem be_X4_append_2 (M : am_M) : am_ev am_PP nX4_append 2 [] [] M =
    some (0, M) := (am_blk am_PP _ _ _ _ _).trans rfl
theorem be_X4_restart_m (M : am_M) (a0 : Int) : am_evm am_PP nX4_restart [(2, a0)] M = am_ev am_PP nX4_restart 0 [a0] [] M := rfl
theorem be_X4_restart_0 (M : am_M) (l0 : Int) : am_ev am_PP nX4_restart 0 [l0] [] M =
    (am_pf 4 5 0 M l0 0).bind fun M1 =>
    (am_gf 4 3 M1 l0).bind fun v1 =>
    (am_evm am_PP nJ7_fill_d0a16 [(2, v1), (1, 0)] M1).bind fun q2 =>
    some (0, q2.2) := (am_blk am_PP _ _ _ _ _).trans rfl
theorem be_X4_nextAct_m (M : am_M) (a0 : Int) : am_evm am_PP nX4_nextAct [(2, a0)] M = am_ev am_PP nX4_nextAct 0 [a0] [] M := rfl
theorem be_X4_nextAct_0 (M : am_M) (l0 : Int) : am_ev am_PP nX4_nextAct 0 [l0] [] M =
    (am_gf 4 4 M l0).bind fun v1 =>
    bif !(decide (v1 = 0)) then am_ev am_PP nX4_nextAct 2 [l0] [] M
    else am_ev am_PP nX4_nextAct 1 [] [] M := (am_blk am_PP _ _ _ _ _).trans rfl
theorem be_X4_nextAct_1 (M : am_M) : am_ev am_PP nX4_nextAct 1 [] [] M =
    some (8, M) := (am_blk am_PP _ _ _ _ _).trans rfl
theorem be_X4_nextAct_2 (M : am_M) (l0 : Int) : am_ev am_PP nX4_nextAct 2 [l0] [] M =
    am_ev am_PP nX4_nextAct 3 [l0, 0] [] M := (am_blk am_PP _ _ _ _ _).trans rfl
theorem be_X4_nextAct_3 (M : am_M) (l0 l1 : Int) : am_ev am_PP nX4_nextAct 3 [l0, l1] [] M =
    bif decide (100 ≤ l1) then am_ev am_PP nX4_nextAct 12 [] [] M
    else am_ev am_PP nX4_nextAct 4 [l0, l1] [] M := (am_blk am_PP _ _ _ _ _).trans rfl
theorem be_X4_nextAct_4 (M : am_M) (l0 l1 : Int) : am_ev am_PP nX4_nextAct 4 [l0, l1] [] M =
    (am_gf 4 0 M l0).bind fun v1 =>
    (am_gf 4 5 M l0).bind fun v2 =>
    (am_ald 0 M v1 v2).bind fun v3 =>
    bif decide (v3 < 2) then am_ev am_PP nX4_nextAct 6 [v3] [] M
    else am_ev am_PP nX4_nextAct 5 [l0, l1, v3] [] M := (am_blk am_PP _ _ _ _ _).trans rfl
theorem be_X4_nextAct_5 (M : am_M) (l0 l1 l2 : Int) : am_ev am_PP nX4_nextAct 5 [l0, l1, l2] [] M =
    bif decide (l2 ≤ 5) then am_ev am_PP nX4_nextAct 7 [l0, l1, l2] [] M
    else am_ev am_PP nX4_nextAct 6 [l2] [] M := (am_blk am_PP _ _ _ _ _).trans rfl
theorem be_X4_nextAct_6 (M : am_M) (l2 : Int) : am_ev am_PP nX4_nextAct 6 [l2] [] M =
    some (l2, M) := (am_blk am_PP _ _ _ _ _).trans rfl
theorem be_X4_nextAct_7 (M : am_M) (l0 l1 l2 : Int) : am_ev am_PP nX4_nextAct 7 [l0, l1, l2] [] M =
    bif !(decide (l2 = 5)) then am_ev am_PP nX4_nextAct 10 [l0, l1, l2] [] M
    else am_ev am_PP nX4_nextAct 8 [l0, l1, l2] [] M := (am_blk am_PP _ _ _ _ _).trans rfl
theorem be_X4_nextAct_8 (M : am_M) (l0 l1 l2 : Int) : am_ev am_PP nX4_nextAct 8 [l0, l1, l2] [] M =
    (am_gf 4 3 M l0).bind fun v1 =>
    (am_gf 4 2 M l0).bind fun v2 =>
    (am_gf 4 5 M l0).bind fun v3 =>
    (am_ald 0 M v2 v3).bind fun v4 =>
    (am_ald 1 M v1 v4).bind fun v5 =>
    bif decide ((am_lcmp v5 0) = 0) then am_ev am_PP nX4_nextAct 10 [l0, l1, l2] [] M
    else am_ev am_PP nX4_nextAct 9 [l0, l1] [] M := (am_blk am_PP _ _ _ _ _).trans rfl
theorem be_X4_nextAct_9 (M : am_M) (l0 l1 : Int) : am_ev am_PP nX4_nextAct 9 [l0, l1] [] M =
    (am_gf 4 1 M l0).bind fun v1 =>
    (am_gf 4 5 M l0).bind fun v2 =>
    (am_ald 0 M v1 v2).bind fun v3 =>
    if 0 < l0 ∧ am_cls l0 = 4 then
    (am_evm am_PP nX4_goTo [(2, l0), (0, v3)] M).bind fun q4 =>
    am_ev am_PP nX4_nextAct 11 [l0, l1] [] q4.2
    else none := (am_blk am_PP _ _ _ _ _).trans rfl
theorem be_X4_nextAct_10 (M : am_M) (l0 l1 l2 : Int) : am_ev am_PP nX4_nextAct 10 [l0, l1, l2] [] M =
    (am_gf 4 1 M l0).bind fun v1 =>
    (am_gf 4 5 M l0).bind fun v2 =>
    (am_ald 0 M v1 v2).bind fun v3 =>
    (am_gf 4 2 M l0).bind fun v4 =>
    (am_gf 4 5 M l0).bind fun v5 =>
    (am_ald 0 M v4 v5).bind fun v6 =>
    if 0 < l0 ∧ am_cls l0 = 4 then
    (am_evm am_PP nX4_reckon [(2, l0), (0, l2), (0, v3), (0, v6)] M).bind fun q7 =>
    (am_gf 4 5 q7.2 l0).bind fun v8 =>
    if 0 < l0 ∧ am_cls l0 = 4 then
    (am_evm am_PP nX4_goTo [(2, l0), (0, (am_w32 (v8 + 1)))] q7.2).bind fun q9 =>
    am_ev am_PP nX4_nextAct 11 [l0, l1] [] q9.2
    else none
    else none := (am_blk am_PP _ _ _ _ _).trans rfl
theorem be_X4_nextAct_11 (M : am_M) (l0 l1 : Int) : am_ev am_PP nX4_nextAct 11 [l0, l1] [] M =
    am_ev am_PP nX4_nextAct 3 [l0, (am_w32 (l1 + 1))] [] M := (am_blk am_PP _ _ _ _ _).trans rfl
theorem be_X4_nextAct_12 (M : am_M) : am_ev am_PP nX4_nextAct 12 [] [] M =
    some (9, M) := (am_blk am_PP _ _ _ _ _).trans rfl
theorem be_X4_reckon_m (M : am_M) (a0 a1 a2 a3 : Int) : am_evm am_PP nX4_reckon [(2, a0), (0, a1), (0, a2), (0, a3)] M = am_ev am_PP nX4_reckon 0 [a0, a1, a2, a3] [] M := rfl
theorem be_X4_reckon_0 (M : am_M) (l0 l1 l2 l3 : Int) : am_ev am_PP nX4_reckon 0 [l0, l1, l2, l3] [] M =
    bif decide (l1 = 2) then am_ev am_PP nX4_reckon 1 [l0, l2, l3] [] M else
    bif decide (l1 = 3) then am_ev am_PP nX4_reckon 2 [l0, l2, l3] [] M else
    bif decide (l1 = 4) then am_ev am_PP nX4_reckon 3 [l0, l2, l3] [] M else
    am_ev am_PP nX4_reckon 7 [] [] M := (am_blk am_PP _ _ _ _ _).trans rfl
theorem be_X4_reckon_1 (M : am_M) (l0 l2 l3 : Int) : am_ev am_PP nX4_reckon 1 [l0, l2, l3] [] M =
    (am_gf 4 3 M l0).bind fun v1 =>
    (am_ast 1 M v1 l2 l3).bind fun M1 =>
    am_ev am_PP nX4_reckon 7 [] [] M1 := (am_blk am_PP _ _ _ _ _).trans rfl
theorem be_X4_reckon_2 (M : am_M) (l0 l2 l3 : Int) : am_ev am_PP nX4_reckon 2 [l0, l2, l3] [] M =
    (am_gf 4 3 M l0).bind fun v1 =>
    (am_ald 1 M v1 l2).bind fun v2 =>
    (am_gf 4 3 M l0).bind fun v3 =>
    (am_ald 1 M v3 l3).bind fun v4 =>
    (am_ast 1 M v1 l2 (am_w64 (v2 + v4))).bind fun M1 =>
    am_ev am_PP nX4_reckon 7 [] [] M1 := (am_blk am_PP _ _ _ _ _).trans rfl
theorem be_X4_reckon_3 (M : am_M) (l0 l2 l3 : Int) : am_ev am_PP nX4_reckon 3 [l0, l2, l3] [] M =
    (am_gf 4 3 M l0).bind fun v1 =>
    (am_gf 4 3 M l0).bind fun v2 =>
    (am_ald 1 M v2 l2).bind fun v3 =>
    (am_gf 4 3 M l0).bind fun v4 =>
    (am_ald 1 M v4 l3).bind fun v5 =>
    bif decide (0 ≤ (am_lcmp v3 v5)) then am_ev am_PP nX4_reckon 5 [] [(0, l2), (2, v1)] M
    else am_ev am_PP nX4_reckon 4 [] [(0, l2), (2, v1)] M := (am_blk am_PP _ _ _ _ _).trans rfl
theorem be_X4_reckon_4 (M : am_M) (s0 s1 : Int) : am_ev am_PP nX4_reckon 4 [] [(0, s1), (2, s0)] M =
    am_ev am_PP nX4_reckon 6 [] [(1, 1), (0, s1), (2, s0)] M := (am_blk am_PP _ _ _ _ _).trans rfl
theorem be_X4_reckon_5 (M : am_M) (s0 s1 : Int) : am_ev am_PP nX4_reckon 5 [] [(0, s1), (2, s0)] M =
    am_ev am_PP nX4_reckon 6 [] [(1, 0), (0, s1), (2, s0)] M := (am_blk am_PP _ _ _ _ _).trans rfl
theorem be_X4_reckon_6 (M : am_M) (s0 s1 s2 : Int) : am_ev am_PP nX4_reckon 6 [] [(1, s2), (0, s1), (2, s0)] M =
    (am_ast 1 M s0 s1 s2).bind fun M1 =>
    am_ev am_PP nX4_reckon 7 [] [] M1 := (am_blk am_PP _ _ _ _ _).trans rfl
theorem be_X4_reckon_7 (M : am_M) : am_ev am_PP nX4_reckon 7 [] [] M =
    some (0, M) := (am_blk am_PP _ _ _ _ _).trans rfl
theorem be_X4_goTo_m (M : am_M) (a0 a1 : Int) : am_evm am_PP nX4_goTo [(2, a0), (0, a1)] M = am_ev am_PP nX4_goTo 0 [a0, a1] [] M := rfl
theorem be_X4_goTo_0 (M : am_M) (l0 l1 : Int) : am_ev am_PP nX4_goTo 0 [l0, l1] [] M =
    (am_gf 4 4 M l0).bind fun v1 =>
    bif decide (v1 ≤ l1) then am_ev am_PP nX4_goTo 2 [] [(2, l0)] M
    else am_ev am_PP nX4_goTo 1 [l1] [(2, l0)] M := (am_blk am_PP _ _ _ _ _).trans rfl
theorem be_X4_goTo_1 (M : am_M) (l1 s0 : Int) : am_ev am_PP nX4_goTo 1 [l1] [(2, s0)] M =
    am_ev am_PP nX4_goTo 3 [] [(0, l1), (2, s0)] M := (am_blk am_PP _ _ _ _ _).trans rfl
theorem be_X4_goTo_2 (M : am_M) (s0 : Int) : am_ev am_PP nX4_goTo 2 [] [(2, s0)] M =
    am_ev am_PP nX4_goTo 3 [] [(0, 0), (2, s0)] M := (am_blk am_PP _ _ _ _ _).trans rfl
theorem be_X4_goTo_3 (M : am_M) (s0 s1 : Int) : am_ev am_PP nX4_goTo 3 [] [(0, s1), (2, s0)] M =
    (am_pf 4 5 0 M s0 s1).bind fun M1 =>
    some (0, M1) := (am_blk am_PP _ _ _ _ _).trans rfl
theorem be_X4_isAtTry_m (M : am_M) (a0 : Int) : am_evm am_PP nX4_isAtTry [(2, a0)] M = am_ev am_PP nX4_isAtTry 0 [a0] [] M := rfl
theorem be_X4_isAtTry_0 (M : am_M) (l0 : Int) : am_ev am_PP nX4_isAtTry 0 [l0] [] M =
    (am_gf 4 4 M l0).bind fun v1 =>
    bif decide (v1 ≤ 0) then am_ev am_PP nX4_isAtTry 3 [] [] M
    else am_ev am_PP nX4_isAtTry 1 [l0] [] M := (am_blk am_PP _ _ _ _ _).trans rfl
theorem be_X4_isAtTry_1 (M : am_M) (l0 : Int) : am_ev am_PP nX4_isAtTry 1 [l0] [] M =
    (am_gf 4 0 M l0).bind fun v1 =>
    (am_gf 4 5 M l0).bind fun v2 =>
    (am_ald 0 M v1 v2).bind fun v3 =>
    bif !(decide (v3 = 6)) then am_ev am_PP nX4_isAtTry 3 [] [] M
    else am_ev am_PP nX4_isAtTry 2 [] [] M := (am_blk am_PP _ _ _ _ _).trans rfl
theorem be_X4_isAtTry_2 (M : am_M) : am_ev am_PP nX4_isAtTry 2 [] [] M =
    am_ev am_PP nX4_isAtTry 4 [] [(0, 1)] M := (am_blk am_PP _ _ _ _ _).trans rfl
theorem be_X4_isAtTry_3 (M : am_M) : am_ev am_PP nX4_isAtTry 3 [] [] M =
    am_ev am_PP nX4_isAtTry 4 [] [(0, 0)] M := (am_blk am_PP _ _ _ _ _).trans rfl
theorem be_X4_isAtTry_4 (M : am_M) (s0 : Int) : am_ev am_PP nX4_isAtTry 4 [] [(0, s0)] M =
    if s0 = 0 ∨ s0 = 1 then some (s0, M) else none := (am_blk am_PP _ _ _ _ _).trans rfl
theorem be_X4_portNow_m (M : am_M) (a0 : Int) : am_evm am_PP nX4_portNow [(2, a0)] M = am_ev am_PP nX4_portNow 0 [a0] [] M := rfl
theorem be_X4_portNow_0 (M : am_M) (l0 : Int) : am_ev am_PP nX4_portNow 0 [l0] [] M =
    (am_gf 4 1 M l0).bind fun v1 =>
    (am_gf 4 5 M l0).bind fun v2 =>
    (am_ald 0 M v1 v2).bind fun v3 =>
    some (v3, M) := (am_blk am_PP _ _ _ _ _).trans rfl
theorem be_X4_registerNow_m (M : am_M) (a0 : Int) : am_evm am_PP nX4_registerNow [(2, a0)] M = am_ev am_PP nX4_registerNow 0 [a0] [] M := rfl
theorem be_X4_registerNow_0 (M : am_M) (l0 : Int) : am_ev am_PP nX4_registerNow 0 [l0] [] M =
    (am_gf 4 3 M l0).bind fun v1 =>
    (am_gf 4 2 M l0).bind fun v2 =>
    (am_gf 4 5 M l0).bind fun v3 =>
    (am_ald 0 M v2 v3).bind fun v4 =>
    (am_ald 1 M v1 v4).bind fun v5 =>
    some (v5, M) := (am_blk am_PP _ _ _ _ _).trans rfl
theorem be_X4_keep_m (M : am_M) (a0 a1 : Int) : am_evm am_PP nX4_keep [(2, a0), (1, a1)] M = am_ev am_PP nX4_keep 0 [a0, a1] [] M := rfl
theorem be_X4_keep_0 (M : am_M) (l0 l1 : Int) : am_ev am_PP nX4_keep 0 [l0, l1] [] M =
    (am_gf 4 3 M l0).bind fun v1 =>
    (am_gf 4 2 M l0).bind fun v2 =>
    (am_gf 4 5 M l0).bind fun v3 =>
    (am_ald 0 M v2 v3).bind fun v4 =>
    (am_ast 1 M v1 v4 l1).bind fun M1 =>
    some (0, M1) := (am_blk am_PP _ _ _ _ _).trans rfl
theorem be_X4_goOn_m (M : am_M) (a0 : Int) : am_evm am_PP nX4_goOn [(2, a0)] M = am_ev am_PP nX4_goOn 0 [a0] [] M := rfl
theorem be_X4_goOn_0 (M : am_M) (l0 : Int) : am_ev am_PP nX4_goOn 0 [l0] [] M =
    (am_gf 4 5 M l0).bind fun v1 =>
    if 0 < l0 ∧ am_cls l0 = 4 then
    (am_evm am_PP nX4_goTo [(2, l0), (0, (am_w32 (v1 + 1)))] M).bind fun q2 =>
    some (0, q2.2)
    else none := (am_blk am_PP _ _ _ _ _).trans rfl
theorem be_X4_passOver_m (M : am_M) (a0 : Int) : am_evm am_PP nX4_passOver [(2, a0)] M = am_ev am_PP nX4_passOver 0 [a0] [] M := rfl
theorem be_X4_passOver_0 (M : am_M) (l0 : Int) : am_ev am_PP nX4_passOver 0 [l0] [] M =
    if 0 < l0 ∧ am_cls l0 = 4 then
    (am_evm am_PP nX4_goOn [(2, l0)] M).bind fun q1 =>
    if 0 < l0 ∧ am_cls l0 = 4 then
    (am_evm am_PP nX4_goOn [(2, l0)] q1.2).bind fun q2 =>
    some (0, q2.2)
    else none
    else none := (am_blk am_PP _ _ _ _ _).trans rfl
theorem be_X5_init_m (M : am_M) (a0 a1 : Int) : am_evm am_PP nX5_init [(2, a0), (0, a1)] M = am_ev am_PP nX5_init 0 [a0, a1] [] M := rfl
set_option maxRecDepth 100000 in
set_option maxHeartbeats 8000000 in
theorem be_X5_init_0 (M : am_M) (l0 l1 : Int) : am_ev am_PP nX5_init 0 [l0, l1] [] M =
    if l0 = 0 then none else
    (am_newa 4 3 M (55 + 256 * (l0 / 256))).bind fun M1 =>
    (am_pf 5 1 0 M1 l0 (55 + 256 * (l0 / 256))).bind fun M2 =>
    (am_newa 4 2 M2 (56 + 256 * (l0 / 256))).bind fun M3 =>
    (am_pf 5 2 0 M3 l0 (56 + 256 * (l0 / 256))).bind fun M4 =>
    (am_newo 3 M4 (20 + 256 * (l0 / 256))).bind fun M5 =>
    if (20 + 256 * (l0 / 256)) = 0 then none else
    (am_evm am_PP nX3_init [(2, (20 + 256 * (l0 / 256)))] M5).bind fun q1 =>
    (am_pf 5 3 0 q1.2 l0 (20 + 256 * (l0 / 256))).bind fun M6 =>
    (am_newo 1 M6 (11 + 256 * (l0 / 256))).bind fun M7 =>
    if (11 + 256 * (l0 / 256)) = 0 then none else
    (am_evm am_PP nX1_init [(2, (11 + 256 * (l0 / 256)))] M7).bind fun q2 =>
    (am_pf 5 4 0 q2.2 l0 (11 + 256 * (l0 / 256))).bind fun M8 =>
    (am_newo 4 M8 (14 + 256 * (l0 / 256))).bind fun M9 =>
    if (14 + 256 * (l0 / 256)) = 0 then none else
    (am_evm am_PP nX4_init [(2, (14 + 256 * (l0 / 256)))] M9).bind fun q3 =>
    (am_pf 5 5 0 q3.2 l0 (14 + 256 * (l0 / 256))).bind fun M10 =>
    (am_pf 5 0 0 M10 l0 l1).bind fun M11 =>
    some (0, M11) := (am_blk am_PP _ _ _ _ _).trans rfl
theorem be_X5_become_m (M : am_M) (a0 a1 a2 : Int) : am_evm am_PP nX5_become [(2, a0), (0, a1), (0, a2)] M = am_ev am_PP nX5_become 0 [a0, a1, a2] [] M := rfl
theorem be_X5_become_0 (M : am_M) (l0 l1 l2 : Int) : am_ev am_PP nX5_become 0 [l0, l1, l2] [] M =
    (am_pf 5 6 0 M l0 l1).bind fun M1 =>
    (am_pf 5 7 0 M1 l0 l2).bind fun M2 =>
    am_ev am_PP nX5_become 1 [l0, 0] [] M2 := (am_blk am_PP _ _ _ _ _).trans rfl
theorem be_X5_become_1 (M : am_M) (l0 l3 : Int) : am_ev am_PP nX5_become 1 [l0, l3] [] M =
    (am_gf 5 1 M l0).bind fun v1 =>
    (am_alen M v1).bind fun v2 =>
    bif decide (v2 ≤ l3) then am_ev am_PP nX5_become 3 [l0] [] M
    else am_ev am_PP nX5_become 2 [l0, l3] [] M := (am_blk am_PP _ _ _ _ _).trans rfl
theorem be_X5_become_2 (M : am_M) (l0 l3 : Int) : am_ev am_PP nX5_become 2 [l0, l3] [] M =
    (am_gf 5 1 M l0).bind fun v1 =>
    (am_ast 4 M v1 l3 0).bind fun M1 =>
    am_ev am_PP nX5_become 1 [l0, (am_w32 (l3 + 1))] [] M1 := (am_blk am_PP _ _ _ _ _).trans rfl
theorem be_X5_become_3 (M : am_M) (l0 : Int) : am_ev am_PP nX5_become 3 [l0] [] M =
    am_ev am_PP nX5_become 4 [l0, 0] [] M := (am_blk am_PP _ _ _ _ _).trans rfl
theorem be_X5_become_4 (M : am_M) (l0 l3 : Int) : am_ev am_PP nX5_become 4 [l0, l3] [] M =
    (am_gf 5 2 M l0).bind fun v1 =>
    (am_alen M v1).bind fun v2 =>
    bif decide (v2 ≤ l3) then am_ev am_PP nX5_become 6 [l0] [] M
    else am_ev am_PP nX5_become 5 [l0, l3] [] M := (am_blk am_PP _ _ _ _ _).trans rfl
theorem be_X5_become_5 (M : am_M) (l0 l3 : Int) : am_ev am_PP nX5_become 5 [l0, l3] [] M =
    (am_gf 5 2 M l0).bind fun v1 =>
    (am_ast 4 M v1 l3 0).bind fun M1 =>
    am_ev am_PP nX5_become 4 [l0, (am_w32 (l3 + 1))] [] M1 := (am_blk am_PP _ _ _ _ _).trans rfl
theorem be_X5_become_6 (M : am_M) (l0 : Int) : am_ev am_PP nX5_become 6 [l0] [] M =
    (am_gf 5 3 M l0).bind fun v1 =>
    if 0 < v1 ∧ am_cls v1 = 3 then
    (am_evm am_PP nX3_empty [(2, v1)] M).bind fun q2 =>
    (am_gf 5 5 q2.2 l0).bind fun v3 =>
    (am_pf 4 4 0 q2.2 v3 0).bind fun M1 =>
    if 0 < l0 ∧ am_cls l0 = 5 then
    (am_evm am_PP nX5_restart [(2, l0)] M1).bind fun q4 =>
    some (0, q4.2)
    else none
    else none := (am_blk am_PP _ _ _ _ _).trans rfl
theorem be_X5_restart_m (M : am_M) (a0 : Int) : am_evm am_PP nX5_restart [(2, a0)] M = am_ev am_PP nX5_restart 0 [a0] [] M := rfl
set_option maxRecDepth 100000 in
set_option maxHeartbeats 8000000 in
theorem be_X5_restart_0 (M : am_M) (l0 : Int) : am_ev am_PP nX5_restart 0 [l0] [] M =
    (am_pf 5 12 0 M l0 0).bind fun M1 =>
    (am_pf 5 13 0 M1 l0 0).bind fun M2 =>
    (am_pf 5 11 0 M2 l0 0).bind fun M3 =>
    (am_pf 5 10 0 M3 l0 0).bind fun M4 =>
    (am_gf 5 0 M4 l0).bind fun v1 =>
    (am_pf 5 14 0 M4 l0 v1).bind fun M5 =>
    (am_pf 5 15 0 M5 l0 0).bind fun M6 =>
    (am_gf 5 4 M6 l0).bind fun v2 =>
    if 0 < v2 ∧ am_cls v2 = 1 then
    (am_evm am_PP nX1_empty [(2, v2)] M6).bind fun q3 =>
    (am_gf 5 5 q3.2 l0).bind fun v4 =>
    if 0 < v4 ∧ am_cls v4 = 4 then
    (am_evm am_PP nX4_restart [(2, v4)] q3.2).bind fun q5 =>
    (am_gf 5 6 q5.2 l0).bind fun v6 =>
    bif !(decide (v6 = 9)) then am_ev am_PP nX5_restart 2 [l0] [] q5.2
    else am_ev am_PP nX5_restart 1 [l0] [] q5.2
    else none
    else none := (am_blk am_PP _ _ _ _ _).trans rfl
theorem be_X5_restart_1 (M : am_M) (l0 : Int) : am_ev am_PP nX5_restart 1 [l0] [] M =
    (am_gf 5 3 M l0).bind fun v1 =>
    if 0 < v1 ∧ am_cls v1 = 3 then
    (am_evm am_PP nX3_empty [(2, v1)] M).bind fun q2 =>
    am_ev am_PP nX5_restart 2 [l0] [] q2.2
    else none := (am_blk am_PP _ _ _ _ _).trans rfl
theorem be_X5_restart_2 (M : am_M) (l0 : Int) : am_ev am_PP nX5_restart 2 [l0] [] M =
    if 0 < l0 ∧ am_cls l0 = 5 then
    (am_evm am_PP nX5_firstAct [(2, l0)] M).bind fun q1 =>
    if 0 < l0 ∧ am_cls l0 = 5 then
    (am_evm am_PP nX5_askScript [(2, l0)] q1.2).bind fun q2 =>
    some (0, q2.2)
    else none
    else none := (am_blk am_PP _ _ _ _ _).trans rfl
theorem be_X5_stock_m (M : am_M) (a0 : Int) : am_evm am_PP nX5_stock [(2, a0)] M = am_ev am_PP nX5_stock 0 [a0] [] M := rfl
theorem be_X5_stock_0 (M : am_M) (l0 : Int) : am_ev am_PP nX5_stock 0 [l0] [] M =
    (am_gf 5 6 M l0).bind fun v1 =>
    bif decide (v1 = 0) then am_ev am_PP nX5_stock 1 [l0] [] M else
    bif decide (v1 = 9) then am_ev am_PP nX5_stock 1 [l0] [] M else
    bif decide (v1 = 13) then am_ev am_PP nX5_stock 2 [l0] [] M else
    am_ev am_PP nX5_stock 3 [] [] M := (am_blk am_PP _ _ _ _ _).trans rfl
theorem be_X5_stock_1 (M : am_M) (l0 : Int) : am_ev am_PP nX5_stock 1 [l0] [] M =
    (am_gf 5 3 M l0).bind fun v1 =>
    (am_gf 3 1 M v1).bind fun v2 =>
    some (v2, M) := (am_blk am_PP _ _ _ _ _).trans rfl
theorem be_X5_stock_2 (M : am_M) (l0 : Int) : am_ev am_PP nX5_stock 2 [l0] [] M =
    (am_gf 5 5 M l0).bind fun v1 =>
    (am_gf 4 4 M v1).bind fun v2 =>
    some (v2, M) := (am_blk am_PP _ _ _ _ _).trans rfl
theorem be_X5_stock_3 (M : am_M) : am_ev am_PP nX5_stock 3 [] [] M =
    some (0, M) := (am_blk am_PP _ _ _ _ _).trans rfl
theorem be_X5_isOver_m (M : am_M) (a0 : Int) : am_evm am_PP nX5_isOver [(2, a0)] M = am_ev am_PP nX5_isOver 0 [a0] [] M := rfl
theorem be_X5_isOver_0 (M : am_M) (l0 : Int) : am_ev am_PP nX5_isOver 0 [l0] [] M =
    (am_gf 5 8 M l0).bind fun v1 =>
    bif decide (v1 = 4) then am_ev am_PP nX5_isOver 2 [] [] M
    else am_ev am_PP nX5_isOver 1 [l0] [] M := (am_blk am_PP _ _ _ _ _).trans rfl
theorem be_X5_isOver_1 (M : am_M) (l0 : Int) : am_ev am_PP nX5_isOver 1 [l0] [] M =
    (am_gf 5 8 M l0).bind fun v1 =>
    bif !(decide (v1 = 5)) then am_ev am_PP nX5_isOver 3 [] [] M
    else am_ev am_PP nX5_isOver 2 [] [] M := (am_blk am_PP _ _ _ _ _).trans rfl
theorem be_X5_isOver_2 (M : am_M) : am_ev am_PP nX5_isOver 2 [] [] M =
    am_ev am_PP nX5_isOver 4 [] [(0, 1)] M := (am_blk am_PP _ _ _ _ _).trans rfl
theorem be_X5_isOver_3 (M : am_M) : am_ev am_PP nX5_isOver 3 [] [] M =
    am_ev am_PP nX5_isOver 4 [] [(0, 0)] M := (am_blk am_PP _ _ _ _ _).trans rfl
theorem be_X5_isOver_4 (M : am_M) (s0 : Int) : am_ev am_PP nX5_isOver 4 [] [(0, s0)] M =
    if s0 = 0 ∨ s0 = 1 then some (s0, M) else none := (am_blk am_PP _ _ _ _ _).trans rfl
theorem be_X5_doing_m (M : am_M) (a0 : Int) : am_evm am_PP nX5_doing [(2, a0)] M = am_ev am_PP nX5_doing 0 [a0] [] M := rfl
theorem be_X5_doing_0 (M : am_M) (l0 : Int) : am_ev am_PP nX5_doing 0 [l0] [] M =
    (am_gf 5 8 M l0).bind fun v1 =>
    bif decide (v1 = 0) then am_ev am_PP nX5_doing 1 [l0] [] M else
    bif decide (v1 = 1) then am_ev am_PP nX5_doing 6 [l0] [] M else
    bif decide (v1 = 2) then am_ev am_PP nX5_doing 13 [] [] M else
    bif decide (v1 = 3) then am_ev am_PP nX5_doing 13 [] [] M else
    bif decide (v1 = 4) then am_ev am_PP nX5_doing 11 [] [] M else
    bif decide (v1 = 5) then am_ev am_PP nX5_doing 12 [] [] M else
    am_ev am_PP nX5_doing 13 [] [] M := (am_blk am_PP _ _ _ _ _).trans rfl
theorem be_X5_doing_1 (M : am_M) (l0 : Int) : am_ev am_PP nX5_doing 1 [l0] [] M =
    (am_gf 5 1 M l0).bind fun v1 =>
    (am_gf 5 9 M l0).bind fun v2 =>
    (am_ald 4 M v1 v2).bind fun v3 =>
    bif decide (v3 = 0) then am_ev am_PP nX5_doing 4 [] [] M
    else am_ev am_PP nX5_doing 2 [l0] [] M := (am_blk am_PP _ _ _ _ _).trans rfl
theorem be_X5_doing_2 (M : am_M) (l0 : Int) : am_ev am_PP nX5_doing 2 [l0] [] M =
    (am_gf 5 1 M l0).bind fun v1 =>
    (am_gf 5 9 M l0).bind fun v2 =>
    (am_ald 4 M v1 v2).bind fun v3 =>
    if 0 < v3 ∧ am_cls v3 = 0 then
    (am_evm am_PP nX0_canBeRead [(2, v3)] M).bind fun q4 =>
    bif decide (q4.1 = 0) then am_ev am_PP nX5_doing 4 [] [] q4.2
    else am_ev am_PP nX5_doing 3 [] [] q4.2
    else none := (am_blk am_PP _ _ _ _ _).trans rfl
theorem be_X5_doing_3 (M : am_M) : am_ev am_PP nX5_doing 3 [] [] M =
    am_ev am_PP nX5_doing 5 [] [(0, 0)] M := (am_blk am_PP _ _ _ _ _).trans rfl
theorem be_X5_doing_4 (M : am_M) : am_ev am_PP nX5_doing 4 [] [] M =
    am_ev am_PP nX5_doing 5 [] [(0, 1)] M := (am_blk am_PP _ _ _ _ _).trans rfl
theorem be_X5_doing_5 (M : am_M) (s0 : Int) : am_ev am_PP nX5_doing 5 [] [(0, s0)] M =
    some (s0, M) := (am_blk am_PP _ _ _ _ _).trans rfl
theorem be_X5_doing_6 (M : am_M) (l0 : Int) : am_ev am_PP nX5_doing 6 [l0] [] M =
    (am_gf 5 2 M l0).bind fun v1 =>
    (am_gf 5 9 M l0).bind fun v2 =>
    (am_ald 4 M v1 v2).bind fun v3 =>
    bif decide (v3 = 0) then am_ev am_PP nX5_doing 9 [] [] M
    else am_ev am_PP nX5_doing 7 [l0] [] M := (am_blk am_PP _ _ _ _ _).trans rfl
theorem be_X5_doing_7 (M : am_M) (l0 : Int) : am_ev am_PP nX5_doing 7 [l0] [] M =
    (am_gf 5 2 M l0).bind fun v1 =>
    (am_gf 5 9 M l0).bind fun v2 =>
    (am_ald 4 M v1 v2).bind fun v3 =>
    if 0 < v3 ∧ am_cls v3 = 0 then
    (am_evm am_PP nX0_canBeWritten [(2, v3)] M).bind fun q4 =>
    bif decide (q4.1 = 0) then am_ev am_PP nX5_doing 9 [] [] q4.2
    else am_ev am_PP nX5_doing 8 [] [] q4.2
    else none := (am_blk am_PP _ _ _ _ _).trans rfl
theorem be_X5_doing_8 (M : am_M) : am_ev am_PP nX5_doing 8 [] [] M =
    am_ev am_PP nX5_doing 10 [] [(0, 0)] M := (am_blk am_PP _ _ _ _ _).trans rfl
theorem be_X5_doing_9 (M : am_M) : am_ev am_PP nX5_doing 9 [] [] M =
    am_ev am_PP nX5_doing 10 [] [(0, 2)] M := (am_blk am_PP _ _ _ _ _).trans rfl
theorem be_X5_doing_10 (M : am_M) (s0 : Int) : am_ev am_PP nX5_doing 10 [] [(0, s0)] M =
    some (s0, M) := (am_blk am_PP _ _ _ _ _).trans rfl
theorem be_X5_doing_11 (M : am_M) : am_ev am_PP nX5_doing 11 [] [] M =
    some (3, M) := (am_blk am_PP _ _ _ _ _).trans rfl
theorem be_X5_doing_12 (M : am_M) : am_ev am_PP nX5_doing 12 [] [] M =
    some (4, M) := (am_blk am_PP _ _ _ _ _).trans rfl
theorem be_X5_doing_13 (M : am_M) : am_ev am_PP nX5_doing 13 [] [] M =
    some (0, M) := (am_blk am_PP _ _ _ _ _).trans rfl
theorem be_X5_waits_m (M : am_M) (a0 : Int) : am_evm am_PP nX5_waits [(2, a0)] M = am_ev am_PP nX5_waits 0 [a0] [] M := rfl
theorem be_X5_waits_0 (M : am_M) (l0 : Int) : am_ev am_PP nX5_waits 0 [l0] [] M =
    if 0 < l0 ∧ am_cls l0 = 5 then
    (am_evm am_PP nX5_doing [(2, l0)] M).bind fun q1 =>
    bif decide (q1.1 = 1) then am_ev am_PP nX5_waits 2 [] [] q1.2
    else am_ev am_PP nX5_waits 1 [q1.1] [] q1.2
    else none := (am_blk am_PP _ _ _ _ _).trans rfl
theorem be_X5_waits_1 (M : am_M) (l1 : Int) : am_ev am_PP nX5_waits 1 [l1] [] M =
    bif !(decide (l1 = 2)) then am_ev am_PP nX5_waits 3 [] [] M
    else am_ev am_PP nX5_waits 2 [] [] M := (am_blk am_PP _ _ _ _ _).trans rfl
theorem be_X5_waits_2 (M : am_M) : am_ev am_PP nX5_waits 2 [] [] M =
    am_ev am_PP nX5_waits 4 [] [(0, 1)] M := (am_blk am_PP _ _ _ _ _).trans rfl
theorem be_X5_waits_3 (M : am_M) : am_ev am_PP nX5_waits 3 [] [] M =
    am_ev am_PP nX5_waits 4 [] [(0, 0)] M := (am_blk am_PP _ _ _ _ _).trans rfl
theorem be_X5_waits_4 (M : am_M) (s0 : Int) : am_ev am_PP nX5_waits 4 [] [(0, s0)] M =
    if s0 = 0 ∨ s0 = 1 then some (s0, M) else none := (am_blk am_PP _ _ _ _ _).trans rfl
theorem be_X5_act_m (M : am_M) (a0 : Int) : am_evm am_PP nX5_act [(2, a0)] M = am_ev am_PP nX5_act 0 [a0] [] M := rfl
theorem be_X5_act_0 (M : am_M) (l0 : Int) : am_ev am_PP nX5_act 0 [l0] [] M =
    (am_gf 5 8 M l0).bind fun v1 =>
    bif decide (v1 = 0) then am_ev am_PP nX5_act 1 [l0] [] M else
    bif decide (v1 = 1) then am_ev am_PP nX5_act 2 [l0] [] M else
    bif decide (v1 = 2) then am_ev am_PP nX5_act 3 [l0] [] M else
    bif decide (v1 = 3) then am_ev am_PP nX5_act 4 [l0] [] M else
    am_ev am_PP nX5_act 5 [l0] [] M := (am_blk am_PP _ _ _ _ _).trans rfl
theorem be_X5_act_1 (M : am_M) (l0 : Int) : am_ev am_PP nX5_act 1 [l0] [] M =
    (am_gf 5 1 M l0).bind fun v1 =>
    (am_gf 5 9 M l0).bind fun v2 =>
    (am_ald 4 M v1 v2).bind fun v3 =>
    if 0 < l0 ∧ am_cls l0 = 5 then
    (am_evm am_PP nX5_readOff [(2, l0), (2, v3)] M).bind fun q4 =>
    am_ev am_PP nX5_act 5 [l0] [] q4.2
    else none := (am_blk am_PP _ _ _ _ _).trans rfl
theorem be_X5_act_2 (M : am_M) (l0 : Int) : am_ev am_PP nX5_act 2 [l0] [] M =
    (am_gf 5 2 M l0).bind fun v1 =>
    (am_gf 5 9 M l0).bind fun v2 =>
    (am_ald 4 M v1 v2).bind fun v3 =>
    if 0 < l0 ∧ am_cls l0 = 5 then
    (am_evm am_PP nX5_writeTo [(2, l0), (2, v3)] M).bind fun q4 =>
    am_ev am_PP nX5_act 5 [l0] [] q4.2
    else none := (am_blk am_PP _ _ _ _ _).trans rfl
theorem be_X5_act_3 (M : am_M) (l0 : Int) : am_ev am_PP nX5_act 3 [l0] [] M =
    (am_pf 5 8 0 M l0 4).bind fun M1 =>
    am_ev am_PP nX5_act 5 [l0] [] M1 := (am_blk am_PP _ _ _ _ _).trans rfl
theorem be_X5_act_4 (M : am_M) (l0 : Int) : am_ev am_PP nX5_act 4 [l0] [] M =
    (am_pf 5 8 0 M l0 5).bind fun M1 =>
    am_ev am_PP nX5_act 5 [l0] [] M1 := (am_blk am_PP _ _ _ _ _).trans rfl
