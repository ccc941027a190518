theorem be_X7_count_8 (M : am_M) (l0 : Int) : am_ev am_PP nX7_count 8 [l0] [] M =
    (am_gf 7 43 M l0).bind fun v1 =>
    am_ev am_PP nX7_count 10 [] [(0, v1)] M := (am_blk am_PP _ _ _ _ _).trans rfl
theorem be_X7_count_9 (M : am_M) : am_ev am_PP nX7_count 9 [] [] M =
    am_ev am_PP nX7_count 10 [] [(0, 0)] M := (am_blk am_PP _ _ _ _ _).trans rfl
theorem be_X7_count_10 (M : am_M) (s0 : Int) : am_ev am_PP nX7_count 10 [] [(0, s0)] M =
    some (s0, M) := (am_blk am_PP _ _ _ _ _).trans rfl
theorem be_X7_count_11 (M : am_M) (l0 : Int) : am_ev am_PP nX7_count 11 [l0] [] M =
    if 0 < l0 ∧ am_cls l0 = 7 then
    (am_evm am_PP nX7_isWhole [(2, l0)] M).bind fun q1 =>
    bif decide (q1.1 = 0) then am_ev am_PP nX7_count 13 [] [] q1.2
    else am_ev am_PP nX7_count 12 [] [] q1.2
    else none := (am_blk am_PP _ _ _ _ _).trans rfl
theorem be_X7_count_12 (M : am_M) : am_ev am_PP nX7_count 12 [] [] M =
    am_ev am_PP nX7_count 14 [] [(0, 1)] M := (am_blk am_PP _ _ _ _ _).trans rfl
theorem be_X7_count_13 (M : am_M) : am_ev am_PP nX7_count 13 [] [] M =
    am_ev am_PP nX7_count 14 [] [(0, 0)] M := (am_blk am_PP _ _ _ _ _).trans rfl
theorem be_X7_count_14 (M : am_M) (s0 : Int) : am_ev am_PP nX7_count 14 [] [(0, s0)] M =
    some (s0, M) := (am_blk am_PP _ _ _ _ _).trans rfl
theorem be_X7_count_15 (M : am_M) (l0 : Int) : am_ev am_PP nX7_count 15 [l0] [] M =
    (am_gf 7 17 M l0).bind fun v1 =>
    bif decide (v1 = 0) then am_ev am_PP nX7_count 17 [] [] M
    else am_ev am_PP nX7_count 16 [] [] M := (am_blk am_PP _ _ _ _ _).trans rfl
theorem be_X7_count_16 (M : am_M) : am_ev am_PP nX7_count 16 [] [] M =
    am_ev am_PP nX7_count 18 [] [(0, 1)] M := (am_blk am_PP _ _ _ _ _).trans rfl
theorem be_X7_count_17 (M : am_M) : am_ev am_PP nX7_count 17 [] [] M =
    am_ev am_PP nX7_count 18 [] [(0, 0)] M := (am_blk am_PP _ _ _ _ _).trans rfl
theorem be_X7_count_18 (M : am_M) (s0 : Int) : am_ev am_PP nX7_count 18 [] [(0, s0)] M =
    some (s0, M) := (am_blk am_PP _ _ _ _ _).trans rfl
theorem be_X7_count_19 (M : am_M) (l0 : Int) : am_ev am_PP nX7_count 19 [l0] [] M =
    if 0 < l0 ∧ am_cls l0 = 7 then
    (am_evm am_PP nX7_findParts [(2, l0)] M).bind fun q1 =>
    (am_gf 7 53 q1.2 l0).bind fun v2 =>
    some (v2, q1.2)
    else none := (am_blk am_PP _ _ _ _ _).trans rfl
theorem be_X7_count_20 (M : am_M) : am_ev am_PP nX7_count 20 [] [] M =
    some ((-1), M) := (am_blk am_PP _ _ _ _ _).trans rfl
theorem be_J7_fill_d0a16_m (M : am_M) (a0 a1 : Int) : am_evm am_PP nJ7_fill_d0a16 [(2, a0), (1, a1)] M = am_ev am_PP nJ7_fill_d0a16 0 [a0, a1] [] M := rfl
theorem be_J7_fill_d0a16_0 (M : am_M) (l0 l1 : Int) : am_ev am_PP nJ7_fill_d0a16 0 [l0, l1] [] M =
    (am_alen M l0).bind fun v1 =>
    am_ev am_PP nJ7_fill_d0a16 1 [l0, l1, 0, v1] [] M := (am_blk am_PP _ _ _ _ _).trans rfl
theorem be_J7_fill_d0a16_1 (M : am_M) (l0 l1 l3 l4 : Int) : am_ev am_PP nJ7_fill_d0a16 1 [l0, l1, l3, l4] [] M =
    bif decide (l4 ≤ l3) then am_ev am_PP nJ7_fill_d0a16 3 [] [] M
    else am_ev am_PP nJ7_fill_d0a16 2 [l0, l1, l3, l4] [] M := (am_blk am_PP _ _ _ _ _).trans rfl
theorem be_J7_fill_d0a16_2 (M : am_M) (l0 l1 l3 l4 : Int) : am_ev am_PP nJ7_fill_d0a16 2 [l0, l1, l3, l4] [] M =
    (am_ast 1 M l0 l3 l1).bind fun M1 =>
    am_ev am_PP nJ7_fill_d0a16 1 [l0, l1, (am_w32 (l3 + 1)), l4] [] M1 := (am_blk am_PP _ _ _ _ _).trans rfl
theorem be_J7_fill_d0a16_3 (M : am_M) : am_ev am_PP nJ7_fill_d0a16 3 [] [] M =
    some (0, M) := (am_blk am_PP _ _ _ _ _).trans rfl
theorem be_J7_copyOf_c38d5_m (M : am_M) (a0 a1 : Int) : am_evm am_PP nJ7_copyOf_c38d5 [(2, a0), (0, a1)] M = am_ev am_PP nJ7_copyOf_c38d5 0 [a0, a1] [] M := rfl
theorem be_J7_copyOf_c38d5_0 (M : am_M) (l0 l1 : Int) : am_ev am_PP nJ7_copyOf_c38d5 0 [l0, l1] [] M =
    (am_alen M l0).bind fun v1 =>
    bif !(decide (l1 = v1)) then am_ev am_PP nJ7_copyOf_c38d5 2 [l0, l1] [] M
    else am_ev am_PP nJ7_copyOf_c38d5 1 [l0] [] M := (am_blk am_PP _ _ _ _ _).trans rfl
theorem be_J7_copyOf_c38d5_1 (M : am_M) (l0 : Int) : am_ev am_PP nJ7_copyOf_c38d5 1 [l0] [] M =
    none := (am_blk am_PP _ _ _ _ _).trans rfl
theorem be_J7_copyOf_c38d5_2 (M : am_M) (l0 l1 : Int) : am_ev am_PP nJ7_copyOf_c38d5 2 [l0, l1] [] M =
    (am_newa 1 l1 M (l0 + 1)).bind fun M1 =>
    (am_alen M1 l0).bind fun v1 =>
    (am_copy M1 l0 0 (l0 + 1) 0 (if l1 < v1 then l1 else v1)).bind fun M2 =>
    some ((l0 + 1), M2) := (am_blk am_PP _ _ _ _ _).trans rfl
theorem be_L_law_m (M : am_M) (a0 : Int) : am_evm am_PP nL_law [(2, a0)] M = am_ev am_PP nL_law 0 [a0] [] M := rfl
theorem be_L_law_0 (M : am_M) (l0 : Int) : am_ev am_PP nL_law 0 [l0] [] M =
    (am_newo 6 M 16).bind fun M1 =>
    if 16 = 0 then none else
    (am_evm am_PP nX6_init [(2, 16)] M1).bind fun q1 =>
    (am_newo 7 q1.2 17).bind fun M2 =>
    if 17 = 0 then none else
    (am_evm am_PP nX7_init [(2, 17)] M2).bind fun q2 =>
    am_ev am_PP nL_law 1 [l0, 16, 17, 0] [] q2.2 := (am_blk am_PP _ _ _ _ _).trans rfl
theorem be_L_law_1 (M : am_M) (l0 l1 l2 l3 : Int) : am_ev am_PP nL_law 1 [l0, l1, l2, l3] [] M =
    (am_alen M l0).bind fun v1 =>
    bif decide ((am_w32 (v1 - 6)) < l3) then am_ev am_PP nL_law 38 [] [] M
    else am_ev am_PP nL_law 2 [l0, l1, l2, l3] [] M := (am_blk am_PP _ _ _ _ _).trans rfl
theorem be_L_law_2 (M : am_M) (l0 l1 l2 l3 : Int) : am_ev am_PP nL_law 2 [l0, l1, l2, l3] [] M =
    (am_ald 0 M l0 l3).bind fun v1 =>
    bif decide ((am_and v1 31) = 0) then am_ev am_PP nL_law 3 [l0, l1, l2, l3] [] M else
    bif decide ((am_and v1 31) = 1) then am_ev am_PP nL_law 5 [l0, l1, l2, l3] [] M else
    bif decide ((am_and v1 31) = 2) then am_ev am_PP nL_law 7 [l0, l1, l2, l3] [] M else
    bif decide ((am_and v1 31) = 3) then am_ev am_PP nL_law 9 [l0, l1, l2, l3] [] M else
    bif decide ((am_and v1 31) = 4) then am_ev am_PP nL_law 11 [l0, l1, l2, l3] [] M else
    bif decide ((am_and v1 31) = 5) then am_ev am_PP nL_law 13 [l0, l1, l2, l3] [] M else
    bif decide ((am_and v1 31) = 6) then am_ev am_PP nL_law 15 [l0, l1, l2, l3] [] M else
    bif decide ((am_and v1 31) = 7) then am_ev am_PP nL_law 17 [l0, l1, l2, l3] [] M else
    bif decide ((am_and v1 31) = 8) then am_ev am_PP nL_law 19 [l0, l1, l2, l3] [] M else
    bif decide ((am_and v1 31) = 9) then am_ev am_PP nL_law 21 [l0, l1, l2, l3] [] M else
    bif decide ((am_and v1 31) = 10) then am_ev am_PP nL_law 23 [l0, l1, l2, l3] [] M else
    bif decide ((am_and v1 31) = 11) then am_ev am_PP nL_law 25 [l0, l1, l2, l3] [] M else
    bif decide ((am_and v1 31) = 12) then am_ev am_PP nL_law 27 [l0, l1, l2, l3] [] M else
    bif decide ((am_and v1 31) = 13) then am_ev am_PP nL_law 29 [l0, l1, l2, l3] [] M else
    bif decide ((am_and v1 31) = 14) then am_ev am_PP nL_law 31 [l0, l1, l2, l3] [] M else
    bif decide ((am_and v1 31) = 15) then am_ev am_PP nL_law 33 [l0, l1, l2, l3] [] M else
    bif decide ((am_and v1 31) = 16) then am_ev am_PP nL_law 35 [l0, l1, l2, l3] [] M else
    am_ev am_PP nL_law 37 [l0, l1, l2, l3] [] M := (am_blk am_PP _ _ _ _ _).trans rfl
set_option maxRecDepth 100000 in
set_option maxHeartbeats 8000000 in
theorem be_L_law_3 (M : am_M) (l0 l1 l2 l3 : Int) : am_ev am_PP nL_law 3 [l0, l1, l2, l3] [] M =
    (am_ald 0 M l0 (am_w32 (l3 + 1))).bind fun v1 =>
    (am_ald 0 M l0 (am_w32 (l3 + 2))).bind fun v2 =>
    if 0 < l1 ∧ am_cls l1 = 6 then
    (am_evm am_PP nX6_weaver [(2, l1), (0, v1), (0, v2)] M).bind fun q3 =>
    (am_ald 0 q3.2 l0 (am_w32 (l3 + 1))).bind fun v4 =>
    (am_ald 0 q3.2 l0 (am_w32 (l3 + 2))).bind fun v5 =>
    if 0 < l2 ∧ am_cls l2 = 7 then
    (am_evm am_PP nX7_weaver [(2, l2), (0, v4), (0, v5)] q3.2).bind fun q6 =>
    bif decide (q3.1 = q6.1) then am_ev am_PP nL_law 37 [l0, l1, l2, l3] [] q6.2
    else am_ev am_PP nL_law 4 [] [] q6.2
    else none
    else none := (am_blk am_PP _ _ _ _ _).trans rfl
theorem be_L_law_4 (M : am_M) : am_ev am_PP nL_law 4 [] [] M =
    if 0 = 0 ∨ 0 = 1 then some (0, M) else none := (am_blk am_PP _ _ _ _ _).trans rfl
set_option maxRecDepth 100000 in
set_option maxHeartbeats 8000000 in
theorem be_L_law_5 (M : am_M) (l0 l1 l2 l3 : Int) : am_ev am_PP nL_law 5 [l0, l1, l2, l3] [] M =
    (am_ald 0 M l0 (am_w32 (l3 + 1))).bind fun v1 =>
    (am_ald 0 M l0 (am_w32 (l3 + 2))).bind fun v2 =>
    (am_ald 0 M l0 (am_w32 (l3 + 3))).bind fun v3 =>
    if 0 < l1 ∧ am_cls l1 = 6 then
    (am_evm am_PP nX6_feed [(2, l1), (0, v1), (1, (am_lor (am_lshl v2 32) (am_land v3 4294967295)))] M).bind fun q4 =>
    (am_ald 0 q4.2 l0 (am_w32 (l3 + 1))).bind fun v5 =>
    (am_ald 0 q4.2 l0 (am_w32 (l3 + 2))).bind fun v6 =>
    (am_ald 0 q4.2 l0 (am_w32 (l3 + 3))).bind fun v7 =>
    if 0 < l2 ∧ am_cls l2 = 7 then
    (am_evm am_PP nX7_feed [(2, l2), (0, v5), (1, (am_lor (am_lshl v6 32) (am_land v7 4294967295)))] q4.2).bind fun q8 =>
    bif decide (q4.1 = q8.1) then am_ev am_PP nL_law 37 [l0, l1, l2, l3] [] q8.2
    else am_ev am_PP nL_law 6 [] [] q8.2
    else none
    else none := (am_blk am_PP _ _ _ _ _).trans rfl
theorem be_L_law_6 (M : am_M) : am_ev am_PP nL_law 6 [] [] M =
    if 0 = 0 ∨ 0 = 1 then some (0, M) else none := (am_blk am_PP _ _ _ _ _).trans rfl
set_option maxRecDepth 100000 in
set_option maxHeartbeats 8000000 in
theorem be_L_law_7 (M : am_M) (l0 l1 l2 l3 : Int) : am_ev am_PP nL_law 7 [l0, l1, l2, l3] [] M =
    (am_ald 0 M l0 (am_w32 (l3 + 1))).bind fun v1 =>
    (am_ald 0 M l0 (am_w32 (l3 + 2))).bind fun v2 =>
    (am_ald 0 M l0 (am_w32 (l3 + 3))).bind fun v3 =>
    (am_ald 0 M l0 (am_w32 (l3 + 4))).bind fun v4 =>
    if 0 < l1 ∧ am_cls l1 = 6 then
    (am_evm am_PP nX6_step [(2, l1), (0, v1), (0, v2), (0, v3), (0, v4)] M).bind fun q5 =>
    (am_ald 0 q5.2 l0 (am_w32 (l3 + 1))).bind fun v6 =>
    (am_ald 0 q5.2 l0 (am_w32 (l3 + 2))).bind fun v7 =>
    (am_ald 0 q5.2 l0 (am_w32 (l3 + 3))).bind fun v8 =>
    (am_ald 0 q5.2 l0 (am_w32 (l3 + 4))).bind fun v9 =>
    if 0 < l2 ∧ am_cls l2 = 7 then
    (am_evm am_PP nX7_step [(2, l2), (0, v6), (0, v7), (0, v8), (0, v9)] q5.2).bind fun q10 =>
    bif decide (q5.1 = q10.1) then am_ev am_PP nL_law 37 [l0, l1, l2, l3] [] q10.2
    else am_ev am_PP nL_law 8 [] [] q10.2
    else none
    else none := (am_blk am_PP _ _ _ _ _).trans rfl
theorem be_L_law_8 (M : am_M) : am_ev am_PP nL_law 8 [] [] M =
    if 0 = 0 ∨ 0 = 1 then some (0, M) else none := (am_blk am_PP _ _ _ _ _).trans rfl
set_option maxRecDepth 100000 in
set_option maxHeartbeats 8000000 in
theorem be_L_law_9 (M : am_M) (l0 l1 l2 l3 : Int) : am_ev am_PP nL_law 9 [l0, l1, l2, l3] [] M =
    (am_ald 0 M l0 (am_w32 (l3 + 1))).bind fun v1 =>
    (am_ald 0 M l0 (am_w32 (l3 + 2))).bind fun v2 =>
    (am_ald 0 M l0 (am_w32 (l3 + 3))).bind fun v3 =>
    (am_ald 0 M l0 (am_w32 (l3 + 4))).bind fun v4 =>
    (am_ald 0 M l0 (am_w32 (l3 + 5))).bind fun v5 =>
    if 0 < l1 ∧ am_cls l1 = 6 then
    (am_evm am_PP nX6_band [(2, l1), (0, v1), (0, v2), (0, v3), (0, v4), (0, v5)] M).bind fun q6 =>
    (am_ald 0 q6.2 l0 (am_w32 (l3 + 1))).bind fun v7 =>
    (am_ald 0 q6.2 l0 (am_w32 (l3 + 2))).bind fun v8 =>
    (am_ald 0 q6.2 l0 (am_w32 (l3 + 3))).bind fun v9 =>
    (am_ald 0 q6.2 l0 (am_w32 (l3 + 4))).bind fun v10 =>
    (am_ald 0 q6.2 l0 (am_w32 (l3 + 5))).bind fun v11 =>
    if 0 < l2 ∧ am_cls l2 = 7 then
    (am_evm am_PP nX7_band [(2, l2), (0, v7), (0, v8), (0, v9), (0, v10), (0, v11)] q6.2).bind fun q12 =>
    bif decide (q6.1 = q12.1) then am_ev am_PP nL_law 37 [l0, l1, l2, l3] [] q12.2
    else am_ev am_PP nL_law 10 [] [] q12.2
    else none
    else none := (am_blk am_PP _ _ _ _ _).trans rfl
theorem be_L_law_10 (M : am_M) : am_ev am_PP nL_law 10 [] [] M =
    if 0 = 0 ∨ 0 = 1 then some (0, M) else none := (am_blk am_PP _ _ _ _ _).trans rfl
set_option maxRecDepth 100000 in
set_option maxHeartbeats 8000000 in
theorem be_L_law_11 (M : am_M) (l0 l1 l2 l3 : Int) : am_ev am_PP nL_law 11 [l0, l1, l2, l3] [] M =
    (am_ald 0 M l0 (am_w32 (l3 + 1))).bind fun v1 =>
    (am_ald 0 M l0 (am_w32 (l3 + 2))).bind fun v2 =>
    if 0 < l1 ∧ am_cls l1 = 6 then
    (am_evm am_PP nX6_width [(2, l1), (0, v1), (0, v2)] M).bind fun q3 =>
    (am_ald 0 q3.2 l0 (am_w32 (l3 + 1))).bind fun v4 =>
    (am_ald 0 q3.2 l0 (am_w32 (l3 + 2))).bind fun v5 =>
    if 0 < l2 ∧ am_cls l2 = 7 then
    (am_evm am_PP nX7_width [(2, l2), (0, v4), (0, v5)] q3.2).bind fun q6 =>
    bif decide (q3.1 = q6.1) then am_ev am_PP nL_law 37 [l0, l1, l2, l3] [] q6.2
    else am_ev am_PP nL_law 12 [] [] q6.2
    else none
    else none := (am_blk am_PP _ _ _ _ _).trans rfl
theorem be_L_law_12 (M : am_M) : am_ev am_PP nL_law 12 [] [] M =
    if 0 = 0 ∨ 0 = 1 then some (0, M) else none := (am_blk am_PP _ _ _ _ _).trans rfl
theorem be_L_law_13 (M : am_M) (l0 l1 l2 l3 : Int) : am_ev am_PP nL_law 13 [l0, l1, l2, l3] [] M =
    if 0 < l1 ∧ am_cls l1 = 6 then
    (am_evm am_PP nX6_clear [(2, l1)] M).bind fun q1 =>
    if 0 < l2 ∧ am_cls l2 = 7 then
    (am_evm am_PP nX7_clear [(2, l2)] q1.2).bind fun q2 =>
    bif decide (q1.1 = q2.1) then am_ev am_PP nL_law 37 [l0, l1, l2, l3] [] q2.2
    else am_ev am_PP nL_law 14 [] [] q2.2
    else none
    else none := (am_blk am_PP _ _ _ _ _).trans rfl
theorem be_L_law_14 (M : am_M) : am_ev am_PP nL_law 14 [] [] M =
    if 0 = 0 ∨ 0 = 1 then some (0, M) else none := (am_blk am_PP _ _ _ _ _).trans rfl
set_option maxRecDepth 100000 in
set_option maxHeartbeats 8000000 in
theorem be_L_law_15 (M : am_M) (l0 l1 l2 l3 : Int) : am_ev am_PP nL_law 15 [l0, l1, l2, l3] [] M =
    (am_ald 0 M l0 (am_w32 (l3 + 1))).bind fun v1 =>
    (am_ald 0 M l0 (am_w32 (l3 + 2))).bind fun v2 =>
    (am_ald 0 M l0 (am_w32 (l3 + 3))).bind fun v3 =>
    if 0 < l1 ∧ am_cls l1 = 6 then
    (am_evm am_PP nX6_run [(2, l1), (0, v1), (0, v2), (0, v3)] M).bind fun q4 =>
    (am_ald 0 q4.2 l0 (am_w32 (l3 + 1))).bind fun v5 =>
    (am_ald 0 q4.2 l0 (am_w32 (l3 + 2))).bind fun v6 =>
    (am_ald 0 q4.2 l0 (am_w32 (l3 + 3))).bind fun v7 =>
    if 0 < l2 ∧ am_cls l2 = 7 then
    (am_evm am_PP nX7_run [(2, l2), (0, v5), (0, v6), (0, v7)] q4.2).bind fun q8 =>
    bif decide (q4.1 = q8.1) then am_ev am_PP nL_law 37 [l0, l1, l2, l3] [] q8.2
    else am_ev am_PP nL_law 16 [] [] q8.2
    else none
    else none := (am_blk am_PP _ _ _ _ _).trans rfl
theorem be_L_law_16 (M : am_M) : am_ev am_PP nL_law 16 [] [] M =
    if 0 = 0 ∨ 0 = 1 then some (0, M) else none := (am_blk am_PP _ _ _ _ _).trans rfl
theorem be_L_law_17 (M : am_M) (l0 l1 l2 l3 : Int) : am_ev am_PP nL_law 17 [l0, l1, l2, l3] [] M =
    if 0 < l1 ∧ am_cls l1 = 6 then
    (am_evm am_PP nX6_reset [(2, l1)] M).bind fun q1 =>
    if 0 < l2 ∧ am_cls l2 = 7 then
    (am_evm am_PP nX7_reset [(2, l2)] q1.2).bind fun q2 =>
    bif decide (q1.1 = q2.1) then am_ev am_PP nL_law 37 [l0, l1, l2, l3] [] q2.2
    else am_ev am_PP nL_law 18 [] [] q2.2
    else none
    else none := (am_blk am_PP _ _ _ _ _).trans rfl
theorem be_L_law_18 (M : am_M) : am_ev am_PP nL_law 18 [] [] M =
    if 0 = 0 ∨ 0 = 1 then some (0, M) else none := (am_blk am_PP _ _ _ _ _).trans rfl
set_option maxRecDepth 100000 in
set_option maxHeartbeats 8000000 in
theorem be_L_law_19 (M : am_M) (l0 l1 l2 l3 : Int) : am_ev am_PP nL_law 19 [l0, l1, l2, l3] [] M =
    (am_ald 0 M l0 (am_w32 (l3 + 1))).bind fun v1 =>
    (am_ald 0 M l0 (am_w32 (l3 + 2))).bind fun v2 =>
    if 0 < l1 ∧ am_cls l1 = 6 then
    (am_evm am_PP nX6_told [(2, l1), (0, v1), (0, v2)] M).bind fun q3 =>
    (am_ald 0 q3.2 l0 (am_w32 (l3 + 1))).bind fun v4 =>
    (am_ald 0 q3.2 l0 (am_w32 (l3 + 2))).bind fun v5 =>
    if 0 < l2 ∧ am_cls l2 = 7 then
    (am_evm am_PP nX7_told [(2, l2), (0, v4), (0, v5)] q3.2).bind fun q6 =>
    bif decide (q3.1 = q6.1) then am_ev am_PP nL_law 37 [l0, l1, l2, l3] [] q6.2
    else am_ev am_PP nL_law 20 [] [] q6.2
    else none
    else none := (am_blk am_PP _ _ _ _ _).trans rfl
theorem be_L_law_20 (M : am_M) : am_ev am_PP nL_law 20 [] [] M =
    if 0 = 0 ∨ 0 = 1 then some (0, M) else none := (am_blk am_PP _ _ _ _ _).trans rfl
set_option maxRecDepth 100000 in
set_option maxHeartbeats 8000000 in
theorem be_L_law_21 (M : am_M) (l0 l1 l2 l3 : Int) : am_ev am_PP nL_law 21 [l0, l1, l2, l3] [] M =
    (am_ald 0 M l0 (am_w32 (l3 + 1))).bind fun v1 =>
    (am_ald 0 M l0 (am_w32 (l3 + 2))).bind fun v2 =>
    if 0 < l1 ∧ am_cls l1 = 6 then
    (am_evm am_PP nX6_woven [(2, l1), (0, v1), (0, v2)] M).bind fun q3 =>
    (am_ald 0 q3.2 l0 (am_w32 (l3 + 1))).bind fun v4 =>
    (am_ald 0 q3.2 l0 (am_w32 (l3 + 2))).bind fun v5 =>
    if 0 < l2 ∧ am_cls l2 = 7 then
    (am_evm am_PP nX7_woven [(2, l2), (0, v4), (0, v5)] q3.2).bind fun q6 =>
    bif decide ((am_lcmp q3.1 q6.1) = 0) then am_ev am_PP nL_law 37 [l0, l1, l2, l3] [] q6.2
    else am_ev am_PP nL_law 22 [] [] q6.2
    else none
    else none := (am_blk am_PP _ _ _ _ _).trans rfl
theorem be_L_law_22 (M : am_M) : am_ev am_PP nL_law 22 [] [] M =
    if 0 = 0 ∨ 0 = 1 then some (0, M) else none := (am_blk am_PP _ _ _ _ _).trans rfl
set_option maxRecDepth 100000 in
set_option maxHeartbeats 8000000 in
theorem be_L_law_23 (M : am_M) (l0 l1 l2 l3 : Int) : am_ev am_PP nL_law 23 [l0, l1, l2, l3] [] M =
    (am_ald 0 M l0 (am_w32 (l3 + 1))).bind fun v1 =>
    (am_ald 0 M l0 (am_w32 (l3 + 2))).bind fun v2 =>
    if 0 < l1 ∧ am_cls l1 = 6 then
    (am_evm am_PP nX6_bandTold [(2, l1), (0, v1), (0, v2)] M).bind fun q3 =>
    (am_ald 0 q3.2 l0 (am_w32 (l3 + 1))).bind fun v4 =>
    (am_ald 0 q3.2 l0 (am_w32 (l3 + 2))).bind fun v5 =>
    if 0 < l2 ∧ am_cls l2 = 7 then
    (am_evm am_PP nX7_bandTold [(2, l2), (0, v4), (0, v5)] q3.2).bind fun q6 =>
    bif decide (q3.1 = q6.1) then am_ev am_PP nL_law 37 [l0, l1, l2, l3] [] q6.2
    else am_ev am_PP nL_law 24 [] [] q6.2
    else none
    else none := (am_blk am_PP _ _ _ _ _).trans rfl
theorem be_L_law_24 (M : am_M) : am_ev am_PP nL_law 24 [] [] M =
    if 0 = 0 ∨ 0 = 1 then some (0, M) else none := (am_blk am_PP _ _ _ _ _).trans rfl
set_option maxRecDepth 100000 in
set_option maxHeartbeats 8000000 in
theorem be_L_law_25 (M : am_M) (l0 l1 l2 l3 : Int) : am_ev am_PP nL_law 25 [l0, l1, l2, l3] [] M =
    (am_ald 0 M l0 (am_w32 (l3 + 1))).bind fun v1 =>
    (am_ald 0 M l0 (am_w32 (l3 + 2))).bind fun v2 =>
    if 0 < l1 ∧ am_cls l1 = 6 then
    (am_evm am_PP nX6_history [(2, l1), (0, v1), (0, v2)] M).bind fun q3 =>
    (am_ald 0 q3.2 l0 (am_w32 (l3 + 1))).bind fun v4 =>
    (am_ald 0 q3.2 l0 (am_w32 (l3 + 2))).bind fun v5 =>
    if 0 < l2 ∧ am_cls l2 = 7 then
    (am_evm am_PP nX7_history [(2, l2), (0, v4), (0, v5)] q3.2).bind fun q6 =>
    bif decide ((am_lcmp q3.1 q6.1) = 0) then am_ev am_PP nL_law 37 [l0, l1, l2, l3] [] q6.2
    else am_ev am_PP nL_law 26 [] [] q6.2
    else none
    else none := (am_blk am_PP _ _ _ _ _).trans rfl
theorem be_L_law_26 (M : am_M) : am_ev am_PP nL_law 26 [] [] M =
    if 0 = 0 ∨ 0 = 1 then some (0, M) else none := (am_blk am_PP _ _ _ _ _).trans rfl
theorem be_L_law_27 (M : am_M) (l0 l1 l2 l3 : Int) : am_ev am_PP nL_law 27 [l0, l1, l2, l3] [] M =
    (am_ald 0 M l0 (am_w32 (l3 + 1))).bind fun v1 =>
    if 0 < l1 ∧ am_cls l1 = 6 then
    (am_evm am_PP nX6_digest [(2, l1), (0, v1)] M).bind fun q2 =>
    (am_ald 0 q2.2 l0 (am_w32 (l3 + 1))).bind fun v3 =>
    if 0 < l2 ∧ am_cls l2 = 7 then
    (am_evm am_PP nX7_digest [(2, l2), (0, v3)] q2.2).bind fun q4 =>
    bif decide ((am_lcmp q2.1 q4.1) = 0) then am_ev am_PP nL_law 37 [l0, l1, l2, l3] [] q4.2
    else am_ev am_PP nL_law 28 [] [] q4.2
    else none
    else none := (am_blk am_PP _ _ _ _ _).trans rfl
theorem be_L_law_28 (M : am_M) : am_ev am_PP nL_law 28 [] [] M =
    if 0 = 0 ∨ 0 = 1 then some (0, M) else none := (am_blk am_PP _ _ _ _ _).trans rfl
theorem be_L_law_29 (M : am_M) (l0 l1 l2 l3 : Int) : am_ev am_PP nL_law 29 [l0, l1, l2, l3] [] M =
    (am_ald 0 M l0 (am_w32 (l3 + 1))).bind fun v1 =>
    if 0 < l1 ∧ am_cls l1 = 6 then
    (am_evm am_PP nX6_widened [(2, l1), (0, v1)] M).bind fun q2 =>
    (am_ald 0 q2.2 l0 (am_w32 (l3 + 1))).bind fun v3 =>
    if 0 < l2 ∧ am_cls l2 = 7 then
    (am_evm am_PP nX7_widened [(2, l2), (0, v3)] q2.2).bind fun q4 =>
    bif decide (q2.1 = q4.1) then am_ev am_PP nL_law 37 [l0, l1, l2, l3] [] q4.2
    else am_ev am_PP nL_law 30 [] [] q4.2
    else none
    else none := (am_blk am_PP _ _ _ _ _).trans rfl
theorem be_L_law_30 (M : am_M) : am_ev am_PP nL_law 30 [] [] M =
    if 0 = 0 ∨ 0 = 1 then some (0, M) else none := (am_blk am_PP _ _ _ _ _).trans rfl
set_option maxRecDepth 100000 in
set_option maxHeartbeats 8000000 in
theorem be_L_law_31 (M : am_M) (l0 l1 l2 l3 : Int) : am_ev am_PP nL_law 31 [l0, l1, l2, l3] [] M =
    (am_ald 0 M l0 (am_w32 (l3 + 1))).bind fun v1 =>
    (am_ald 0 M l0 (am_w32 (l3 + 2))).bind fun v2 =>
    if 0 < l1 ∧ am_cls l1 = 6 then
    (am_evm am_PP nX6_failure [(2, l1), (0, v1), (0, v2)] M).bind fun q3 =>
    (am_ald 0 q3.2 l0 (am_w32 (l3 + 1))).bind fun v4 =>
    (am_ald 0 q3.2 l0 (am_w32 (l3 + 2))).bind fun v5 =>
    if 0 < l2 ∧ am_cls l2 = 7 then
    (am_evm am_PP nX7_failure [(2, l2), (0, v4), (0, v5)] q3.2).bind fun q6 =>
    bif decide (q3.1 = q6.1) then am_ev am_PP nL_law 37 [l0, l1, l2, l3] [] q6.2
    else am_ev am_PP nL_law 32 [] [] q6.2
    else none
    else none := (am_blk am_PP _ _ _ _ _).trans rfl
theorem be_L_law_32 (M : am_M) : am_ev am_PP nL_law 32 [] [] M =
    if 0 = 0 ∨ 0 = 1 then some (0, M) else none := (am_blk am_PP _ _ _ _ _).trans rfl
theorem be_L_law_33 (M : am_M) (l0 l1 l2 l3 : Int) : am_ev am_PP nL_law 33 [l0, l1, l2, l3] [] M =
    (am_ald 0 M l0 (am_w32 (l3 + 1))).bind fun v1 =>
    if 0 < l1 ∧ am_cls l1 = 6 then
    (am_evm am_PP nX6_balance [(2, l1), (0, v1)] M).bind fun q2 =>
    (am_ald 0 q2.2 l0 (am_w32 (l3 + 1))).bind fun v3 =>
    if 0 < l2 ∧ am_cls l2 = 7 then
    (am_evm am_PP nX7_balance [(2, l2), (0, v3)] q2.2).bind fun q4 =>
    bif decide (q2.1 = q4.1) then am_ev am_PP nL_law 37 [l0, l1, l2, l3] [] q4.2
    else am_ev am_PP nL_law 34 [] [] q4.2
    else none
    else none := (am_blk am_PP _ _ _ _ _).trans rfl
theorem be_L_law_34 (M : am_M) : am_ev am_PP nL_law 34 [] [] M =
    if 0 = 0 ∨ 0 = 1 then some (0, M) else none := (am_blk am_PP _ _ _ _ _).trans rfl
theorem be_L_law_35 (M : am_M) (l0 l1 l2 l3 : Int) : am_ev am_PP nL_law 35 [l0, l1, l2, l3] [] M =
    (am_ald 0 M l0 (am_w32 (l3 + 1))).bind fun v1 =>
    if 0 < l1 ∧ am_cls l1 = 6 then
    (am_evm am_PP nX6_count [(2, l1), (0, v1)] M).bind fun q2 =>
    (am_ald 0 q2.2 l0 (am_w32 (l3 + 1))).bind fun v3 =>
    if 0 < l2 ∧ am_cls l2 = 7 then
    (am_evm am_PP nX7_count [(2, l2), (0, v3)] q2.2).bind fun q4 =>
    bif decide (q2.1 = q4.1) then am_ev am_PP nL_law 37 [l0, l1, l2, l3] [] q4.2
    else am_ev am_PP nL_law 36 [] [] q4.2
    else none
    else none := (am_blk am_PP _ _ _ _ _).trans rfl
theorem be_L_law_36 (M : am_M) : am_ev am_PP nL_law 36 [] [] M =
    if 0 = 0 ∨ 0 = 1 then some (0, M) else none := (am_blk am_PP _ _ _ _ _).trans rfl
theorem be_L_law_37 (M : am_M) (l0 l1 l2 l3 : Int) : am_ev am_PP nL_law 37 [l0, l1, l2, l3] [] M =
    am_ev am_PP nL_law 1 [l0, l1, l2, (am_w32 (l3 + 6))] [] M := (am_blk am_PP _ _ _ _ _).trans rfl
theorem be_L_law_38 (M : am_M) : am_ev am_PP nL_law 38 [] [] M =
    if 1 = 0 ∨ 1 = 1 then some (1, M) else none := (am_blk am_PP _ _ _ _ _).trans rfl
