theorem be_X6_isStep_4 (M : am_M) : am_ev am_PP nX6_isStep 4 [] [] M =
    am_ev am_PP nX6_isStep 6 [] [(0, 1)] M := (am_blk am_PP _ _ _ _ _).trans rfl
theorem be_X6_isStep_5 (M : am_M) : am_ev am_PP nX6_isStep 5 [] [] M =
    am_ev am_PP nX6_isStep 6 [] [(0, 0)] M := (am_blk am_PP _ _ _ _ _).trans rfl
theorem be_X6_isStep_6 (M : am_M) (s0 : Int) : am_ev am_PP nX6_isStep 6 [] [(0, s0)] M =
    if s0 = 0 ∨ s0 = 1 then some (s0, M) else none := (am_blk am_PP _ _ _ _ _).trans rfl
theorem be_X6_isStep_7 (M : am_M) (l1 : Int) : am_ev am_PP nX6_isStep 7 [l1] [] M =
    (am_evm am_PP nX6_isRegister [(0, l1)] M).bind fun q1 =>
    if q1.1 = 0 ∨ q1.1 = 1 then some (q1.1, q1.2) else none := (am_blk am_PP _ _ _ _ _).trans rfl
theorem be_X6_isStep_8 (M : am_M) (l1 l2 : Int) : am_ev am_PP nX6_isStep 8 [l1, l2] [] M =
    (am_evm am_PP nX6_isRegister [(0, l1)] M).bind fun q1 =>
    bif decide (q1.1 = 0) then am_ev am_PP nX6_isStep 11 [] [] q1.2
    else am_ev am_PP nX6_isStep 9 [l2] [] q1.2 := (am_blk am_PP _ _ _ _ _).trans rfl
theorem be_X6_isStep_9 (M : am_M) (l2 : Int) : am_ev am_PP nX6_isStep 9 [l2] [] M =
    (am_evm am_PP nX6_isRegister [(0, l2)] M).bind fun q1 =>
    bif decide (q1.1 = 0) then am_ev am_PP nX6_isStep 11 [] [] q1.2
    else am_ev am_PP nX6_isStep 10 [] [] q1.2 := (am_blk am_PP _ _ _ _ _).trans rfl
theorem be_X6_isStep_10 (M : am_M) : am_ev am_PP nX6_isStep 10 [] [] M =
    am_ev am_PP nX6_isStep 12 [] [(0, 1)] M := (am_blk am_PP _ _ _ _ _).trans rfl
theorem be_X6_isStep_11 (M : am_M) : am_ev am_PP nX6_isStep 11 [] [] M =
    am_ev am_PP nX6_isStep 12 [] [(0, 0)] M := (am_blk am_PP _ _ _ _ _).trans rfl
theorem be_X6_isStep_12 (M : am_M) (s0 : Int) : am_ev am_PP nX6_isStep 12 [] [(0, s0)] M =
    if s0 = 0 ∨ s0 = 1 then some (s0, M) else none := (am_blk am_PP _ _ _ _ _).trans rfl
theorem be_X6_isStep_13 (M : am_M) (l1 l2 : Int) : am_ev am_PP nX6_isStep 13 [l1, l2] [] M =
    bif decide (l1 < 0) then am_ev am_PP nX6_isStep 17 [] [] M
    else am_ev am_PP nX6_isStep 14 [l1, l2] [] M := (am_blk am_PP _ _ _ _ _).trans rfl
theorem be_X6_isStep_14 (M : am_M) (l1 l2 : Int) : am_ev am_PP nX6_isStep 14 [l1, l2] [] M =
    bif decide (12 ≤ l1) then am_ev am_PP nX6_isStep 17 [] [] M
    else am_ev am_PP nX6_isStep 15 [l2] [] M := (am_blk am_PP _ _ _ _ _).trans rfl
theorem be_X6_isStep_15 (M : am_M) (l2 : Int) : am_ev am_PP nX6_isStep 15 [l2] [] M =
    (am_evm am_PP nX6_isRegister [(0, l2)] M).bind fun q1 =>
    bif decide (q1.1 = 0) then am_ev am_PP nX6_isStep 17 [] [] q1.2
    else am_ev am_PP nX6_isStep 16 [] [] q1.2 := (am_blk am_PP _ _ _ _ _).trans rfl
theorem be_X6_isStep_16 (M : am_M) : am_ev am_PP nX6_isStep 16 [] [] M =
    am_ev am_PP nX6_isStep 18 [] [(0, 1)] M := (am_blk am_PP _ _ _ _ _).trans rfl
theorem be_X6_isStep_17 (M : am_M) : am_ev am_PP nX6_isStep 17 [] [] M =
    am_ev am_PP nX6_isStep 18 [] [(0, 0)] M := (am_blk am_PP _ _ _ _ _).trans rfl
theorem be_X6_isStep_18 (M : am_M) (s0 : Int) : am_ev am_PP nX6_isStep 18 [] [(0, s0)] M =
    if s0 = 0 ∨ s0 = 1 then some (s0, M) else none := (am_blk am_PP _ _ _ _ _).trans rfl
theorem be_X6_isStep_19 (M : am_M) : am_ev am_PP nX6_isStep 19 [] [] M =
    if 1 = 0 ∨ 1 = 1 then some (1, M) else none := (am_blk am_PP _ _ _ _ _).trans rfl
theorem be_X6_isStep_20 (M : am_M) : am_ev am_PP nX6_isStep 20 [] [] M =
    if 0 = 0 ∨ 0 = 1 then some (0, M) else none := (am_blk am_PP _ _ _ _ _).trans rfl
theorem be_X6_isRegister_m (M : am_M) (a0 : Int) : am_evm am_PP nX6_isRegister [(0, a0)] M = am_ev am_PP nX6_isRegister 0 [a0] [] M := rfl
theorem be_X6_isRegister_0 (M : am_M) (l0 : Int) : am_ev am_PP nX6_isRegister 0 [l0] [] M =
    bif decide (l0 < 0) then am_ev am_PP nX6_isRegister 3 [] [] M
    else am_ev am_PP nX6_isRegister 1 [l0] [] M := (am_blk am_PP _ _ _ _ _).trans rfl
theorem be_X6_isRegister_1 (M : am_M) (l0 : Int) : am_ev am_PP nX6_isRegister 1 [l0] [] M =
    bif decide (4 ≤ l0) then am_ev am_PP nX6_isRegister 3 [] [] M
    else am_ev am_PP nX6_isRegister 2 [] [] M := (am_blk am_PP _ _ _ _ _).trans rfl
theorem be_X6_isRegister_2 (M : am_M) : am_ev am_PP nX6_isRegister 2 [] [] M =
    am_ev am_PP nX6_isRegister 4 [] [(0, 1)] M := (am_blk am_PP _ _ _ _ _).trans rfl
theorem be_X6_isRegister_3 (M : am_M) : am_ev am_PP nX6_isRegister 3 [] [] M =
    am_ev am_PP nX6_isRegister 4 [] [(0, 0)] M := (am_blk am_PP _ _ _ _ _).trans rfl
theorem be_X6_isRegister_4 (M : am_M) (s0 : Int) : am_ev am_PP nX6_isRegister 4 [] [(0, s0)] M =
    if s0 = 0 ∨ s0 = 1 then some (s0, M) else none := (am_blk am_PP _ _ _ _ _).trans rfl
theorem be_X6_forgetRun_m (M : am_M) (a0 : Int) : am_evm am_PP nX6_forgetRun [(2, a0)] M = am_ev am_PP nX6_forgetRun 0 [a0] [] M := rfl
theorem be_X6_forgetRun_0 (M : am_M) (l0 : Int) : am_ev am_PP nX6_forgetRun 0 [l0] [] M =
    (am_pf 6 9 4 M l0 0).bind fun M1 =>
    (am_pf 6 8 0 M1 l0 0).bind fun M2 =>
    (am_pf 6 7 0 M2 l0 0).bind fun M3 =>
    some (0, M3) := (am_blk am_PP _ _ _ _ _).trans rfl
theorem be_X6_restartAll_m (M : am_M) (a0 : Int) : am_evm am_PP nX6_restartAll [(2, a0)] M = am_ev am_PP nX6_restartAll 0 [a0] [] M := rfl
theorem be_X6_restartAll_0 (M : am_M) (l0 : Int) : am_ev am_PP nX6_restartAll 0 [l0] [] M =
    am_ev am_PP nX6_restartAll 1 [l0, 0] [] M := (am_blk am_PP _ _ _ _ _).trans rfl
theorem be_X6_restartAll_1 (M : am_M) (l0 l1 : Int) : am_ev am_PP nX6_restartAll 1 [l0, l1] [] M =
    (am_gf 6 4 M l0).bind fun v1 =>
    bif decide (v1 ≤ l1) then am_ev am_PP nX6_restartAll 3 [l0] [] M
    else am_ev am_PP nX6_restartAll 2 [l0, l1] [] M := (am_blk am_PP _ _ _ _ _).trans rfl
theorem be_X6_restartAll_2 (M : am_M) (l0 l1 : Int) : am_ev am_PP nX6_restartAll 2 [l0, l1] [] M =
    (am_gf 6 0 M l0).bind fun v1 =>
    (am_ald 3 M v1 l1).bind fun v2 =>
    if 0 < v2 ∧ am_cls v2 = 5 then
    (am_evm am_PP nX5_restart [(2, v2)] M).bind fun q3 =>
    am_ev am_PP nX6_restartAll 1 [l0, (am_w32 (l1 + 1))] [] q3.2
    else none := (am_blk am_PP _ _ _ _ _).trans rfl
theorem be_X6_restartAll_3 (M : am_M) (l0 : Int) : am_ev am_PP nX6_restartAll 3 [l0] [] M =
    am_ev am_PP nX6_restartAll 4 [l0, 0] [] M := (am_blk am_PP _ _ _ _ _).trans rfl
theorem be_X6_restartAll_4 (M : am_M) (l0 l1 : Int) : am_ev am_PP nX6_restartAll 4 [l0, l1] [] M =
    (am_gf 6 5 M l0).bind fun v1 =>
    bif decide (v1 ≤ l1) then am_ev am_PP nX6_restartAll 6 [] [] M
    else am_ev am_PP nX6_restartAll 5 [l0, l1] [] M := (am_blk am_PP _ _ _ _ _).trans rfl
theorem be_X6_restartAll_5 (M : am_M) (l0 l1 : Int) : am_ev am_PP nX6_restartAll 5 [l0, l1] [] M =
    (am_gf 6 1 M l0).bind fun v1 =>
    (am_ald 4 M v1 l1).bind fun v2 =>
    if 0 < v2 ∧ am_cls v2 = 0 then
    (am_evm am_PP nX0_restart [(2, v2)] M).bind fun q3 =>
    am_ev am_PP nX6_restartAll 4 [l0, (am_w32 (l1 + 1))] [] q3.2
    else none := (am_blk am_PP _ _ _ _ _).trans rfl
theorem be_X6_restartAll_6 (M : am_M) : am_ev am_PP nX6_restartAll 6 [] [] M =
    some (0, M) := (am_blk am_PP _ _ _ _ _).trans rfl
theorem be_X6_doActs_m (M : am_M) (a0 a1 a2 a3 : Int) : am_evm am_PP nX6_doActs [(2, a0), (0, a1), (0, a2), (0, a3)] M = am_ev am_PP nX6_doActs 0 [a0, a1, a2, a3] [] M := rfl
theorem be_X6_doActs_0 (M : am_M) (l0 l1 l2 l3 : Int) : am_ev am_PP nX6_doActs 0 [l0, l1, l2, l3] [] M =
    bif !(decide (l1 = 1)) then am_ev am_PP nX6_doActs 2 [l0, l1, l2, l3] [] M
    else am_ev am_PP nX6_doActs 1 [l0, l1, l2, l3] [] M := (am_blk am_PP _ _ _ _ _).trans rfl
theorem be_X6_doActs_1 (M : am_M) (l0 l1 l2 l3 : Int) : am_ev am_PP nX6_doActs 1 [l0, l1, l2, l3] [] M =
    am_ev am_PP nX6_doActs 3 [l0, l1, l2, l3] [(0, (-1))] M := (am_blk am_PP _ _ _ _ _).trans rfl
theorem be_X6_doActs_2 (M : am_M) (l0 l1 l2 l3 : Int) : am_ev am_PP nX6_doActs 2 [l0, l1, l2, l3] [] M =
    am_ev am_PP nX6_doActs 3 [l0, l1, l2, l3] [(0, 1)] M := (am_blk am_PP _ _ _ _ _).trans rfl
theorem be_X6_doActs_3 (M : am_M) (l0 l1 l2 l3 s0 : Int) : am_ev am_PP nX6_doActs 3 [l0, l1, l2, l3] [(0, s0)] M =
    bif !(decide (l1 = 1)) then am_ev am_PP nX6_doActs 5 [l0, l1, l2, l3, s0] [] M
    else am_ev am_PP nX6_doActs 4 [l0, l1, l2, l3, s0] [] M := (am_blk am_PP _ _ _ _ _).trans rfl
theorem be_X6_doActs_4 (M : am_M) (l0 l1 l2 l3 l4 : Int) : am_ev am_PP nX6_doActs 4 [l0, l1, l2, l3, l4] [] M =
    (am_gf 6 4 M l0).bind fun v1 =>
    am_ev am_PP nX6_doActs 6 [l0, l1, l2, l3, l4] [(0, (am_w32 (v1 - 1)))] M := (am_blk am_PP _ _ _ _ _).trans rfl
theorem be_X6_doActs_5 (M : am_M) (l0 l1 l2 l3 l4 : Int) : am_ev am_PP nX6_doActs 5 [l0, l1, l2, l3, l4] [] M =
    am_ev am_PP nX6_doActs 6 [l0, l1, l2, l3, l4] [(0, 0)] M := (am_blk am_PP _ _ _ _ _).trans rfl
theorem be_X6_doActs_6 (M : am_M) (l0 l1 l2 l3 l4 s0 : Int) : am_ev am_PP nX6_doActs 6 [l0, l1, l2, l3, l4] [(0, s0)] M =
    am_ev am_PP nX6_doActs 7 [l0, l1, l2, l4, s0, l3, 0] [] M := (am_blk am_PP _ _ _ _ _).trans rfl
theorem be_X6_doActs_7 (M : am_M) (l0 l1 l2 l4 l5 l6 l7 : Int) : am_ev am_PP nX6_doActs 7 [l0, l1, l2, l4, l5, l6, l7] [] M =
    bif decide (l2 ≤ l7) then am_ev am_PP nX6_doActs 21 [l0] [] M
    else am_ev am_PP nX6_doActs 8 [l0, l1, l2, l4, l5, l6, l7] [] M := (am_blk am_PP _ _ _ _ _).trans rfl
theorem be_X6_doActs_8 (M : am_M) (l0 l1 l2 l4 l5 l6 l7 : Int) : am_ev am_PP nX6_doActs 8 [l0, l1, l2, l4, l5, l6, l7] [] M =
    bif !(decide (l1 = 3)) then am_ev am_PP nX6_doActs 11 [l0, l1, l2, l4, l5, l6, l7] [] M
    else am_ev am_PP nX6_doActs 9 [l0, l1, l2, l4, l5, l6, l7] [] M := (am_blk am_PP _ _ _ _ _).trans rfl
theorem be_X6_doActs_9 (M : am_M) (l0 l1 l2 l4 l5 l6 l7 : Int) : am_ev am_PP nX6_doActs 9 [l0, l1, l2, l4, l5, l6, l7] [] M =
    (am_gf 6 4 M l0).bind fun v1 =>
    bif decide (v1 ≤ 0) then am_ev am_PP nX6_doActs 11 [l0, l1, l2, l4, l5, l6, l7] [] M
    else am_ev am_PP nX6_doActs 10 [l0, l1, l2, l4, l6, l7] [] M := (am_blk am_PP _ _ _ _ _).trans rfl
theorem be_X6_doActs_10 (M : am_M) (l0 l1 l2 l4 l6 l7 : Int) : am_ev am_PP nX6_doActs 10 [l0, l1, l2, l4, l6, l7] [] M =
    (am_gf 6 4 M l0).bind fun v1 =>
    (am_irem (am_ushr (am_w32 ((am_w32 (l6 * 1103515245)) + 12345)) 16) v1).bind fun v2 =>
    am_ev am_PP nX6_doActs 11 [l0, l1, l2, l4, v2, (am_w32 ((am_w32 (l6 * 1103515245)) + 12345)), l7] [] M := (am_blk am_PP _ _ _ _ _).trans rfl
theorem be_X6_doActs_11 (M : am_M) (l0 l1 l2 l4 l5 l6 l7 : Int) : am_ev am_PP nX6_doActs 11 [l0, l1, l2, l4, l5, l6, l7] [] M =
    if 0 < l0 ∧ am_cls l0 = 6 then
    (am_evm am_PP nX6_firstAble [(2, l0), (0, l5), (0, l4)] M).bind fun q1 =>
    bif !(decide (q1.1 = (-1))) then am_ev am_PP nX6_doActs 15 [l0, l1, l2, l4, l6, l7, q1.1] [] q1.2
    else am_ev am_PP nX6_doActs 12 [l0, l1, l2, l4, l5, l6, l7] [] q1.2
    else none := (am_blk am_PP _ _ _ _ _).trans rfl
theorem be_X6_doActs_12 (M : am_M) (l0 l1 l2 l4 l5 l6 l7 : Int) : am_ev am_PP nX6_doActs 12 [l0, l1, l2, l4, l5, l6, l7] [] M =
    if 0 < l0 ∧ am_cls l0 = 6 then
    (am_evm am_PP nX6_widenTightest [(2, l0)] M).bind fun q1 =>
    bif !(decide (q1.1 = 0)) then am_ev am_PP nX6_doActs 14 [l0, l1, l2, l4, l5, l6, l7] [] q1.2
    else am_ev am_PP nX6_doActs 13 [l0] [] q1.2
    else none := (am_blk am_PP _ _ _ _ _).trans rfl
theorem be_X6_doActs_13 (M : am_M) (l0 : Int) : am_ev am_PP nX6_doActs 13 [l0] [] M =
    if 0 < l0 ∧ am_cls l0 = 6 then
    (am_evm am_PP nX6_stillness [(2, l0)] M).bind fun q1 =>
    some (q1.1, q1.2)
    else none := (am_blk am_PP _ _ _ _ _).trans rfl
theorem be_X6_doActs_14 (M : am_M) (l0 l1 l2 l4 l5 l6 l7 : Int) : am_ev am_PP nX6_doActs 14 [l0, l1, l2, l4, l5, l6, l7] [] M =
    if 0 < l0 ∧ am_cls l0 = 6 then
    (am_evm am_PP nX6_firstAble [(2, l0), (0, l5), (0, l4)] M).bind fun q1 =>
    am_ev am_PP nX6_doActs 15 [l0, l1, l2, l4, l6, l7, q1.1] [] q1.2
    else none := (am_blk am_PP _ _ _ _ _).trans rfl
theorem be_X6_doActs_15 (M : am_M) (l0 l1 l2 l4 l6 l7 l8 : Int) : am_ev am_PP nX6_doActs 15 [l0, l1, l2, l4, l6, l7, l8] [] M =
    bif !(decide (l8 = (-1))) then am_ev am_PP nX6_doActs 17 [l0, l1, l2, l4, l6, l7, l8] [] M
    else am_ev am_PP nX6_doActs 16 [l0] [] M := (am_blk am_PP _ _ _ _ _).trans rfl
theorem be_X6_doActs_16 (M : am_M) (l0 : Int) : am_ev am_PP nX6_doActs 16 [l0] [] M =
    if 0 < l0 ∧ am_cls l0 = 6 then
    (am_evm am_PP nX6_stillness [(2, l0)] M).bind fun q1 =>
    some (q1.1, q1.2)
    else none := (am_blk am_PP _ _ _ _ _).trans rfl
theorem be_X6_doActs_17 (M : am_M) (l0 l1 l2 l4 l6 l7 l8 : Int) : am_ev am_PP nX6_doActs 17 [l0, l1, l2, l4, l6, l7, l8] [] M =
    (am_gf 6 0 M l0).bind fun v1 =>
    (am_ald 3 M v1 l8).bind fun v2 =>
    if 0 < v2 ∧ am_cls v2 = 5 then
    (am_evm am_PP nX5_act [(2, v2)] M).bind fun q3 =>
    (am_gf 6 8 q3.2 l0).bind fun v4 =>
    (am_pf 6 8 0 q3.2 l0 (am_w32 (v4 + 1))).bind fun M1 =>
    bif !(decide (l1 = 2)) then am_ev am_PP nX6_doActs 19 [l0, l1, l2, l4, l6, l7, l8] [] M1
    else am_ev am_PP nX6_doActs 18 [l0, l1, l2, l4, l6, l7, l8] [] M1
    else none := (am_blk am_PP _ _ _ _ _).trans rfl
theorem be_X6_doActs_18 (M : am_M) (l0 l1 l2 l4 l6 l7 l8 : Int) : am_ev am_PP nX6_doActs 18 [l0, l1, l2, l4, l6, l7, l8] [] M =
    am_ev am_PP nX6_doActs 20 [l0, l1, l2, l4, l6, l7] [(0, l8)] M := (am_blk am_PP _ _ _ _ _).trans rfl
theorem be_X6_doActs_19 (M : am_M) (l0 l1 l2 l4 l6 l7 l8 : Int) : am_ev am_PP nX6_doActs 19 [l0, l1, l2, l4, l6, l7, l8] [] M =
    am_ev am_PP nX6_doActs 20 [l0, l1, l2, l4, l6, l7] [(0, (am_w32 (l8 + l4)))] M := (am_blk am_PP _ _ _ _ _).trans rfl
theorem be_X6_doActs_20 (M : am_M) (l0 l1 l2 l4 l6 l7 s0 : Int) : am_ev am_PP nX6_doActs 20 [l0, l1, l2, l4, l6, l7] [(0, s0)] M =
    am_ev am_PP nX6_doActs 7 [l0, l1, l2, l4, s0, l6, (am_w32 (l7 + 1))] [] M := (am_blk am_PP _ _ _ _ _).trans rfl
theorem be_X6_doActs_21 (M : am_M) (l0 : Int) : am_ev am_PP nX6_doActs 21 [l0] [] M =
    if 0 < l0 ∧ am_cls l0 = 6 then
    (am_evm am_PP nX6_firstAble [(2, l0), (0, 0), (0, 1)] M).bind fun q1 =>
    bif !(decide (q1.1 = (-1))) then am_ev am_PP nX6_doActs 23 [] [] q1.2
    else am_ev am_PP nX6_doActs 22 [l0] [] q1.2
    else none := (am_blk am_PP _ _ _ _ _).trans rfl
theorem be_X6_doActs_22 (M : am_M) (l0 : Int) : am_ev am_PP nX6_doActs 22 [l0] [] M =
    if 0 < l0 ∧ am_cls l0 = 6 then
    (am_evm am_PP nX6_stillness [(2, l0)] M).bind fun q1 =>
    am_ev am_PP nX6_doActs 24 [] [(0, q1.1)] q1.2
    else none := (am_blk am_PP _ _ _ _ _).trans rfl
theorem be_X6_doActs_23 (M : am_M) : am_ev am_PP nX6_doActs 23 [] [] M =
    am_ev am_PP nX6_doActs 24 [] [(0, 1)] M := (am_blk am_PP _ _ _ _ _).trans rfl
theorem be_X6_doActs_24 (M : am_M) (s0 : Int) : am_ev am_PP nX6_doActs 24 [] [(0, s0)] M =
    some (s0, M) := (am_blk am_PP _ _ _ _ _).trans rfl
theorem be_X6_firstAble_m (M : am_M) (a0 a1 a2 : Int) : am_evm am_PP nX6_firstAble [(2, a0), (0, a1), (0, a2)] M = am_ev am_PP nX6_firstAble 0 [a0, a1, a2] [] M := rfl
theorem be_X6_firstAble_0 (M : am_M) (l0 l1 l2 : Int) : am_ev am_PP nX6_firstAble 0 [l0, l1, l2] [] M =
    am_ev am_PP nX6_firstAble 1 [l0, l2, l1, 0] [] M := (am_blk am_PP _ _ _ _ _).trans rfl
theorem be_X6_firstAble_1 (M : am_M) (l0 l2 l3 l4 : Int) : am_ev am_PP nX6_firstAble 1 [l0, l2, l3, l4] [] M =
    (am_gf 6 4 M l0).bind fun v1 =>
    bif decide (v1 ≤ l4) then am_ev am_PP nX6_firstAble 9 [] [] M
    else am_ev am_PP nX6_firstAble 2 [l0, l2, l3, l4] [] M := (am_blk am_PP _ _ _ _ _).trans rfl
theorem be_X6_firstAble_2 (M : am_M) (l0 l2 l3 l4 : Int) : am_ev am_PP nX6_firstAble 2 [l0, l2, l3, l4] [] M =
    bif decide (0 ≤ l3) then am_ev am_PP nX6_firstAble 4 [l0, l2, l3, l4] [] M
    else am_ev am_PP nX6_firstAble 3 [l0, l2, l4] [] M := (am_blk am_PP _ _ _ _ _).trans rfl
theorem be_X6_firstAble_3 (M : am_M) (l0 l2 l4 : Int) : am_ev am_PP nX6_firstAble 3 [l0, l2, l4] [] M =
    (am_gf 6 4 M l0).bind fun v1 =>
    am_ev am_PP nX6_firstAble 6 [l0, l2, (am_w32 (v1 - 1)), l4] [] M := (am_blk am_PP _ _ _ _ _).trans rfl
theorem be_X6_firstAble_4 (M : am_M) (l0 l2 l3 l4 : Int) : am_ev am_PP nX6_firstAble 4 [l0, l2, l3, l4] [] M =
    (am_gf 6 4 M l0).bind fun v1 =>
    bif decide (l3 < v1) then am_ev am_PP nX6_firstAble 6 [l0, l2, l3, l4] [] M
    else am_ev am_PP nX6_firstAble 5 [l0, l2, l4] [] M := (am_blk am_PP _ _ _ _ _).trans rfl
theorem be_X6_firstAble_5 (M : am_M) (l0 l2 l4 : Int) : am_ev am_PP nX6_firstAble 5 [l0, l2, l4] [] M =
    am_ev am_PP nX6_firstAble 6 [l0, l2, 0, l4] [] M := (am_blk am_PP _ _ _ _ _).trans rfl
theorem be_X6_firstAble_6 (M : am_M) (l0 l2 l3 l4 : Int) : am_ev am_PP nX6_firstAble 6 [l0, l2, l3, l4] [] M =
    (am_gf 6 0 M l0).bind fun v1 =>
    (am_ald 3 M v1 l3).bind fun v2 =>
    if 0 < v2 ∧ am_cls v2 = 5 then
    (am_evm am_PP nX5_doing [(2, v2)] M).bind fun q3 =>
    bif !(decide (q3.1 = 0)) then am_ev am_PP nX6_firstAble 8 [l0, l2, l3, l4] [] q3.2
    else am_ev am_PP nX6_firstAble 7 [l3] [] q3.2
    else none := (am_blk am_PP _ _ _ _ _).trans rfl
theorem be_X6_firstAble_7 (M : am_M) (l3 : Int) : am_ev am_PP nX6_firstAble 7 [l3] [] M =
    some (l3, M) := (am_blk am_PP _ _ _ _ _).trans rfl
theorem be_X6_firstAble_8 (M : am_M) (l0 l2 l3 l4 : Int) : am_ev am_PP nX6_firstAble 8 [l0, l2, l3, l4] [] M =
    am_ev am_PP nX6_firstAble 1 [l0, l2, (am_w32 (l3 + l2)), (am_w32 (l4 + 1))] [] M := (am_blk am_PP _ _ _ _ _).trans rfl
theorem be_X6_firstAble_9 (M : am_M) : am_ev am_PP nX6_firstAble 9 [] [] M =
    some ((-1), M) := (am_blk am_PP _ _ _ _ _).trans rfl
theorem be_X6_stillness_m (M : am_M) (a0 : Int) : am_evm am_PP nX6_stillness [(2, a0)] M = am_ev am_PP nX6_stillness 0 [a0] [] M := rfl
theorem be_X6_stillness_0 (M : am_M) (l0 : Int) : am_ev am_PP nX6_stillness 0 [l0] [] M =
    if 0 < l0 ∧ am_cls l0 = 6 then
    (am_evm am_PP nX6_tightest [(2, l0)] M).bind fun q1 =>
    bif decide (q1.1 = 0) then am_ev am_PP nX6_stillness 2 [l0] [] q1.2
    else am_ev am_PP nX6_stillness 1 [] [] q1.2
    else none := (am_blk am_PP _ _ _ _ _).trans rfl
theorem be_X6_stillness_1 (M : am_M) : am_ev am_PP nX6_stillness 1 [] [] M =
    some (1, M) := (am_blk am_PP _ _ _ _ _).trans rfl
theorem be_X6_stillness_2 (M : am_M) (l0 : Int) : am_ev am_PP nX6_stillness 2 [l0] [] M =
    am_ev am_PP nX6_stillness 3 [l0, 0] [] M := (am_blk am_PP _ _ _ _ _).trans rfl
theorem be_X6_stillness_3 (M : am_M) (l0 l1 : Int) : am_ev am_PP nX6_stillness 3 [l0, l1] [] M =
    (am_gf 6 4 M l0).bind fun v1 =>
    bif decide (v1 ≤ l1) then am_ev am_PP nX6_stillness 7 [] [] M
    else am_ev am_PP nX6_stillness 4 [l0, l1] [] M := (am_blk am_PP _ _ _ _ _).trans rfl
theorem be_X6_stillness_4 (M : am_M) (l0 l1 : Int) : am_ev am_PP nX6_stillness 4 [l0, l1] [] M =
    (am_gf 6 0 M l0).bind fun v1 =>
    (am_ald 3 M v1 l1).bind fun v2 =>
    if 0 < v2 ∧ am_cls v2 = 5 then
    (am_evm am_PP nX5_doing [(2, v2)] M).bind fun q3 =>
    bif !(decide (q3.1 = 2)) then am_ev am_PP nX6_stillness 6 [l0, l1] [] q3.2
    else am_ev am_PP nX6_stillness 5 [] [] q3.2
    else none := (am_blk am_PP _ _ _ _ _).trans rfl
theorem be_X6_stillness_5 (M : am_M) : am_ev am_PP nX6_stillness 5 [] [] M =
    some (2, M) := (am_blk am_PP _ _ _ _ _).trans rfl
theorem be_X6_stillness_6 (M : am_M) (l0 l1 : Int) : am_ev am_PP nX6_stillness 6 [l0, l1] [] M =
    am_ev am_PP nX6_stillness 3 [l0, (am_w32 (l1 + 1))] [] M := (am_blk am_PP _ _ _ _ _).trans rfl
theorem be_X6_stillness_7 (M : am_M) : am_ev am_PP nX6_stillness 7 [] [] M =
    some (0, M) := (am_blk am_PP _ _ _ _ _).trans rfl
theorem be_X6_widenTightest_m (M : am_M) (a0 : Int) : am_evm am_PP nX6_widenTightest [(2, a0)] M = am_ev am_PP nX6_widenTightest 0 [a0] [] M := rfl
theorem be_X6_widenTightest_0 (M : am_M) (l0 : Int) : am_ev am_PP nX6_widenTightest 0 [l0] [] M =
    if 0 < l0 ∧ am_cls l0 = 6 then
    (am_evm am_PP nX6_tightest [(2, l0)] M).bind fun q1 =>
    bif !(decide (q1.1 = 0)) then am_ev am_PP nX6_widenTightest 2 [l0, q1.1] [] q1.2
    else am_ev am_PP nX6_widenTightest 1 [] [] q1.2
    else none := (am_blk am_PP _ _ _ _ _).trans rfl
theorem be_X6_widenTightest_1 (M : am_M) : am_ev am_PP nX6_widenTightest 1 [] [] M =
    if 0 = 0 ∨ 0 = 1 then some (0, M) else none := (am_blk am_PP _ _ _ _ _).trans rfl
theorem be_X6_widenTightest_2 (M : am_M) (l0 l1 : Int) : am_ev am_PP nX6_widenTightest 2 [l0, l1] [] M =
    if 0 < l1 ∧ am_cls l1 = 0 then
    (am_evm am_PP nX0_widen [(2, l1)] M).bind fun q1 =>
    (am_gf 6 7 q1.2 l0).bind fun v2 =>
    bif decide (100 ≤ v2) then am_ev am_PP nX6_widenTightest 4 [l0] [] q1.2
    else am_ev am_PP nX6_widenTightest 3 [l0, l1] [] q1.2
    else none := (am_blk am_PP _ _ _ _ _).trans rfl
theorem be_X6_widenTightest_3 (M : am_M) (l0 l1 : Int) : am_ev am_PP nX6_widenTightest 3 [l0, l1] [] M =
    (am_gf 6 2 M l0).bind fun v1 =>
    (am_gf 6 7 M l0).bind fun v2 =>
    (am_gf 0 0 M l1).bind fun v3 =>
    (am_ast 0 M v1 v2 v3).bind fun M1 =>
    am_ev am_PP nX6_widenTightest 4 [l0] [] M1 := (am_blk am_PP _ _ _ _ _).trans rfl
theorem be_X6_widenTightest_4 (M : am_M) (l0 : Int) : am_ev am_PP nX6_widenTightest 4 [l0] [] M =
    (am_gf 6 7 M l0).bind fun v1 =>
    (am_pf 6 7 0 M l0 (am_w32 (v1 + 1))).bind fun M1 =>
    if 1 = 0 ∨ 1 = 1 then some (1, M1) else none := (am_blk am_PP _ _ _ _ _).trans rfl
theorem be_X6_tightest_m (M : am_M) (a0 : Int) : am_evm am_PP nX6_tightest [(2, a0)] M = am_ev am_PP nX6_tightest 0 [a0] [] M := rfl
theorem be_X6_tightest_0 (M : am_M) (l0 : Int) : am_ev am_PP nX6_tightest 0 [l0] [] M =
    am_ev am_PP nX6_tightest 1 [l0, 0, 0] [] M := (am_blk am_PP _ _ _ _ _).trans rfl
theorem be_X6_tightest_1 (M : am_M) (l0 l1 l2 : Int) : am_ev am_PP nX6_tightest 1 [l0, l1, l2] [] M =
    (am_gf 6 4 M l0).bind fun v1 =>
    bif decide (v1 ≤ l2) then am_ev am_PP nX6_tightest 11 [l1] [] M
    else am_ev am_PP nX6_tightest 2 [l0, l1, l2] [] M := (am_blk am_PP _ _ _ _ _).trans rfl
theorem be_X6_tightest_2 (M : am_M) (l0 l1 l2 : Int) : am_ev am_PP nX6_tightest 2 [l0, l1, l2] [] M =
    (am_gf 6 0 M l0).bind fun v1 =>
    (am_ald 3 M v1 l2).bind fun v2 =>
    if 0 < v2 ∧ am_cls v2 = 5 then
    (am_evm am_PP nX5_doing [(2, v2)] M).bind fun q3 =>
    bif !(decide (q3.1 = 2)) then am_ev am_PP nX6_tightest 4 [l0, l1, l2] [] q3.2
    else am_ev am_PP nX6_tightest 3 [l0, l1, l2, v2] [] q3.2
    else none := (am_blk am_PP _ _ _ _ _).trans rfl
theorem be_X6_tightest_3 (M : am_M) (l0 l1 l2 l3 : Int) : am_ev am_PP nX6_tightest 3 [l0, l1, l2, l3] [] M =
    (am_gf 5 2 M l3).bind fun v1 =>
    (am_gf 5 9 M l3).bind fun v2 =>
    (am_ald 4 M v1 v2).bind fun v3 =>
    am_ev am_PP nX6_tightest 5 [l0, l1, l2] [(2, v3)] M := (am_blk am_PP _ _ _ _ _).trans rfl
theorem be_X6_tightest_4 (M : am_M) (l0 l1 l2 : Int) : am_ev am_PP nX6_tightest 4 [l0, l1, l2] [] M =
    am_ev am_PP nX6_tightest 5 [l0, l1, l2] [(2, 0)] M := (am_blk am_PP _ _ _ _ _).trans rfl
theorem be_X6_tightest_5 (M : am_M) (l0 l1 l2 s0 : Int) : am_ev am_PP nX6_tightest 5 [l0, l1, l2] [(2, s0)] M =
    bif decide (s0 = 0) then am_ev am_PP nX6_tightest 10 [l0, l1, l2] [] M
    else am_ev am_PP nX6_tightest 6 [l0, l1, l2, s0] [] M := (am_blk am_PP _ _ _ _ _).trans rfl
theorem be_X6_tightest_6 (M : am_M) (l0 l1 l2 l4 : Int) : am_ev am_PP nX6_tightest 6 [l0, l1, l2, l4] [] M =
    (am_gf 0 5 M l4).bind fun v1 =>
    bif decide (1000 ≤ v1) then am_ev am_PP nX6_tightest 10 [l0, l1, l2] [] M
    else am_ev am_PP nX6_tightest 7 [l0, l1, l2, l4] [] M := (am_blk am_PP _ _ _ _ _).trans rfl
theorem be_X6_tightest_7 (M : am_M) (l0 l1 l2 l4 : Int) : am_ev am_PP nX6_tightest 7 [l0, l1, l2, l4] [] M =
    bif decide (l1 = 0) then am_ev am_PP nX6_tightest 9 [l0, l2, l4] [] M
    else am_ev am_PP nX6_tightest 8 [l0, l1, l2, l4] [] M := (am_blk am_PP _ _ _ _ _).trans rfl
theorem be_X6_tightest_8 (M : am_M) (l0 l1 l2 l4 : Int) : am_ev am_PP nX6_tightest 8 [l0, l1, l2, l4] [] M =
    if 0 < l4 ∧ am_cls l4 = 0 then
    (am_evm am_PP nX0_isTighterThan [(2, l4), (2, l1)] M).bind fun q1 =>
    bif decide (q1.1 = 0) then am_ev am_PP nX6_tightest 10 [l0, l1, l2] [] q1.2
    else am_ev am_PP nX6_tightest 9 [l0, l2, l4] [] q1.2
    else none := (am_blk am_PP _ _ _ _ _).trans rfl
theorem be_X6_tightest_9 (M : am_M) (l0 l2 l4 : Int) : am_ev am_PP nX6_tightest 9 [l0, l2, l4] [] M =
    am_ev am_PP nX6_tightest 10 [l0, l4, l2] [] M := (am_blk am_PP _ _ _ _ _).trans rfl
theorem be_X6_tightest_10 (M : am_M) (l0 l1 l2 : Int) : am_ev am_PP nX6_tightest 10 [l0, l1, l2] [] M =
    am_ev am_PP nX6_tightest 1 [l0, l1, (am_w32 (l2 + 1))] [] M := (am_blk am_PP _ _ _ _ _).trans rfl
theorem be_X6_tightest_11 (M : am_M) (l1 : Int) : am_ev am_PP nX6_tightest 11 [l1] [] M =
    some (l1, M) := (am_blk am_PP _ _ _ _ _).trans rfl
theorem be_X6_isFixed_m (M : am_M) (a0 : Int) : am_evm am_PP nX6_isFixed [(2, a0)] M = am_ev am_PP nX6_isFixed 0 [a0] [] M := rfl
theorem be_X6_isFixed_0 (M : am_M) (l0 : Int) : am_ev am_PP nX6_isFixed 0 [l0] [] M =
    (am_gf 6 6 M l0).bind fun v1 =>
    bif decide (v1 = 0) then am_ev am_PP nX6_isFixed 2 [l0] [] M
    else am_ev am_PP nX6_isFixed 1 [] [] M := (am_blk am_PP _ _ _ _ _).trans rfl
theorem be_X6_isFixed_1 (M : am_M) : am_ev am_PP nX6_isFixed 1 [] [] M =
    if 0 = 0 ∨ 0 = 1 then some (0, M) else none := (am_blk am_PP _ _ _ _ _).trans rfl
theorem be_X6_isFixed_2 (M : am_M) (l0 : Int) : am_ev am_PP nX6_isFixed 2 [l0] [] M =
    am_ev am_PP nX6_isFixed 3 [l0, 0] [] M := (am_blk am_PP _ _ _ _ _).trans rfl
theorem be_X6_isFixed_3 (M : am_M) (l0 l1 : Int) : am_ev am_PP nX6_isFixed 3 [l0, l1] [] M =
    (am_gf 6 4 M l0).bind fun v1 =>
    bif decide (v1 ≤ l1) then am_ev am_PP nX6_isFixed 7 [] [] M
    else am_ev am_PP nX6_isFixed 4 [l0, l1] [] M := (am_blk am_PP _ _ _ _ _).trans rfl
theorem be_X6_isFixed_4 (M : am_M) (l0 l1 : Int) : am_ev am_PP nX6_isFixed 4 [l0, l1] [] M =
    (am_gf 6 0 M l0).bind fun v1 =>
    (am_ald 3 M v1 l1).bind fun v2 =>
    (am_gf 5 6 M v2).bind fun v3 =>
    (am_evm am_PP nX6_hasFixedRates [(0, v3)] M).bind fun q4 =>
    bif !(decide (q4.1 = 0)) then am_ev am_PP nX6_isFixed 6 [l0, l1] [] q4.2
    else am_ev am_PP nX6_isFixed 5 [] [] q4.2 := (am_blk am_PP _ _ _ _ _).trans rfl
theorem be_X6_isFixed_5 (M : am_M) : am_ev am_PP nX6_isFixed 5 [] [] M =
    if 0 = 0 ∨ 0 = 1 then some (0, M) else none := (am_blk am_PP _ _ _ _ _).trans rfl
theorem be_X6_isFixed_6 (M : am_M) (l0 l1 : Int) : am_ev am_PP nX6_isFixed 6 [l0, l1] [] M =
    am_ev am_PP nX6_isFixed 3 [l0, (am_w32 (l1 + 1))] [] M := (am_blk am_PP _ _ _ _ _).trans rfl
theorem be_X6_isFixed_7 (M : am_M) : am_ev am_PP nX6_isFixed 7 [] [] M =
    if 1 = 0 ∨ 1 = 1 then some (1, M) else none := (am_blk am_PP _ _ _ _ _).trans rfl
theorem be_X6_hasFixedRates_m (M : am_M) (a0 : Int) : am_evm am_PP nX6_hasFixedRates [(0, a0)] M = am_ev am_PP nX6_hasFixedRates 0 [a0] [] M := rfl
theorem be_X6_hasFixedRates_0 (M : am_M) (l0 : Int) : am_ev am_PP nX6_hasFixedRates 0 [l0] [] M =
    bif decide (l0 = 4) then am_ev am_PP nX6_hasFixedRates 1 [] [] M else
    bif decide (l0 = 5) then am_ev am_PP nX6_hasFixedRates 1 [] [] M else
    bif decide (l0 = 6) then am_ev am_PP nX6_hasFixedRates 2 [] [] M else
    bif decide (l0 = 7) then am_ev am_PP nX6_hasFixedRates 1 [] [] M else
    bif decide (l0 = 8) then am_ev am_PP nX6_hasFixedRates 2 [] [] M else
    bif decide (l0 = 9) then am_ev am_PP nX6_hasFixedRates 2 [] [] M else
    bif decide (l0 = 10) then am_ev am_PP nX6_hasFixedRates 2 [] [] M else
    bif decide (l0 = 11) then am_ev am_PP nX6_hasFixedRates 1 [] [] M else
    bif decide (l0 = 12) then am_ev am_PP nX6_hasFixedRates 1 [] [] M else
    bif decide (l0 = 13) then am_ev am_PP nX6_hasFixedRates 1 [] [] M else
    am_ev am_PP nX6_hasFixedRates 2 [] [] M := (am_blk am_PP _ _ _ _ _).trans rfl
theorem be_X6_hasFixedRates_1 (M : am_M) : am_ev am_PP nX6_hasFixedRates 1 [] [] M =
    if 0 = 0 ∨ 0 = 1 then some (0, M) else none := (am_blk am_PP _ _ _ _ _).trans rfl
theorem be_X6_hasFixedRates_2 (M : am_M) : am_ev am_PP nX6_hasFixedRates 2 [] [] M =
    if 1 = 0 ∨ 1 = 1 then some (1, M) else none := (am_blk am_PP _ _ _ _ _).trans rfl
theorem be_X7_init_m (M : am_M) (a0 : Int) : am_evm am_PP nX7_init [(2, a0)] M = am_ev am_PP nX7_init 0 [a0] [] M := rfl
set_option maxRecDepth 100000 in
set_option maxHeartbeats 8000000 in
theorem be_X7_init_0 (M : am_M) (l0 : Int) : am_ev am_PP nX7_init 0 [l0] [] M =
    if l0 = 0 then none else
    (am_newa 0 40 M 309).bind fun M1 =>
    (am_pf 7 1 0 M1 l0 309).bind fun M2 =>
    (am_newa 0 40 M2 565).bind fun M3 =>
    (am_pf 7 2 0 M3 l0 565).bind fun M4 =>
    (am_newa 0 120 M4 63).bind fun M5 =>
    (am_pf 7 3 0 M5 l0 63).bind fun M6 =>
    (am_newa 0 80 M6 62).bind fun M7 =>
    (am_pf 7 4 0 M7 l0 62).bind fun M8 =>
    (am_newa 0 40 M8 821).bind fun M9 =>
    (am_pf 7 5 0 M9 l0 821).bind fun M10 =>
    (am_newa 1 8000 M10 68).bind fun M11 =>
    (am_pf 7 6 0 M11 l0 68).bind fun M12 =>
    (am_newa 0 40 M12 1077).bind fun M13 =>
    (am_pf 7 7 0 M13 l0 1077).bind fun M14 =>
    (am_newa 0 480 M14 64).bind fun M15 =>
    (am_pf 7 8 0 M15 l0 64).bind fun M16 =>
    (am_newa 0 480 M16 320).bind fun M17 =>
    (am_pf 7 9 0 M17 l0 320).bind fun M18 =>
    (am_newa 0 480 M18 576).bind fun M19 =>
    (am_pf 7 10 0 M19 l0 576).bind fun M20 =>
    (am_newa 0 60 M20 61).bind fun M21 =>
    (am_pf 7 12 0 M21 l0 61).bind fun M22 =>
    (am_newa 0 60 M22 317).bind fun M23 =>
    (am_pf 7 13 0 M23 l0 317).bind fun M24 =>
    (am_newa 0 60 M24 573).bind fun M25 =>
    (am_pf 7 14 0 M25 l0 573).bind fun M26 =>
    (am_newa 0 60 M26 829).bind fun M27 =>
    (am_pf 7 15 0 M27 l0 829).bind fun M28 =>
    (am_newa 0 60 M28 1085).bind fun M29 =>
    (am_pf 7 16 0 M29 l0 1085).bind fun M30 =>
    (am_newa 0 60 M30 1341).bind fun M31 =>
    (am_pf 7 18 0 M31 l0 1341).bind fun M32 =>
    (am_newa 0 60 M32 1597).bind fun M33 =>
    (am_pf 7 19 0 M33 l0 1597).bind fun M34 =>
    (am_newa 0 60 M34 1853).bind fun M35 =>
    (am_pf 7 20 0 M35 l0 1853).bind fun M36 =>
    (am_newa 0 60 M36 2109).bind fun M37 =>
    (am_pf 7 21 0 M37 l0 2109).bind fun M38 =>
    (am_newa 0 60 M38 2365).bind fun M39 =>
    (am_pf 7 22 0 M39 l0 2365).bind fun M40 =>
    (am_newa 1 60 M40 65).bind fun M41 =>
    (am_pf 7 23 0 M41 l0 65).bind fun M42 =>
    (am_newa 0 60 M42 2621).bind fun M43 =>
    (am_pf 7 24 0 M43 l0 2621).bind fun M44 =>
    (am_newa 0 60 M44 2877).bind fun M45 =>
    (am_pf 7 25 0 M45 l0 2877).bind fun M46 =>
    (am_newa 0 60 M46 3133).bind fun M47 =>
    (am_pf 7 26 0 M47 l0 3133).bind fun M48 =>
    (am_newa 1 44000 M48 69).bind fun M49 =>
    (am_pf 7 27 0 M49 l0 69).bind fun M50 =>
    (am_newa 0 44000 M50 70).bind fun M51 =>
    (am_pf 7 28 0 M51 l0 70).bind fun M52 =>
    (am_newa 0 40 M52 1333).bind fun M53 =>
    (am_pf 7 30 0 M53 l0 1333).bind fun M54 =>
    (am_newa 0 40 M54 1589).bind fun M55 =>
    (am_pf 7 31 0 M55 l0 1589).bind fun M56 =>
    (am_newa 1 40 M56 566).bind fun M57 =>
    (am_pf 7 32 0 M57 l0 566).bind fun M58 =>
    (am_newa 1 40 M58 822).bind fun M59 =>
    (am_pf 7 33 0 M59 l0 822).bind fun M60 =>
    (am_newa 0 40 M60 1845).bind fun M61 =>
    (am_pf 7 34 0 M61 l0 1845).bind fun M62 =>
    (am_newa 0 40 M62 2101).bind fun M63 =>
    (am_pf 7 35 0 M63 l0 2101).bind fun M64 =>
    (am_newa 0 40 M64 2357).bind fun M65 =>
    (am_pf 7 36 0 M65 l0 2357).bind fun M66 =>
    (am_newa 0 40 M66 2613).bind fun M67 =>
    (am_pf 7 37 0 M67 l0 2613).bind fun M68 =>
    (am_newa 1 160 M68 66).bind fun M69 =>
    (am_pf 7 38 0 M69 l0 66).bind fun M70 =>
    (am_newa 1 1200 M70 67).bind fun M71 =>
    (am_pf 7 39 0 M71 l0 67).bind fun M72 =>
    (am_newa 0 40 M72 2869).bind fun M73 =>
    (am_pf 7 40 0 M73 l0 2869).bind fun M74 =>
    (am_newa 0 40 M74 3125).bind fun M75 =>
    (am_pf 7 41 0 M75 l0 3125).bind fun M76 =>
    (am_newa 0 100 M76 308).bind fun M77 =>
    (am_pf 7 44 0 M77 l0 308).bind fun M78 =>
    (am_newa 2 40 M78 71).bind fun M79 =>
    (am_pf 7 49 0 M79 l0 71).bind fun M80 =>
    (am_newa 1 40 M80 1078).bind fun M81 =>
    (am_pf 7 50 0 M81 l0 1078).bind fun M82 =>
    (am_newa 1 40 M82 1334).bind fun M83 =>
    (am_pf 7 51 0 M83 l0 1334).bind fun M84 =>
    (am_newa 0 40 M84 3381).bind fun M85 =>
    (am_pf 7 52 0 M85 l0 3381).bind fun M86 =>
    (am_newa 1 40 M86 1590).bind fun M87 =>
    (am_pf 7 54 0 M87 l0 1590).bind fun M88 =>
    some (0, M88) := (am_blk am_PP _ _ _ _ _).trans rfl
theorem be_X7_in_m (M : am_M) (a0 a1 a2 : Int) : am_evm am_PP nX7_in [(1, a0), (1, a1), (1, a2)] M = am_ev am_PP nX7_in 0 [a0, a1, a2] [] M := rfl
theorem be_X7_in_0 (M : am_M) (l0 l2 l4 : Int) : am_ev am_PP nX7_in 0 [l0, l2, l4] [] M =
    bif decide ((am_lcmp l0 l2) < 0) then am_ev am_PP nX7_in 3 [] [] M
    else am_ev am_PP nX7_in 1 [l0, l4] [] M := (am_blk am_PP _ _ _ _ _).trans rfl
theorem be_X7_in_1 (M : am_M) (l0 l4 : Int) : am_ev am_PP nX7_in 1 [l0, l4] [] M =
    bif decide (0 < (am_lcmp l0 l4)) then am_ev am_PP nX7_in 3 [] [] M
    else am_ev am_PP nX7_in 2 [] [] M := (am_blk am_PP _ _ _ _ _).trans rfl
theorem be_X7_in_2 (M : am_M) : am_ev am_PP nX7_in 2 [] [] M =
    am_ev am_PP nX7_in 4 [] [(0, 1)] M := (am_blk am_PP _ _ _ _ _).trans rfl
theorem be_X7_in_3 (M : am_M) : am_ev am_PP nX7_in 3 [] [] M =
    am_ev am_PP nX7_in 4 [] [(0, 0)] M := (am_blk am_PP _ _ _ _ _).trans rfl
theorem be_X7_in_4 (M : am_M) (s0 : Int) : am_ev am_PP nX7_in 4 [] [(0, s0)] M =
    if s0 = 0 ∨ s0 = 1 then some (s0, M) else none := (am_blk am_PP _ _ _ _ _).trans rfl
theorem be_X7_insOf_m (M : am_M) (a0 : Int) : am_evm am_PP nX7_insOf [(0, a0)] M = am_ev am_PP nX7_insOf 0 [a0] [] M := rfl
theorem be_X7_insOf_0 (M : am_M) (l0 : Int) : am_ev am_PP nX7_insOf 0 [l0] [] M =
    bif !(decide (l0 = 0)) then am_ev am_PP nX7_insOf 2 [l0] [] M
    else am_ev am_PP nX7_insOf 1 [] [] M := (am_blk am_PP _ _ _ _ _).trans rfl
theorem be_X7_insOf_1 (M : am_M) : am_ev am_PP nX7_insOf 1 [] [] M =
    am_ev am_PP nX7_insOf 9 [] [(0, 0)] M := (am_blk am_PP _ _ _ _ _).trans rfl
theorem be_X7_insOf_2 (M : am_M) (l0 : Int) : am_ev am_PP nX7_insOf 2 [l0] [] M =
    bif decide (l0 = 4) then am_ev am_PP nX7_insOf 5 [] [] M
    else am_ev am_PP nX7_insOf 3 [l0] [] M := (am_blk am_PP _ _ _ _ _).trans rfl
theorem be_X7_insOf_3 (M : am_M) (l0 : Int) : am_ev am_PP nX7_insOf 3 [l0] [] M =
    bif decide (l0 = 6) then am_ev am_PP nX7_insOf 5 [] [] M
    else am_ev am_PP nX7_insOf 4 [l0] [] M := (am_blk am_PP _ _ _ _ _).trans rfl
theorem be_X7_insOf_4 (M : am_M) (l0 : Int) : am_ev am_PP nX7_insOf 4 [l0] [] M =
    bif !(decide (l0 = 13)) then am_ev am_PP nX7_insOf 6 [l0] [] M
    else am_ev am_PP nX7_insOf 5 [] [] M := (am_blk am_PP _ _ _ _ _).trans rfl
theorem be_X7_insOf_5 (M : am_M) : am_ev am_PP nX7_insOf 5 [] [] M =
    am_ev am_PP nX7_insOf 9 [] [(0, 2)] M := (am_blk am_PP _ _ _ _ _).trans rfl
theorem be_X7_insOf_6 (M : am_M) (l0 : Int) : am_ev am_PP nX7_insOf 6 [l0] [] M =
    bif !(decide (l0 = 7)) then am_ev am_PP nX7_insOf 8 [] [] M
    else am_ev am_PP nX7_insOf 7 [] [] M := (am_blk am_PP _ _ _ _ _).trans rfl
theorem be_X7_insOf_7 (M : am_M) : am_ev am_PP nX7_insOf 7 [] [] M =
    am_ev am_PP nX7_insOf 9 [] [(0, 3)] M := (am_blk am_PP _ _ _ _ _).trans rfl
theorem be_X7_insOf_8 (M : am_M) : am_ev am_PP nX7_insOf 8 [] [] M =
    am_ev am_PP nX7_insOf 9 [] [(0, 1)] M := (am_blk am_PP _ _ _ _ _).trans rfl
theorem be_X7_insOf_9 (M : am_M) (s0 : Int) : am_ev am_PP nX7_insOf 9 [] [(0, s0)] M =
    some (s0, M) := (am_blk am_PP _ _ _ _ _).trans rfl
theorem be_X7_outsOf_m (M : am_M) (a0 : Int) : am_evm am_PP nX7_outsOf [(0, a0)] M = am_ev am_PP nX7_outsOf 0 [a0] [] M := rfl
theorem be_X7_outsOf_0 (M : am_M) (l0 : Int) : am_ev am_PP nX7_outsOf 0 [l0] [] M =
    bif !(decide (l0 = 9)) then am_ev am_PP nX7_outsOf 2 [l0] [] M
    else am_ev am_PP nX7_outsOf 1 [] [] M := (am_blk am_PP _ _ _ _ _).trans rfl
theorem be_X7_outsOf_1 (M : am_M) : am_ev am_PP nX7_outsOf 1 [] [] M =
    am_ev am_PP nX7_outsOf 7 [] [(0, 0)] M := (am_blk am_PP _ _ _ _ _).trans rfl
theorem be_X7_outsOf_2 (M : am_M) (l0 : Int) : am_ev am_PP nX7_outsOf 2 [l0] [] M =
    bif decide (l0 = 5) then am_ev am_PP nX7_outsOf 5 [] [] M
    else am_ev am_PP nX7_outsOf 3 [l0] [] M := (am_blk am_PP _ _ _ _ _).trans rfl
theorem be_X7_outsOf_3 (M : am_M) (l0 : Int) : am_ev am_PP nX7_outsOf 3 [l0] [] M =
    bif decide (l0 = 8) then am_ev am_PP nX7_outsOf 5 [] [] M
    else am_ev am_PP nX7_outsOf 4 [l0] [] M := (am_blk am_PP _ _ _ _ _).trans rfl
theorem be_X7_outsOf_4 (M : am_M) (l0 : Int) : am_ev am_PP nX7_outsOf 4 [l0] [] M =
    bif !(decide (l0 = 13)) then am_ev am_PP nX7_outsOf 6 [] [] M
    else am_ev am_PP nX7_outsOf 5 [] [] M := (am_blk am_PP _ _ _ _ _).trans rfl
theorem be_X7_outsOf_5 (M : am_M) : am_ev am_PP nX7_outsOf 5 [] [] M =
    am_ev am_PP nX7_outsOf 7 [] [(0, 2)] M := (am_blk am_PP _ _ _ _ _).trans rfl
theorem be_X7_outsOf_6 (M : am_M) : am_ev am_PP nX7_outsOf 6 [] [] M =
    am_ev am_PP nX7_outsOf 7 [] [(0, 1)] M := (am_blk am_PP _ _ _ _ _).trans rfl
theorem be_X7_outsOf_7 (M : am_M) (s0 : Int) : am_ev am_PP nX7_outsOf 7 [] [(0, s0)] M =
    some (s0, M) := (am_blk am_PP _ _ _ _ _).trans rfl
theorem be_X7_isWeaver_m (M : am_M) (a0 a1 : Int) : am_evm am_PP nX7_isWeaver [(2, a0), (0, a1)] M = am_ev am_PP nX7_isWeaver 0 [a0, a1] [] M := rfl
theorem be_X7_isWeaver_0 (M : am_M) (l0 l1 : Int) : am_ev am_PP nX7_isWeaver 0 [l0, l1] [] M =
    (am_gf 7 0 M l0).bind fun v1 =>
    (am_evm am_PP nX7_in [(1, l1), (1, 0), (1, (am_w32 (v1 - 1)))] M).bind fun q2 =>
    if q2.1 = 0 ∨ q2.1 = 1 then some (q2.1, q2.2) else none := (am_blk am_PP _ _ _ _ _).trans rfl
theorem be_X7_weaver_m (M : am_M) (a0 a1 a2 : Int) : am_evm am_PP nX7_weaver [(2, a0), (0, a1), (0, a2)] M = am_ev am_PP nX7_weaver 0 [a0, a1, a2] [] M := rfl
theorem be_X7_weaver_0 (M : am_M) (l0 l1 l2 : Int) : am_ev am_PP nX7_weaver 0 [l0, l1, l2] [] M =
    (am_evm am_PP nX7_in [(1, l1), (1, 0), (1, 13)] M).bind fun q1 =>
    bif decide (q1.1 = 0) then am_ev am_PP nX7_weaver 10 [l0, l1, l2] [] q1.2
    else am_ev am_PP nX7_weaver 1 [l0, l1, l2] [] q1.2 := (am_blk am_PP _ _ _ _ _).trans rfl
theorem be_X7_weaver_1 (M : am_M) (l0 l1 l2 : Int) : am_ev am_PP nX7_weaver 1 [l0, l1, l2] [] M =
    bif !(decide (l1 = 2)) then am_ev am_PP nX7_weaver 3 [l0, l1, l2] [] M
    else am_ev am_PP nX7_weaver 2 [l0, l1, l2] [] M := (am_blk am_PP _ _ _ _ _).trans rfl
theorem be_X7_weaver_2 (M : am_M) (l0 l1 l2 : Int) : am_ev am_PP nX7_weaver 2 [l0, l1, l2] [] M =
    (am_evm am_PP nX7_in [(1, l2), (1, 0), (1, 20)] M).bind fun q1 =>
    bif decide (q1.1 = 0) then am_ev am_PP nX7_weaver 10 [l0, l1, l2] [] q1.2
    else am_ev am_PP nX7_weaver 3 [l0, l1, l2] [] q1.2 := (am_blk am_PP _ _ _ _ _).trans rfl
theorem be_X7_weaver_3 (M : am_M) (l0 l1 l2 : Int) : am_ev am_PP nX7_weaver 3 [l0, l1, l2] [] M =
    bif !(decide (l1 = 5)) then am_ev am_PP nX7_weaver 5 [l0, l1, l2] [] M
    else am_ev am_PP nX7_weaver 4 [l0, l1, l2] [] M := (am_blk am_PP _ _ _ _ _).trans rfl
theorem be_X7_weaver_4 (M : am_M) (l0 l1 l2 : Int) : am_ev am_PP nX7_weaver 4 [l0, l1, l2] [] M =
    (am_evm am_PP nX7_in [(1, l2), (1, 1), (1, 1000)] M).bind fun q1 =>
    bif decide (q1.1 = 0) then am_ev am_PP nX7_weaver 10 [l0, l1, l2] [] q1.2
    else am_ev am_PP nX7_weaver 5 [l0, l1, l2] [] q1.2 := (am_blk am_PP _ _ _ _ _).trans rfl
theorem be_X7_weaver_5 (M : am_M) (l0 l1 l2 : Int) : am_ev am_PP nX7_weaver 5 [l0, l1, l2] [] M =
    bif !(decide (l1 = 11)) then am_ev am_PP nX7_weaver 7 [l0, l1, l2] [] M
    else am_ev am_PP nX7_weaver 6 [l0, l1, l2] [] M := (am_blk am_PP _ _ _ _ _).trans rfl
theorem be_X7_weaver_6 (M : am_M) (l0 l1 l2 : Int) : am_ev am_PP nX7_weaver 6 [l0, l1, l2] [] M =
    (am_evm am_PP nX7_in [(1, l2), (1, 1), (1, 30)] M).bind fun q1 =>
    bif decide (q1.1 = 0) then am_ev am_PP nX7_weaver 10 [l0, l1, l2] [] q1.2
    else am_ev am_PP nX7_weaver 7 [l0, l1, l2] [] q1.2 := (am_blk am_PP _ _ _ _ _).trans rfl
theorem be_X7_weaver_7 (M : am_M) (l0 l1 l2 : Int) : am_ev am_PP nX7_weaver 7 [l0, l1, l2] [] M =
    bif !(decide (l1 = 12)) then am_ev am_PP nX7_weaver 9 [l0, l1, l2] [] M
    else am_ev am_PP nX7_weaver 8 [l0, l1, l2] [] M := (am_blk am_PP _ _ _ _ _).trans rfl
theorem be_X7_weaver_8 (M : am_M) (l0 l1 l2 : Int) : am_ev am_PP nX7_weaver 8 [l0, l1, l2] [] M =
    (am_evm am_PP nX7_in [(1, l2), (1, 0), (1, 1000)] M).bind fun q1 =>
    bif decide (q1.1 = 0) then am_ev am_PP nX7_weaver 10 [l0, l1, l2] [] q1.2
    else am_ev am_PP nX7_weaver 9 [l0, l1, l2] [] q1.2 := (am_blk am_PP _ _ _ _ _).trans rfl
theorem be_X7_weaver_9 (M : am_M) (l0 l1 l2 : Int) : am_ev am_PP nX7_weaver 9 [l0, l1, l2] [] M =
    am_ev am_PP nX7_weaver 11 [l0, l1, l2] [(0, 1)] M := (am_blk am_PP _ _ _ _ _).trans rfl
theorem be_X7_weaver_10 (M : am_M) (l0 l1 l2 : Int) : am_ev am_PP nX7_weaver 10 [l0, l1, l2] [] M =
    am_ev am_PP nX7_weaver 11 [l0, l1, l2] [(0, 0)] M := (am_blk am_PP _ _ _ _ _).trans rfl
theorem be_X7_weaver_11 (M : am_M) (l0 l1 l2 s0 : Int) : am_ev am_PP nX7_weaver 11 [l0, l1, l2] [(0, s0)] M =
    bif !(decide (s0 = 0)) then am_ev am_PP nX7_weaver 13 [l0, l1, l2] [] M
    else am_ev am_PP nX7_weaver 12 [] [] M := (am_blk am_PP _ _ _ _ _).trans rfl
theorem be_X7_weaver_12 (M : am_M) : am_ev am_PP nX7_weaver 12 [] [] M =
    some ((-1), M) := (am_blk am_PP _ _ _ _ _).trans rfl
theorem be_X7_weaver_13 (M : am_M) (l0 l1 l2 : Int) : am_ev am_PP nX7_weaver 13 [l0, l1, l2] [] M =
    (am_gf 7 17 M l0).bind fun v1 =>
    bif decide (v1 = 0) then am_ev am_PP nX7_weaver 15 [l0, l1, l2] [] M
    else am_ev am_PP nX7_weaver 14 [] [] M := (am_blk am_PP _ _ _ _ _).trans rfl
theorem be_X7_weaver_14 (M : am_M) : am_ev am_PP nX7_weaver 14 [] [] M =
    some ((-2), M) := (am_blk am_PP _ _ _ _ _).trans rfl
theorem be_X7_weaver_15 (M : am_M) (l0 l1 l2 : Int) : am_ev am_PP nX7_weaver 15 [l0, l1, l2] [] M =
    (am_gf 7 0 M l0).bind fun v1 =>
    bif !(decide (v1 = 40)) then am_ev am_PP nX7_weaver 17 [l0, l1, l2] [] M
    else am_ev am_PP nX7_weaver 16 [] [] M := (am_blk am_PP _ _ _ _ _).trans rfl
theorem be_X7_weaver_16 (M : am_M) : am_ev am_PP nX7_weaver 16 [] [] M =
    some ((-3), M) := (am_blk am_PP _ _ _ _ _).trans rfl
set_option maxRecDepth 100000 in
set_option maxHeartbeats 8000000 in
theorem be_X7_weaver_17 (M : am_M) (l0 l1 l2 : Int) : am_ev am_PP nX7_weaver 17 [l0, l1, l2] [] M =
    (am_gf 7 0 M l0).bind fun v1 =>
    (am_gf 7 1 M l0).bind fun v2 =>
    (am_ast 0 M v2 v1 l1).bind fun M1 =>
    (am_gf 7 2 M1 l0).bind fun v3 =>
    (am_ast 0 M1 v3 v1 l2).bind fun M2 =>
    (am_gf 7 5 M2 l0).bind fun v4 =>
    (am_ast 0 M2 v4 v1 0).bind fun M3 =>
    (am_gf 7 7 M3 l0).bind fun v5 =>
    (am_ast 0 M3 v5 v1 0).bind fun M4 =>
    am_ev am_PP nX7_weaver 18 [l0, v1, 0] [] M4 := (am_blk am_PP _ _ _ _ _).trans rfl
theorem be_X7_weaver_18 (M : am_M) (l0 l4 l5 : Int) : am_ev am_PP nX7_weaver 18 [l0, l4, l5] [] M =
    bif decide (3 ≤ l5) then am_ev am_PP nX7_weaver 20 [l0, l4] [] M
    else am_ev am_PP nX7_weaver 19 [l0, l4, l5] [] M := (am_blk am_PP _ _ _ _ _).trans rfl
theorem be_X7_weaver_19 (M : am_M) (l0 l4 l5 : Int) : am_ev am_PP nX7_weaver 19 [l0, l4, l5] [] M =
    (am_gf 7 3 M l0).bind fun v1 =>
    (am_ast 0 M v1 (am_w32 ((am_w32 (3 * l4)) + l5)) (-1)).bind fun M1 =>
    am_ev am_PP nX7_weaver 18 [l0, l4, (am_w32 (l5 + 1))] [] M1 := (am_blk am_PP _ _ _ _ _).trans rfl
set_option maxRecDepth 100000 in
set_option maxHeartbeats 8000000 in
theorem be_X7_weaver_20 (M : am_M) (l0 l4 : Int) : am_ev am_PP nX7_weaver 20 [l0, l4] [] M =
    (am_gf 7 4 M l0).bind fun v1 =>
    (am_ast 0 M v1 (am_w32 (2 * l4)) (-1)).bind fun M1 =>
    (am_gf 7 4 M1 l0).bind fun v2 =>
    (am_ast 0 M1 v2 (am_w32 ((am_w32 (2 * l4)) + 1)) (-1)).bind fun M2 =>
    (am_gf 7 0 M2 l0).bind fun v3 =>
    (am_pf 7 0 0 M2 l0 (am_w32 (v3 + 1))).bind fun M3 =>
    some (l4, M3) := (am_blk am_PP _ _ _ _ _).trans rfl
theorem be_X7_feed_m (M : am_M) (a0 a1 a2 : Int) : am_evm am_PP nX7_feed [(2, a0), (0, a1), (1, a2)] M = am_ev am_PP nX7_feed 0 [a0, a1, a2] [] M := rfl
theorem be_X7_feed_0 (M : am_M) (l0 l1 l2 : Int) : am_ev am_PP nX7_feed 0 [l0, l1, l2] [] M =
    if 0 < l0 ∧ am_cls l0 = 7 then
    (am_evm am_PP nX7_isWeaver [(2, l0), (0, l1)] M).bind fun q1 =>
    bif decide (q1.1 = 0) then am_ev am_PP nX7_feed 2 [] [] q1.2
    else am_ev am_PP nX7_feed 1 [l0, l1, l2] [] q1.2
    else none := (am_blk am_PP _ _ _ _ _).trans rfl
theorem be_X7_feed_1 (M : am_M) (l0 l1 l2 : Int) : am_ev am_PP nX7_feed 1 [l0, l1, l2] [] M =
    (am_gf 7 1 M l0).bind fun v1 =>
    (am_ald 0 M v1 l1).bind fun v2 =>
    bif decide (v2 = 0) then am_ev am_PP nX7_feed 3 [l0, l1, l2] [] M
    else am_ev am_PP nX7_feed 2 [] [] M := (am_blk am_PP _ _ _ _ _).trans rfl
theorem be_X7_feed_2 (M : am_M) : am_ev am_PP nX7_feed 2 [] [] M =
    some ((-1), M) := (am_blk am_PP _ _ _ _ _).trans rfl
theorem be_X7_feed_3 (M : am_M) (l0 l1 l2 : Int) : am_ev am_PP nX7_feed 3 [l0, l1, l2] [] M =
    (am_gf 7 17 M l0).bind fun v1 =>
    bif decide (v1 = 0) then am_ev am_PP nX7_feed 5 [l0, l1, l2] [] M
    else am_ev am_PP nX7_feed 4 [] [] M := (am_blk am_PP _ _ _ _ _).trans rfl
theorem be_X7_feed_4 (M : am_M) : am_ev am_PP nX7_feed 4 [] [] M =
    some ((-2), M) := (am_blk am_PP _ _ _ _ _).trans rfl
theorem be_X7_feed_5 (M : am_M) (l0 l1 l2 : Int) : am_ev am_PP nX7_feed 5 [l0, l1, l2] [] M =
    (am_gf 7 5 M l0).bind fun v1 =>
    (am_ald 0 M v1 l1).bind fun v2 =>
    bif !(decide (v2 = 200)) then am_ev am_PP nX7_feed 7 [l0, l1, l2] [] M
    else am_ev am_PP nX7_feed 6 [] [] M := (am_blk am_PP _ _ _ _ _).trans rfl
