theorem be_X0_init_m (M : am_M) (a0 a1 : Int) : am_evm am_PP nX0_init [(2, a0), (0, a1)] M = am_ev am_PP nX0_init 0 [a0, a1] [] M := rfl
theorem be_X0_init_0 (M : am_M) (l0 l1 : Int) : am_ev am_PP nX0_init 0 [l0, l1] [] M =
    if l0 = 0 then none else
    (am_newo 3 M (30 + 256 * (l0 / 256))).bind fun M1 =>
    if (30 + 256 * (l0 / 256)) = 0 then none else
    (am_evm am_PP nX3_init [(2, (30 + 256 * (l0 / 256)))] M1).bind fun q1 =>
    (am_pf 0 1 0 q1.2 l0 (30 + 256 * (l0 / 256))).bind fun M2 =>
    (am_newa 1 8 M2 (41 + 256 * (l0 / 256))).bind fun M3 =>
    (am_pf 0 7 0 M3 l0 (41 + 256 * (l0 / 256))).bind fun M4 =>
    (am_pf 0 0 0 M4 l0 l1).bind fun M5 =>
    some (0, M5) := (am_blk am_PP _ _ _ _ _).trans rfl
theorem be_X0_join_m (M : am_M) (a0 a1 a2 a3 : Int) : am_evm am_PP nX0_join [(2, a0), (2, a1), (2, a2), (0, a3)] M = am_ev am_PP nX0_join 0 [a0, a1, a2, a3] [] M := rfl
theorem be_X0_join_0 (M : am_M) (l0 l1 l2 l3 : Int) : am_ev am_PP nX0_join 0 [l0, l1, l2, l3] [] M =
    (am_pf 0 2 0 M l0 l1).bind fun M1 =>
    (am_pf 0 3 0 M1 l0 l2).bind fun M2 =>
    (am_pf 0 4 0 M2 l0 l3).bind fun M3 =>
    if 0 < l0 ∧ am_cls l0 = 0 then
    (am_evm am_PP nX0_restart [(2, l0)] M3).bind fun q1 =>
    some (0, q1.2)
    else none := (am_blk am_PP _ _ _ _ _).trans rfl
theorem be_X0_restart_m (M : am_M) (a0 : Int) : am_evm am_PP nX0_restart [(2, a0)] M = am_ev am_PP nX0_restart 0 [a0] [] M := rfl
set_option maxRecDepth 100000 in
set_option maxHeartbeats 8000000 in
theorem be_X0_restart_0 (M : am_M) (l0 : Int) : am_ev am_PP nX0_restart 0 [l0] [] M =
    (am_gf 0 4 M l0).bind fun v1 =>
    (am_pf 0 5 0 M l0 v1).bind fun M1 =>
    (am_pf 0 6 0 M1 l0 0).bind fun M2 =>
    (am_pf 0 8 0 M2 l0 0).bind fun M3 =>
    (am_pf 0 9 0 M3 l0 0).bind fun M4 =>
    (am_pf 0 10 0 M4 l0 0).bind fun M5 =>
    (am_pf 0 11 0 M5 l0 7).bind fun M6 =>
    (am_gf 0 1 M6 l0).bind fun v2 =>
    if 0 < v2 ∧ am_cls v2 = 3 then
    (am_evm am_PP nX3_empty [(2, v2)] M6).bind fun q3 =>
    some (0, q3.2)
    else none := (am_blk am_PP _ _ _ _ _).trans rfl
theorem be_X0_canBeRead_m (M : am_M) (a0 : Int) : am_evm am_PP nX0_canBeRead [(2, a0)] M = am_ev am_PP nX0_canBeRead 0 [a0] [] M := rfl
theorem be_X0_canBeRead_0 (M : am_M) (l0 : Int) : am_ev am_PP nX0_canBeRead 0 [l0] [] M =
    (am_gf 0 9 M l0).bind fun v1 =>
    bif decide (0 < v1) then am_ev am_PP nX0_canBeRead 2 [] [] M
    else am_ev am_PP nX0_canBeRead 1 [l0] [] M := (am_blk am_PP _ _ _ _ _).trans rfl
theorem be_X0_canBeRead_1 (M : am_M) (l0 : Int) : am_ev am_PP nX0_canBeRead 1 [l0] [] M =
    (am_gf 0 2 M l0).bind fun v1 =>
    if 0 < v1 ∧ am_cls v1 = 5 then
    (am_evm am_PP nX5_isOver [(2, v1)] M).bind fun q2 =>
    bif decide (q2.1 = 0) then am_ev am_PP nX0_canBeRead 3 [] [] q2.2
    else am_ev am_PP nX0_canBeRead 2 [] [] q2.2
    else none := (am_blk am_PP _ _ _ _ _).trans rfl
theorem be_X0_canBeRead_2 (M : am_M) : am_ev am_PP nX0_canBeRead 2 [] [] M =
    am_ev am_PP nX0_canBeRead 4 [] [(0, 1)] M := (am_blk am_PP _ _ _ _ _).trans rfl
theorem be_X0_canBeRead_3 (M : am_M) : am_ev am_PP nX0_canBeRead 3 [] [] M =
    am_ev am_PP nX0_canBeRead 4 [] [(0, 0)] M := (am_blk am_PP _ _ _ _ _).trans rfl
theorem be_X0_canBeRead_4 (M : am_M) (s0 : Int) : am_ev am_PP nX0_canBeRead 4 [] [(0, s0)] M =
    if s0 = 0 ∨ s0 = 1 then some (s0, M) else none := (am_blk am_PP _ _ _ _ _).trans rfl
theorem be_X0_canBeWritten_m (M : am_M) (a0 : Int) : am_evm am_PP nX0_canBeWritten [(2, a0)] M = am_ev am_PP nX0_canBeWritten 0 [a0] [] M := rfl
theorem be_X0_canBeWritten_0 (M : am_M) (l0 : Int) : am_ev am_PP nX0_canBeWritten 0 [l0] [] M =
    (am_gf 0 9 M l0).bind fun v1 =>
    (am_gf 0 5 M l0).bind fun v2 =>
    bif decide (v1 < v2) then am_ev am_PP nX0_canBeWritten 2 [] [] M
    else am_ev am_PP nX0_canBeWritten 1 [l0] [] M := (am_blk am_PP _ _ _ _ _).trans rfl
theorem be_X0_canBeWritten_1 (M : am_M) (l0 : Int) : am_ev am_PP nX0_canBeWritten 1 [l0] [] M =
    (am_gf 0 3 M l0).bind fun v1 =>
    if 0 < v1 ∧ am_cls v1 = 5 then
    (am_evm am_PP nX5_isOver [(2, v1)] M).bind fun q2 =>
    bif decide (q2.1 = 0) then am_ev am_PP nX0_canBeWritten 3 [] [] q2.2
    else am_ev am_PP nX0_canBeWritten 2 [] [] q2.2
    else none := (am_blk am_PP _ _ _ _ _).trans rfl
theorem be_X0_canBeWritten_2 (M : am_M) : am_ev am_PP nX0_canBeWritten 2 [] [] M =
    am_ev am_PP nX0_canBeWritten 4 [] [(0, 1)] M := (am_blk am_PP _ _ _ _ _).trans rfl
theorem be_X0_canBeWritten_3 (M : am_M) : am_ev am_PP nX0_canBeWritten 3 [] [] M =
    am_ev am_PP nX0_canBeWritten 4 [] [(0, 0)] M := (am_blk am_PP _ _ _ _ _).trans rfl
theorem be_X0_canBeWritten_4 (M : am_M) (s0 : Int) : am_ev am_PP nX0_canBeWritten 4 [] [(0, s0)] M =
    if s0 = 0 ∨ s0 = 1 then some (s0, M) else none := (am_blk am_PP _ _ _ _ _).trans rfl
theorem be_X0_ending_m (M : am_M) (a0 : Int) : am_evm am_PP nX0_ending [(2, a0)] M = am_ev am_PP nX0_ending 0 [a0] [] M := rfl
theorem be_X0_ending_0 (M : am_M) (l0 : Int) : am_ev am_PP nX0_ending 0 [l0] [] M =
    (am_gf 0 2 M l0).bind fun v1 =>
    (am_gf 5 8 M v1).bind fun v2 =>
    bif !(decide (v2 = 4)) then am_ev am_PP nX0_ending 2 [l0] [] M
    else am_ev am_PP nX0_ending 1 [] [] M := (am_blk am_PP _ _ _ _ _).trans rfl
theorem be_X0_ending_1 (M : am_M) : am_ev am_PP nX0_ending 1 [] [] M =
    am_ev am_PP nX0_ending 5 [] [(0, 1)] M := (am_blk am_PP _ _ _ _ _).trans rfl
theorem be_X0_ending_2 (M : am_M) (l0 : Int) : am_ev am_PP nX0_ending 2 [l0] [] M =
    (am_gf 0 2 M l0).bind fun v1 =>
    (am_gf 5 8 M v1).bind fun v2 =>
    bif !(decide (v2 = 5)) then am_ev am_PP nX0_ending 4 [] [] M
    else am_ev am_PP nX0_ending 3 [] [] M := (am_blk am_PP _ _ _ _ _).trans rfl
theorem be_X0_ending_3 (M : am_M) : am_ev am_PP nX0_ending 3 [] [] M =
    am_ev am_PP nX0_ending 5 [] [(0, 2)] M := (am_blk am_PP _ _ _ _ _).trans rfl
theorem be_X0_ending_4 (M : am_M) : am_ev am_PP nX0_ending 4 [] [] M =
    am_ev am_PP nX0_ending 5 [] [(0, 0)] M := (am_blk am_PP _ _ _ _ _).trans rfl
theorem be_X0_ending_5 (M : am_M) (s0 : Int) : am_ev am_PP nX0_ending 5 [] [(0, s0)] M =
    some (s0, M) := (am_blk am_PP _ _ _ _ _).trans rfl
theorem be_X0_isTighterThan_m (M : am_M) (a0 a1 : Int) : am_evm am_PP nX0_isTighterThan [(2, a0), (2, a1)] M = am_ev am_PP nX0_isTighterThan 0 [a0, a1] [] M := rfl
theorem be_X0_isTighterThan_0 (M : am_M) (l0 l1 : Int) : am_ev am_PP nX0_isTighterThan 0 [l0, l1] [] M =
    (am_gf 0 5 M l0).bind fun v1 =>
    (am_gf 0 5 M l1).bind fun v2 =>
    bif decide (v1 < v2) then am_ev am_PP nX0_isTighterThan 3 [] [] M
    else am_ev am_PP nX0_isTighterThan 1 [l0, l1] [] M := (am_blk am_PP _ _ _ _ _).trans rfl
theorem be_X0_isTighterThan_1 (M : am_M) (l0 l1 : Int) : am_ev am_PP nX0_isTighterThan 1 [l0, l1] [] M =
    (am_gf 0 5 M l0).bind fun v1 =>
    (am_gf 0 5 M l1).bind fun v2 =>
    bif !(decide (v1 = v2)) then am_ev am_PP nX0_isTighterThan 4 [] [] M
    else am_ev am_PP nX0_isTighterThan 2 [l0, l1] [] M := (am_blk am_PP _ _ _ _ _).trans rfl
theorem be_X0_isTighterThan_2 (M : am_M) (l0 l1 : Int) : am_ev am_PP nX0_isTighterThan 2 [l0, l1] [] M =
    (am_gf 0 0 M l0).bind fun v1 =>
    (am_gf 0 0 M l1).bind fun v2 =>
    bif decide (v2 ≤ v1) then am_ev am_PP nX0_isTighterThan 4 [] [] M
    else am_ev am_PP nX0_isTighterThan 3 [] [] M := (am_blk am_PP _ _ _ _ _).trans rfl
theorem be_X0_isTighterThan_3 (M : am_M) : am_ev am_PP nX0_isTighterThan 3 [] [] M =
    am_ev am_PP nX0_isTighterThan 5 [] [(0, 1)] M := (am_blk am_PP _ _ _ _ _).trans rfl
theorem be_X0_isTighterThan_4 (M : am_M) : am_ev am_PP nX0_isTighterThan 4 [] [] M =
    am_ev am_PP nX0_isTighterThan 5 [] [(0, 0)] M := (am_blk am_PP _ _ _ _ _).trans rfl
theorem be_X0_isTighterThan_5 (M : am_M) (s0 : Int) : am_ev am_PP nX0_isTighterThan 5 [] [(0, s0)] M =
    if s0 = 0 ∨ s0 = 1 then some (s0, M) else none := (am_blk am_PP _ _ _ _ _).trans rfl
theorem be_X0_widen_m (M : am_M) (a0 : Int) : am_evm am_PP nX0_widen [(2, a0)] M = am_ev am_PP nX0_widen 0 [a0] [] M := rfl
theorem be_X0_widen_0 (M : am_M) (l0 : Int) : am_ev am_PP nX0_widen 0 [l0] [] M =
    (am_gf 0 5 M l0).bind fun v1 =>
    (am_pf 0 5 0 M l0 (if 1000 < (am_w32 (2 * v1)) then 1000 else (am_w32 (2 * v1)))).bind fun M1 =>
    (am_gf 0 6 M1 l0).bind fun v2 =>
    (am_pf 0 6 0 M1 l0 (am_w32 (v2 + 1))).bind fun M2 =>
    some (0, M2) := (am_blk am_PP _ _ _ _ _).trans rfl
theorem be_X0_put_m (M : am_M) (a0 a1 : Int) : am_evm am_PP nX0_put [(2, a0), (1, a1)] M = am_ev am_PP nX0_put 0 [a0, a1] [] M := rfl
theorem be_X0_put_0 (M : am_M) (l0 l1 : Int) : am_ev am_PP nX0_put 0 [l0, l1] [] M =
    (am_gf 0 1 M l0).bind fun v1 =>
    if 0 < v1 ∧ am_cls v1 = 3 then
    (am_evm am_PP nX3_append [(2, v1), (1, l1)] M).bind fun q2 =>
    (am_gf 0 11 q2.2 l0).bind fun v3 =>
    (am_pf 0 11 0 q2.2 l0 (am_w64 ((am_w64 (31 * v3)) + l1))).bind fun M1 =>
    (am_gf 0 3 M1 l0).bind fun v4 =>
    if 0 < v4 ∧ am_cls v4 = 5 then
    (am_evm am_PP nX5_isOver [(2, v4)] M1).bind fun q5 =>
    bif !(decide (q5.1 = 0)) then am_ev am_PP nX0_put 2 [] [] q5.2
    else am_ev am_PP nX0_put 1 [l0, l1] [] q5.2
    else none
    else none := (am_blk am_PP _ _ _ _ _).trans rfl
theorem be_X0_put_1 (M : am_M) (l0 l1 : Int) : am_ev am_PP nX0_put 1 [l0, l1] [] M =
    if 0 < l0 ∧ am_cls l0 = 0 then
    (am_evm am_PP nX0_lay [(2, l0), (1, l1)] M).bind fun q1 =>
    am_ev am_PP nX0_put 2 [] [] q1.2
    else none := (am_blk am_PP _ _ _ _ _).trans rfl
theorem be_X0_put_2 (M : am_M) : am_ev am_PP nX0_put 2 [] [] M =
    some (0, M) := (am_blk am_PP _ _ _ _ _).trans rfl
theorem be_X0_lay_m (M : am_M) (a0 a1 : Int) : am_evm am_PP nX0_lay [(2, a0), (1, a1)] M = am_ev am_PP nX0_lay 0 [a0, a1] [] M := rfl
theorem be_X0_lay_0 (M : am_M) (l0 l1 : Int) : am_ev am_PP nX0_lay 0 [l0, l1] [] M =
    (am_gf 0 9 M l0).bind fun v1 =>
    (am_gf 0 7 M l0).bind fun v2 =>
    (am_alen M v2).bind fun v3 =>
    bif decide (v1 < v3) then am_ev am_PP nX0_lay 2 [l0, l1] [] M
    else am_ev am_PP nX0_lay 1 [l0, l1] [] M := (am_blk am_PP _ _ _ _ _).trans rfl
theorem be_X0_lay_1 (M : am_M) (l0 l1 : Int) : am_ev am_PP nX0_lay 1 [l0, l1] [] M =
    if 0 < l0 ∧ am_cls l0 = 0 then
    (am_evm am_PP nX0_growRing [(2, l0)] M).bind fun q1 =>
    am_ev am_PP nX0_lay 2 [l0, l1] [] q1.2
    else none := (am_blk am_PP _ _ _ _ _).trans rfl
theorem be_X0_lay_2 (M : am_M) (l0 l1 : Int) : am_ev am_PP nX0_lay 2 [l0, l1] [] M =
    (am_gf 0 8 M l0).bind fun v1 =>
    (am_gf 0 9 M l0).bind fun v2 =>
    (am_gf 0 7 M l0).bind fun v3 =>
    (am_alen M v3).bind fun v4 =>
    bif decide ((am_w32 (v1 + v2)) < v4) then am_ev am_PP nX0_lay 4 [l0, l1, (am_w32 (v1 + v2))] [] M
    else am_ev am_PP nX0_lay 3 [l0, l1, (am_w32 (v1 + v2))] [] M := (am_blk am_PP _ _ _ _ _).trans rfl
theorem be_X0_lay_3 (M : am_M) (l0 l1 l3 : Int) : am_ev am_PP nX0_lay 3 [l0, l1, l3] [] M =
    (am_gf 0 7 M l0).bind fun v1 =>
    (am_alen M v1).bind fun v2 =>
    am_ev am_PP nX0_lay 4 [l0, l1, (am_w32 (l3 - v2))] [] M := (am_blk am_PP _ _ _ _ _).trans rfl
theorem be_X0_lay_4 (M : am_M) (l0 l1 l3 : Int) : am_ev am_PP nX0_lay 4 [l0, l1, l3] [] M =
    (am_gf 0 7 M l0).bind fun v1 =>
    (am_ast 1 M v1 l3 l1).bind fun M1 =>
    (am_gf 0 9 M1 l0).bind fun v2 =>
    (am_pf 0 9 0 M1 l0 (am_w32 (v2 + 1))).bind fun M2 =>
    (am_gf 0 10 M2 l0).bind fun v3 =>
    (am_gf 0 9 M2 l0).bind fun v4 =>
    (am_pf 0 10 0 M2 l0 (if v3 < v4 then v4 else v3)).bind fun M3 =>
    some (0, M3) := (am_blk am_PP _ _ _ _ _).trans rfl
theorem be_X0_growRing_m (M : am_M) (a0 : Int) : am_evm am_PP nX0_growRing [(2, a0)] M = am_ev am_PP nX0_growRing 0 [a0] [] M := rfl
set_option maxRecDepth 100000 in
set_option maxHeartbeats 8000000 in
theorem be_X0_growRing_0 (M : am_M) (l0 : Int) : am_ev am_PP nX0_growRing 0 [l0] [] M =
    (am_gf 0 7 M l0).bind fun v1 =>
    (am_alen M v1).bind fun v2 =>
    (am_newa 1 (am_w32 (2 * v2)) M (M l0 7 + 1)).bind fun M1 =>
    (am_gf 0 7 M1 l0).bind fun v3 =>
    (am_alen M1 v3).bind fun v4 =>
    (am_gf 0 8 M1 l0).bind fun v5 =>
    (am_gf 0 7 M1 l0).bind fun v6 =>
    (am_gf 0 8 M1 l0).bind fun v7 =>
    (am_copy M1 v6 v7 (M l0 7 + 1) 0 (am_w32 (v4 - v5))).bind fun M2 =>
    (am_gf 0 7 M2 l0).bind fun v8 =>
    (am_gf 0 8 M2 l0).bind fun v9 =>
    (am_copy M2 v8 0 (M l0 7 + 1) (am_w32 (v4 - v5)) v9).bind fun M3 =>
    (am_pf 0 7 0 M3 l0 (M l0 7 + 1)).bind fun M4 =>
    (am_pf 0 8 0 M4 l0 0).bind fun M5 =>
    some (0, M5) := (am_blk am_PP _ _ _ _ _).trans rfl
theorem be_X0_take_m (M : am_M) (a0 : Int) : am_evm am_PP nX0_take [(2, a0)] M = am_ev am_PP nX0_take 0 [a0] [] M := rfl
theorem be_X0_take_0 (M : am_M) (l0 : Int) : am_ev am_PP nX0_take 0 [l0] [] M =
    (am_gf 0 7 M l0).bind fun v1 =>
    (am_gf 0 8 M l0).bind fun v2 =>
    (am_ald 1 M v1 v2).bind fun v3 =>
    (am_gf 0 8 M l0).bind fun v4 =>
    (am_pf 0 8 0 M l0 (am_w32 (v4 + 1))).bind fun M1 =>
    (am_gf 0 8 M1 l0).bind fun v5 =>
    (am_gf 0 7 M1 l0).bind fun v6 =>
    (am_alen M1 v6).bind fun v7 =>
    bif decide (v5 < v7) then am_ev am_PP nX0_take 2 [l0, v3] [] M1
    else am_ev am_PP nX0_take 1 [l0, v3] [] M1 := (am_blk am_PP _ _ _ _ _).trans rfl
theorem be_X0_take_1 (M : am_M) (l0 l1 : Int) : am_ev am_PP nX0_take 1 [l0, l1] [] M =
    (am_pf 0 8 0 M l0 0).bind fun M1 =>
    am_ev am_PP nX0_take 2 [l0, l1] [] M1 := (am_blk am_PP _ _ _ _ _).trans rfl
theorem be_X0_take_2 (M : am_M) (l0 l1 : Int) : am_ev am_PP nX0_take 2 [l0, l1] [] M =
    (am_gf 0 9 M l0).bind fun v1 =>
    (am_pf 0 9 0 M l0 (am_w32 (v1 - 1))).bind fun M1 =>
    some (l1, M1) := (am_blk am_PP _ _ _ _ _).trans rfl
theorem be_X1_init_m (M : am_M) (a0 : Int) : am_evm am_PP nX1_init [(2, a0)] M = am_ev am_PP nX1_init 0 [a0] [] M := rfl
theorem be_X1_init_0 (M : am_M) (l0 : Int) : am_ev am_PP nX1_init 0 [l0] [] M =
    if l0 = 0 then none else
    (am_newa 1 30 M (57 + 256 * (l0 / 256))).bind fun M1 =>
    (am_pf 1 0 0 M1 l0 (57 + 256 * (l0 / 256))).bind fun M2 =>
    (am_newa 2 2 M2 (58 + 256 * (l0 / 256))).bind fun M3 =>
    (am_pf 1 1 0 M3 l0 (58 + 256 * (l0 / 256))).bind fun M4 =>
    (am_newa 2 2 M4 (72 + 256 * (l0 / 256))).bind fun M5 =>
    (am_pf 1 2 0 M5 l0 (72 + 256 * (l0 / 256))).bind fun M6 =>
    some (0, M6) := (am_blk am_PP _ _ _ _ _).trans rfl
theorem be_X1_empty_m (M : am_M) (a0 : Int) : am_evm am_PP nX1_empty [(2, a0)] M = am_ev am_PP nX1_empty 0 [a0] [] M := rfl
theorem be_X1_empty_0 (M : am_M) (l0 : Int) : am_ev am_PP nX1_empty 0 [l0] [] M =
    (am_pf 1 3 0 M l0 0).bind fun M1 =>
    am_ev am_PP nX1_empty 1 [l0, 0] [] M1 := (am_blk am_PP _ _ _ _ _).trans rfl
theorem be_X1_empty_1 (M : am_M) (l0 l1 : Int) : am_ev am_PP nX1_empty 1 [l0, l1] [] M =
    bif decide (2 ≤ l1) then am_ev am_PP nX1_empty 3 [] [] M
    else am_ev am_PP nX1_empty 2 [l0, l1] [] M := (am_blk am_PP _ _ _ _ _).trans rfl
theorem be_X1_empty_2 (M : am_M) (l0 l1 : Int) : am_ev am_PP nX1_empty 2 [l0, l1] [] M =
    (am_gf 1 1 M l0).bind fun v1 =>
    (am_ast 2 M v1 l1 0).bind fun M1 =>
    (am_gf 1 2 M1 l0).bind fun v2 =>
    (am_ast 2 M1 v2 l1 0).bind fun M2 =>
    am_ev am_PP nX1_empty 1 [l0, (am_w32 (l1 + 1))] [] M2 := (am_blk am_PP _ _ _ _ _).trans rfl
theorem be_X1_empty_3 (M : am_M) : am_ev am_PP nX1_empty 3 [] [] M =
    some (0, M) := (am_blk am_PP _ _ _ _ _).trans rfl
theorem be_X1_hold_m (M : am_M) (a0 a1 a2 : Int) : am_evm am_PP nX1_hold [(2, a0), (0, a1), (1, a2)] M = am_ev am_PP nX1_hold 0 [a0, a1, a2] [] M := rfl
theorem be_X1_hold_0 (M : am_M) (l0 l1 l2 : Int) : am_ev am_PP nX1_hold 0 [l0, l1, l2] [] M =
    bif decide (l1 < 0) then am_ev am_PP nX1_hold 3 [] [] M
    else am_ev am_PP nX1_hold 1 [l0, l1, l2] [] M := (am_blk am_PP _ _ _ _ _).trans rfl
theorem be_X1_hold_1 (M : am_M) (l0 l1 l2 : Int) : am_ev am_PP nX1_hold 1 [l0, l1, l2] [] M =
    bif decide (2 ≤ l1) then am_ev am_PP nX1_hold 3 [] [] M
    else am_ev am_PP nX1_hold 2 [l0, l1, l2] [] M := (am_blk am_PP _ _ _ _ _).trans rfl
theorem be_X1_hold_2 (M : am_M) (l0 l1 l2 : Int) : am_ev am_PP nX1_hold 2 [l0, l1, l2] [] M =
    (am_gf 1 0 M l0).bind fun v1 =>
    (am_ast 1 M v1 l1 l2).bind fun M1 =>
    (am_gf 1 1 M1 l0).bind fun v2 =>
    (am_ast 2 M1 v2 l1 1).bind fun M2 =>
    am_ev am_PP nX1_hold 3 [] [] M2 := (am_blk am_PP _ _ _ _ _).trans rfl
theorem be_X1_hold_3 (M : am_M) : am_ev am_PP nX1_hold 3 [] [] M =
    some (0, M) := (am_blk am_PP _ _ _ _ _).trans rfl
theorem be_X1_close_m (M : am_M) (a0 a1 : Int) : am_evm am_PP nX1_close [(2, a0), (0, a1)] M = am_ev am_PP nX1_close 0 [a0, a1] [] M := rfl
theorem be_X1_close_0 (M : am_M) (l0 l1 : Int) : am_ev am_PP nX1_close 0 [l0, l1] [] M =
    bif decide (l1 < 0) then am_ev am_PP nX1_close 3 [] [] M
    else am_ev am_PP nX1_close 1 [l0, l1] [] M := (am_blk am_PP _ _ _ _ _).trans rfl
theorem be_X1_close_1 (M : am_M) (l0 l1 : Int) : am_ev am_PP nX1_close 1 [l0, l1] [] M =
    bif decide (2 ≤ l1) then am_ev am_PP nX1_close 3 [] [] M
    else am_ev am_PP nX1_close 2 [l0, l1] [] M := (am_blk am_PP _ _ _ _ _).trans rfl
theorem be_X1_close_2 (M : am_M) (l0 l1 : Int) : am_ev am_PP nX1_close 2 [l0, l1] [] M =
    (am_gf 1 2 M l0).bind fun v1 =>
    (am_ast 2 M v1 l1 1).bind fun M1 =>
    am_ev am_PP nX1_close 3 [] [] M1 := (am_blk am_PP _ _ _ _ _).trans rfl
theorem be_X1_close_3 (M : am_M) : am_ev am_PP nX1_close 3 [] [] M =
    some (0, M) := (am_blk am_PP _ _ _ _ _).trans rfl
theorem be_X1_portToRead_m (M : am_M) (a0 : Int) : am_evm am_PP nX1_portToRead [(2, a0)] M = am_ev am_PP nX1_portToRead 0 [a0] [] M := rfl
theorem be_X1_portToRead_0 (M : am_M) (l0 : Int) : am_ev am_PP nX1_portToRead 0 [l0] [] M =
    am_ev am_PP nX1_portToRead 1 [l0, 0] [] M := (am_blk am_PP _ _ _ _ _).trans rfl
theorem be_X1_portToRead_1 (M : am_M) (l0 l1 : Int) : am_ev am_PP nX1_portToRead 1 [l0, l1] [] M =
    bif decide (2 ≤ l1) then am_ev am_PP nX1_portToRead 6 [] [] M
    else am_ev am_PP nX1_portToRead 2 [l0, l1] [] M := (am_blk am_PP _ _ _ _ _).trans rfl
theorem be_X1_portToRead_2 (M : am_M) (l0 l1 : Int) : am_ev am_PP nX1_portToRead 2 [l0, l1] [] M =
    (am_gf 1 2 M l0).bind fun v1 =>
    (am_ald 2 M v1 l1).bind fun v2 =>
    bif !(decide (v2 = 0)) then am_ev am_PP nX1_portToRead 5 [l0, l1] [] M
    else am_ev am_PP nX1_portToRead 3 [l0, l1] [] M := (am_blk am_PP _ _ _ _ _).trans rfl
theorem be_X1_portToRead_3 (M : am_M) (l0 l1 : Int) : am_ev am_PP nX1_portToRead 3 [l0, l1] [] M =
    (am_gf 1 1 M l0).bind fun v1 =>
    (am_ald 2 M v1 l1).bind fun v2 =>
    bif !(decide (v2 = 0)) then am_ev am_PP nX1_portToRead 5 [l0, l1] [] M
    else am_ev am_PP nX1_portToRead 4 [l1] [] M := (am_blk am_PP _ _ _ _ _).trans rfl
theorem be_X1_portToRead_4 (M : am_M) (l1 : Int) : am_ev am_PP nX1_portToRead 4 [l1] [] M =
    some (l1, M) := (am_blk am_PP _ _ _ _ _).trans rfl
theorem be_X1_portToRead_5 (M : am_M) (l0 l1 : Int) : am_ev am_PP nX1_portToRead 5 [l0, l1] [] M =
    am_ev am_PP nX1_portToRead 1 [l0, (am_w32 (l1 + 1))] [] M := (am_blk am_PP _ _ _ _ _).trans rfl
theorem be_X1_portToRead_6 (M : am_M) : am_ev am_PP nX1_portToRead 6 [] [] M =
    some ((-5), M) := (am_blk am_PP _ _ _ _ _).trans rfl
theorem be_X1_portOfLesser_m (M : am_M) (a0 : Int) : am_evm am_PP nX1_portOfLesser [(2, a0)] M = am_ev am_PP nX1_portOfLesser 0 [a0] [] M := rfl
theorem be_X1_portOfLesser_0 (M : am_M) (l0 : Int) : am_ev am_PP nX1_portOfLesser 0 [l0] [] M =
    (am_gf 1 1 M l0).bind fun v1 =>
    (am_ald 2 M v1 0).bind fun v2 =>
    bif decide (v2 = 0) then am_ev am_PP nX1_portOfLesser 4 [l0] [] M
    else am_ev am_PP nX1_portOfLesser 1 [l0] [] M := (am_blk am_PP _ _ _ _ _).trans rfl
theorem be_X1_portOfLesser_1 (M : am_M) (l0 : Int) : am_ev am_PP nX1_portOfLesser 1 [l0] [] M =
    (am_gf 1 1 M l0).bind fun v1 =>
    (am_ald 2 M v1 1).bind fun v2 =>
    bif decide (v2 = 0) then am_ev am_PP nX1_portOfLesser 3 [] [] M
    else am_ev am_PP nX1_portOfLesser 2 [l0] [] M := (am_blk am_PP _ _ _ _ _).trans rfl
theorem be_X1_portOfLesser_2 (M : am_M) (l0 : Int) : am_ev am_PP nX1_portOfLesser 2 [l0] [] M =
    (am_gf 1 0 M l0).bind fun v1 =>
    (am_ald 1 M v1 0).bind fun v2 =>
    (am_gf 1 0 M l0).bind fun v3 =>
    (am_ald 1 M v3 1).bind fun v4 =>
    bif decide (0 < (am_lcmp v2 v4)) then am_ev am_PP nX1_portOfLesser 4 [l0] [] M
    else am_ev am_PP nX1_portOfLesser 3 [] [] M := (am_blk am_PP _ _ _ _ _).trans rfl
theorem be_X1_portOfLesser_3 (M : am_M) : am_ev am_PP nX1_portOfLesser 3 [] [] M =
    some (0, M) := (am_blk am_PP _ _ _ _ _).trans rfl
theorem be_X1_portOfLesser_4 (M : am_M) (l0 : Int) : am_ev am_PP nX1_portOfLesser 4 [l0] [] M =
    (am_gf 1 1 M l0).bind fun v1 =>
    (am_ald 2 M v1 1).bind fun v2 =>
    bif decide (v2 = 0) then am_ev am_PP nX1_portOfLesser 6 [] [] M
    else am_ev am_PP nX1_portOfLesser 5 [] [] M := (am_blk am_PP _ _ _ _ _).trans rfl
theorem be_X1_portOfLesser_5 (M : am_M) : am_ev am_PP nX1_portOfLesser 5 [] [] M =
    am_ev am_PP nX1_portOfLesser 7 [] [(0, 1)] M := (am_blk am_PP _ _ _ _ _).trans rfl
theorem be_X1_portOfLesser_6 (M : am_M) : am_ev am_PP nX1_portOfLesser 6 [] [] M =
    am_ev am_PP nX1_portOfLesser 7 [] [(0, (-5))] M := (am_blk am_PP _ _ _ _ _).trans rfl
theorem be_X1_portOfLesser_7 (M : am_M) (s0 : Int) : am_ev am_PP nX1_portOfLesser 7 [] [(0, s0)] M =
    some (s0, M) := (am_blk am_PP _ _ _ _ _).trans rfl
theorem be_X1_giveOf_m (M : am_M) (a0 a1 : Int) : am_evm am_PP nX1_giveOf [(2, a0), (0, a1)] M = am_ev am_PP nX1_giveOf 0 [a0, a1] [] M := rfl
theorem be_X1_giveOf_0 (M : am_M) (l0 l1 : Int) : am_ev am_PP nX1_giveOf 0 [l0, l1] [] M =
    bif decide (l1 < 0) then am_ev am_PP nX1_giveOf 2 [] [] M
    else am_ev am_PP nX1_giveOf 1 [l0, l1] [] M := (am_blk am_PP _ _ _ _ _).trans rfl
theorem be_X1_giveOf_1 (M : am_M) (l0 l1 : Int) : am_ev am_PP nX1_giveOf 1 [l0, l1] [] M =
    bif decide (l1 ≤ 1) then am_ev am_PP nX1_giveOf 3 [l0, l1] [] M
    else am_ev am_PP nX1_giveOf 2 [] [] M := (am_blk am_PP _ _ _ _ _).trans rfl
theorem be_X1_giveOf_2 (M : am_M) : am_ev am_PP nX1_giveOf 2 [] [] M =
    some (0, M) := (am_blk am_PP _ _ _ _ _).trans rfl
theorem be_X1_giveOf_3 (M : am_M) (l0 l1 : Int) : am_ev am_PP nX1_giveOf 3 [l0, l1] [] M =
    (am_gf 1 1 M l0).bind fun v1 =>
    (am_ast 2 M v1 l1 0).bind fun M1 =>
    (am_gf 1 0 M1 l0).bind fun v2 =>
    (am_ald 1 M1 v2 l1).bind fun v3 =>
    some (v3, M1) := (am_blk am_PP _ _ _ _ _).trans rfl
theorem be_X1_sortIn_m (M : am_M) (a0 a1 : Int) : am_evm am_PP nX1_sortIn [(2, a0), (1, a1)] M = am_ev am_PP nX1_sortIn 0 [a0, a1] [] M := rfl
theorem be_X1_sortIn_0 (M : am_M) (l0 l1 : Int) : am_ev am_PP nX1_sortIn 0 [l0, l1] [] M =
    (am_gf 1 3 M l0).bind fun v1 =>
    bif decide (v1 < 30) then am_ev am_PP nX1_sortIn 2 [l0, l1] [] M
    else am_ev am_PP nX1_sortIn 1 [] [] M := (am_blk am_PP _ _ _ _ _).trans rfl
theorem be_X1_sortIn_1 (M : am_M) : am_ev am_PP nX1_sortIn 1 [] [] M =
    some (0, M) := (am_blk am_PP _ _ _ _ _).trans rfl
theorem be_X1_sortIn_2 (M : am_M) (l0 l1 : Int) : am_ev am_PP nX1_sortIn 2 [l0, l1] [] M =
    (am_gf 1 3 M l0).bind fun v1 =>
    am_ev am_PP nX1_sortIn 3 [l0, l1, v1] [] M := (am_blk am_PP _ _ _ _ _).trans rfl
theorem be_X1_sortIn_3 (M : am_M) (l0 l1 l3 : Int) : am_ev am_PP nX1_sortIn 3 [l0, l1, l3] [] M =
    bif decide (l3 ≤ 0) then am_ev am_PP nX1_sortIn 6 [l0, l1, l3] [] M
    else am_ev am_PP nX1_sortIn 4 [l0, l1, l3] [] M := (am_blk am_PP _ _ _ _ _).trans rfl
theorem be_X1_sortIn_4 (M : am_M) (l0 l1 l3 : Int) : am_ev am_PP nX1_sortIn 4 [l0, l1, l3] [] M =
    (am_gf 1 0 M l0).bind fun v1 =>
    (am_ald 1 M v1 (am_w32 (l3 - 1))).bind fun v2 =>
    bif decide (0 ≤ (am_lcmp v2 l1)) then am_ev am_PP nX1_sortIn 6 [l0, l1, l3] [] M
    else am_ev am_PP nX1_sortIn 5 [l0, l1, l3] [] M := (am_blk am_PP _ _ _ _ _).trans rfl
theorem be_X1_sortIn_5 (M : am_M) (l0 l1 l3 : Int) : am_ev am_PP nX1_sortIn 5 [l0, l1, l3] [] M =
    (am_gf 1 0 M l0).bind fun v1 =>
    (am_gf 1 0 M l0).bind fun v2 =>
    (am_ald 1 M v2 (am_w32 (l3 - 1))).bind fun v3 =>
    (am_ast 1 M v1 l3 v3).bind fun M1 =>
    am_ev am_PP nX1_sortIn 3 [l0, l1, (am_w32 (l3 + (-1)))] [] M1 := (am_blk am_PP _ _ _ _ _).trans rfl
theorem be_X1_sortIn_6 (M : am_M) (l0 l1 l3 : Int) : am_ev am_PP nX1_sortIn 6 [l0, l1, l3] [] M =
    (am_gf 1 0 M l0).bind fun v1 =>
    (am_ast 1 M v1 l3 l1).bind fun M1 =>
    (am_gf 1 3 M1 l0).bind fun v2 =>
    (am_pf 1 3 0 M1 l0 (am_w32 (v2 + 1))).bind fun M2 =>
    some (0, M2) := (am_blk am_PP _ _ _ _ _).trans rfl
theorem be_X1_giveLeast_m (M : am_M) (a0 : Int) : am_evm am_PP nX1_giveLeast [(2, a0)] M = am_ev am_PP nX1_giveLeast 0 [a0] [] M := rfl
theorem be_X1_giveLeast_0 (M : am_M) (l0 : Int) : am_ev am_PP nX1_giveLeast 0 [l0] [] M =
    (am_gf 1 3 M l0).bind fun v1 =>
    bif decide (0 < v1) then am_ev am_PP nX1_giveLeast 2 [l0] [] M
    else am_ev am_PP nX1_giveLeast 1 [] [] M := (am_blk am_PP _ _ _ _ _).trans rfl
theorem be_X1_giveLeast_1 (M : am_M) : am_ev am_PP nX1_giveLeast 1 [] [] M =
    some (0, M) := (am_blk am_PP _ _ _ _ _).trans rfl
theorem be_X1_giveLeast_2 (M : am_M) (l0 : Int) : am_ev am_PP nX1_giveLeast 2 [l0] [] M =
    (am_gf 1 3 M l0).bind fun v1 =>
    (am_pf 1 3 0 M l0 (am_w32 (v1 - 1))).bind fun M1 =>
    (am_gf 1 0 M1 l0).bind fun v2 =>
    (am_gf 1 3 M1 l0).bind fun v3 =>
    (am_ald 1 M1 v2 v3).bind fun v4 =>
    some (v4, M1) := (am_blk am_PP _ _ _ _ _).trans rfl
theorem be_X2_init_m (M : am_M) (a0 : Int) : am_evm am_PP nX2_init [(2, a0)] M = am_ev am_PP nX2_init 0 [a0] [] M := rfl
theorem be_X2_init_0 (M : am_M) (l0 : Int) : am_ev am_PP nX2_init 0 [l0] [] M =
    if l0 = 0 then none else
    (am_newa 0 40 M 53).bind fun M1 =>
    (am_pf 2 0 0 M1 l0 53).bind fun M2 =>
    (am_newa 1 40 M2 54).bind fun M3 =>
    (am_pf 2 1 0 M3 l0 54).bind fun M4 =>
    (am_newa 1 40 M4 310).bind fun M5 =>
    (am_pf 2 2 0 M5 l0 310).bind fun M6 =>
    some (0, M6) := (am_blk am_PP _ _ _ _ _).trans rfl
theorem be_X2_findParts_m (M : am_M) (a0 a1 a2 a3 : Int) : am_evm am_PP nX2_findParts [(2, a0), (0, a1), (2, a2), (0, a3)] M = am_ev am_PP nX2_findParts 0 [a0, a1, a2, a3] [] M := rfl
theorem be_X2_findParts_0 (M : am_M) (l0 l1 l2 l3 : Int) : am_ev am_PP nX2_findParts 0 [l0, l1, l2, l3] [] M =
    am_ev am_PP nX2_findParts 1 [l0, l1, l2, l3, 0] [] M := (am_blk am_PP _ _ _ _ _).trans rfl
theorem be_X2_findParts_1 (M : am_M) (l0 l1 l2 l3 l4 : Int) : am_ev am_PP nX2_findParts 1 [l0, l1, l2, l3, l4] [] M =
    bif decide (l1 ≤ l4) then am_ev am_PP nX2_findParts 3 [l0, l1, l2, l3] [] M
    else am_ev am_PP nX2_findParts 2 [l0, l1, l2, l3, l4] [] M := (am_blk am_PP _ _ _ _ _).trans rfl
theorem be_X2_findParts_2 (M : am_M) (l0 l1 l2 l3 l4 : Int) : am_ev am_PP nX2_findParts 2 [l0, l1, l2, l3, l4] [] M =
    (am_gf 2 0 M l0).bind fun v1 =>
    (am_ast 0 M v1 l4 l4).bind fun M1 =>
    am_ev am_PP nX2_findParts 1 [l0, l1, l2, l3, (am_w32 (l4 + 1))] [] M1 := (am_blk am_PP _ _ _ _ _).trans rfl
theorem be_X2_findParts_3 (M : am_M) (l0 l1 l2 l3 : Int) : am_ev am_PP nX2_findParts 3 [l0, l1, l2, l3] [] M =
    am_ev am_PP nX2_findParts 4 [l0, l1, l2, l3, 1, 0] [] M := (am_blk am_PP _ _ _ _ _).trans rfl
theorem be_X2_findParts_4 (M : am_M) (l0 l1 l2 l3 l4 l5 : Int) : am_ev am_PP nX2_findParts 4 [l0, l1, l2, l3, l4, l5] [] M =
    bif decide (l1 ≤ l5) then am_ev am_PP nX2_findParts 14 [l0, l1] [] M
    else am_ev am_PP nX2_findParts 5 [l0, l1, l2, l3, l4, l5] [] M := (am_blk am_PP _ _ _ _ _).trans rfl
theorem be_X2_findParts_5 (M : am_M) (l0 l1 l2 l3 l4 l5 : Int) : am_ev am_PP nX2_findParts 5 [l0, l1, l2, l3, l4, l5] [] M =
    bif decide (l4 = 0) then am_ev am_PP nX2_findParts 14 [l0, l1] [] M
    else am_ev am_PP nX2_findParts 6 [l0, l1, l2, l3, l5] [] M := (am_blk am_PP _ _ _ _ _).trans rfl
theorem be_X2_findParts_6 (M : am_M) (l0 l1 l2 l3 l5 : Int) : am_ev am_PP nX2_findParts 6 [l0, l1, l2, l3, l5] [] M =
    am_ev am_PP nX2_findParts 7 [l0, l1, l2, l3, 0, l5, 0] [] M := (am_blk am_PP _ _ _ _ _).trans rfl
theorem be_X2_findParts_7 (M : am_M) (l0 l1 l2 l3 l4 l5 l6 : Int) : am_ev am_PP nX2_findParts 7 [l0, l1, l2, l3, l4, l5, l6] [] M =
    bif decide (l3 ≤ l6) then am_ev am_PP nX2_findParts 13 [l0, l1, l2, l3, l4, l5] [] M
    else am_ev am_PP nX2_findParts 8 [l0, l1, l2, l3, l4, l5, l6] [] M := (am_blk am_PP _ _ _ _ _).trans rfl
theorem be_X2_findParts_8 (M : am_M) (l0 l1 l2 l3 l4 l5 l6 : Int) : am_ev am_PP nX2_findParts 8 [l0, l1, l2, l3, l4, l5, l6] [] M =
    (am_ald 4 M l2 l6).bind fun v1 =>
    (am_gf 0 2 M v1).bind fun v2 =>
    (am_gf 5 0 M v2).bind fun v3 =>
    (am_ald 4 M l2 l6).bind fun v4 =>
    (am_gf 0 3 M v4).bind fun v5 =>
    (am_gf 5 0 M v5).bind fun v6 =>
    if 0 < l0 ∧ am_cls l0 = 2 then
    (am_evm am_PP nX2_drawTogether [(2, l0), (0, v3), (0, v6)] M).bind fun q7 =>
    bif !(decide (q7.1 = 0)) then am_ev am_PP nX2_findParts 10 [l0, l1, l2, l3, l5, l6] [] q7.2
    else am_ev am_PP nX2_findParts 9 [l0, l1, l2, l3, l4, l5, l6] [] q7.2
    else none := (am_blk am_PP _ _ _ _ _).trans rfl
theorem be_X2_findParts_9 (M : am_M) (l0 l1 l2 l3 l4 l5 l6 : Int) : am_ev am_PP nX2_findParts 9 [l0, l1, l2, l3, l4, l5, l6] [] M =
    bif decide (l4 = 0) then am_ev am_PP nX2_findParts 11 [l0, l1, l2, l3, l5, l6] [] M
    else am_ev am_PP nX2_findParts 10 [l0, l1, l2, l3, l5, l6] [] M := (am_blk am_PP _ _ _ _ _).trans rfl
theorem be_X2_findParts_10 (M : am_M) (l0 l1 l2 l3 l5 l6 : Int) : am_ev am_PP nX2_findParts 10 [l0, l1, l2, l3, l5, l6] [] M =
    am_ev am_PP nX2_findParts 12 [l0, l1, l2, l3, l5, l6] [(0, 1)] M := (am_blk am_PP _ _ _ _ _).trans rfl
theorem be_X2_findParts_11 (M : am_M) (l0 l1 l2 l3 l5 l6 : Int) : am_ev am_PP nX2_findParts 11 [l0, l1, l2, l3, l5, l6] [] M =
    am_ev am_PP nX2_findParts 12 [l0, l1, l2, l3, l5, l6] [(0, 0)] M := (am_blk am_PP _ _ _ _ _).trans rfl
theorem be_X2_findParts_12 (M : am_M) (l0 l1 l2 l3 l5 l6 s0 : Int) : am_ev am_PP nX2_findParts 12 [l0, l1, l2, l3, l5, l6] [(0, s0)] M =
    am_ev am_PP nX2_findParts 7 [l0, l1, l2, l3, s0, l5, (am_w32 (l6 + 1))] [] M := (am_blk am_PP _ _ _ _ _).trans rfl
theorem be_X2_findParts_13 (M : am_M) (l0 l1 l2 l3 l4 l5 : Int) : am_ev am_PP nX2_findParts 13 [l0, l1, l2, l3, l4, l5] [] M =
    am_ev am_PP nX2_findParts 4 [l0, l1, l2, l3, l4, (am_w32 (l5 + 1))] [] M := (am_blk am_PP _ _ _ _ _).trans rfl
theorem be_X2_findParts_14 (M : am_M) (l0 l1 : Int) : am_ev am_PP nX2_findParts 14 [l0, l1] [] M =
    am_ev am_PP nX2_findParts 15 [l0, l1, 0, 0] [] M := (am_blk am_PP _ _ _ _ _).trans rfl
theorem be_X2_findParts_15 (M : am_M) (l0 l1 l5 l6 : Int) : am_ev am_PP nX2_findParts 15 [l0, l1, l5, l6] [] M =
    bif decide (l1 ≤ l6) then am_ev am_PP nX2_findParts 20 [l5] [] M
    else am_ev am_PP nX2_findParts 16 [l0, l1, l5, l6] [] M := (am_blk am_PP _ _ _ _ _).trans rfl
theorem be_X2_findParts_16 (M : am_M) (l0 l1 l5 l6 : Int) : am_ev am_PP nX2_findParts 16 [l0, l1, l5, l6] [] M =
    (am_gf 2 0 M l0).bind fun v1 =>
    (am_ald 0 M v1 l6).bind fun v2 =>
    bif !(decide (v2 = l6)) then am_ev am_PP nX2_findParts 18 [l0, l1, l6] [(0, l5)] M
    else am_ev am_PP nX2_findParts 17 [l0, l1, l6] [(0, l5)] M := (am_blk am_PP _ _ _ _ _).trans rfl
theorem be_X2_findParts_17 (M : am_M) (l0 l1 l6 s0 : Int) : am_ev am_PP nX2_findParts 17 [l0, l1, l6] [(0, s0)] M =
    am_ev am_PP nX2_findParts 19 [l0, l1, l6] [(0, 1), (0, s0)] M := (am_blk am_PP _ _ _ _ _).trans rfl
theorem be_X2_findParts_18 (M : am_M) (l0 l1 l6 s0 : Int) : am_ev am_PP nX2_findParts 18 [l0, l1, l6] [(0, s0)] M =
    am_ev am_PP nX2_findParts 19 [l0, l1, l6] [(0, 0), (0, s0)] M := (am_blk am_PP _ _ _ _ _).trans rfl
theorem be_X2_findParts_19 (M : am_M) (l0 l1 l6 s0 s1 : Int) : am_ev am_PP nX2_findParts 19 [l0, l1, l6] [(0, s1), (0, s0)] M =
    am_ev am_PP nX2_findParts 15 [l0, l1, (am_w32 (s0 + s1)), (am_w32 (l6 + 1))] [] M := (am_blk am_PP _ _ _ _ _).trans rfl
theorem be_X2_findParts_20 (M : am_M) (l5 : Int) : am_ev am_PP nX2_findParts 20 [l5] [] M =
    some (l5, M) := (am_blk am_PP _ _ _ _ _).trans rfl
theorem be_X2_drawTogether_m (M : am_M) (a0 a1 a2 : Int) : am_evm am_PP nX2_drawTogether [(2, a0), (0, a1), (0, a2)] M = am_ev am_PP nX2_drawTogether 0 [a0, a1, a2] [] M := rfl
theorem be_X2_drawTogether_0 (M : am_M) (l0 l1 l2 : Int) : am_ev am_PP nX2_drawTogether 0 [l0, l1, l2] [] M =
    (am_gf 2 0 M l0).bind fun v1 =>
    (am_ald 0 M v1 l1).bind fun v2 =>
    (am_gf 2 0 M l0).bind fun v3 =>
    (am_ald 0 M v3 l2).bind fun v4 =>
    bif !(decide (v2 = v4)) then am_ev am_PP nX2_drawTogether 2 [l0, l1, l2] [] M
    else am_ev am_PP nX2_drawTogether 1 [] [] M := (am_blk am_PP _ _ _ _ _).trans rfl
theorem be_X2_drawTogether_1 (M : am_M) : am_ev am_PP nX2_drawTogether 1 [] [] M =
    if 0 = 0 ∨ 0 = 1 then some (0, M) else none := (am_blk am_PP _ _ _ _ _).trans rfl
set_option maxRecDepth 100000 in
set_option maxHeartbeats 8000000 in
theorem be_X2_drawTogether_2 (M : am_M) (l0 l1 l2 : Int) : am_ev am_PP nX2_drawTogether 2 [l0, l1, l2] [] M =
    (am_gf 2 0 M l0).bind fun v1 =>
    (am_ald 0 M v1 l1).bind fun v2 =>
    (am_gf 2 0 M l0).bind fun v3 =>
    (am_ald 0 M v3 l2).bind fun v4 =>
    (am_gf 2 0 M l0).bind fun v5 =>
    (am_ast 0 M v5 l1 (if v4 < v2 then v4 else v2)).bind fun M1 =>
    (am_gf 2 0 M1 l0).bind fun v6 =>
    (am_ast 0 M1 v6 l2 (if v4 < v2 then v4 else v2)).bind fun M2 =>
    if 1 = 0 ∨ 1 = 1 then some (1, M2) else none := (am_blk am_PP _ _ _ _ _).trans rfl
theorem be_X2_solve_m (M : am_M) (a0 a1 a2 a3 : Int) : am_evm am_PP nX2_solve [(2, a0), (0, a1), (2, a2), (0, a3)] M = am_ev am_PP nX2_solve 0 [a0, a1, a2, a3] [] M := rfl
theorem be_X2_solve_0 (M : am_M) (l0 l1 l2 l3 : Int) : am_ev am_PP nX2_solve 0 [l0, l1, l2, l3] [] M =
    if 0 < l0 ∧ am_cls l0 = 2 then
    (am_evm am_PP nX2_findParts [(2, l0), (0, l1), (2, l2), (0, l3)] M).bind fun q1 =>
    (am_pf 2 3 4 q1.2 l0 0).bind fun M1 =>
    am_ev am_PP nX2_solve 1 [l0, l1, l2, l3, 0] [] M1
    else none := (am_blk am_PP _ _ _ _ _).trans rfl
theorem be_X2_solve_1 (M : am_M) (l0 l1 l2 l3 l4 : Int) : am_ev am_PP nX2_solve 1 [l0, l1, l2, l3, l4] [] M =
    bif decide (l1 ≤ l4) then am_ev am_PP nX2_solve 6 [l0, l1, l2, l3] [] M
    else am_ev am_PP nX2_solve 2 [l0, l1, l2, l3, l4] [] M := (am_blk am_PP _ _ _ _ _).trans rfl
theorem be_X2_solve_2 (M : am_M) (l0 l1 l2 l3 l4 : Int) : am_ev am_PP nX2_solve 2 [l0, l1, l2, l3, l4] [] M =
    (am_gf 2 1 M l0).bind fun v1 =>
    (am_gf 2 0 M l0).bind fun v2 =>
    (am_ald 0 M v2 l4).bind fun v3 =>
    bif !(decide (v3 = l4)) then am_ev am_PP nX2_solve 4 [l0, l1, l2, l3, l4] [(0, l4), (2, v1)] M
    else am_ev am_PP nX2_solve 3 [l0, l1, l2, l3, l4] [(0, l4), (2, v1)] M := (am_blk am_PP _ _ _ _ _).trans rfl
theorem be_X2_solve_3 (M : am_M) (l0 l1 l2 l3 l4 s0 s1 : Int) : am_ev am_PP nX2_solve 3 [l0, l1, l2, l3, l4] [(0, s1), (2, s0)] M =
    am_ev am_PP nX2_solve 5 [l0, l1, l2, l3, l4] [(1, 1), (0, s1), (2, s0)] M := (am_blk am_PP _ _ _ _ _).trans rfl
theorem be_X2_solve_4 (M : am_M) (l0 l1 l2 l3 l4 s0 s1 : Int) : am_ev am_PP nX2_solve 4 [l0, l1, l2, l3, l4] [(0, s1), (2, s0)] M =
    am_ev am_PP nX2_solve 5 [l0, l1, l2, l3, l4] [(1, 0), (0, s1), (2, s0)] M := (am_blk am_PP _ _ _ _ _).trans rfl
theorem be_X2_solve_5 (M : am_M) (l0 l1 l2 l3 l4 s0 s1 s2 : Int) : am_ev am_PP nX2_solve 5 [l0, l1, l2, l3, l4] [(1, s2), (0, s1), (2, s0)] M =
    (am_ast 1 M s0 s1 s2).bind fun M1 =>
    (am_gf 2 2 M1 l0).bind fun v1 =>
    (am_ast 1 M1 v1 l4 1).bind fun M2 =>
    am_ev am_PP nX2_solve 1 [l0, l1, l2, l3, (am_w32 (l4 + 1))] [] M2 := (am_blk am_PP _ _ _ _ _).trans rfl
theorem be_X2_solve_6 (M : am_M) (l0 l1 l2 l3 : Int) : am_ev am_PP nX2_solve 6 [l0, l1, l2, l3] [] M =
    am_ev am_PP nX2_solve 7 [l0, l1, l2, l3, 1, 0] [] M := (am_blk am_PP _ _ _ _ _).trans rfl
theorem be_X2_solve_7 (M : am_M) (l0 l1 l2 l3 l4 l5 : Int) : am_ev am_PP nX2_solve 7 [l0, l1, l2, l3, l4, l5] [] M =
    bif decide (l1 ≤ l5) then am_ev am_PP nX2_solve 19 [l0, l1, l2, l3] [] M
    else am_ev am_PP nX2_solve 8 [l0, l1, l2, l3, l4, l5] [] M := (am_blk am_PP _ _ _ _ _).trans rfl
theorem be_X2_solve_8 (M : am_M) (l0 l1 l2 l3 l4 l5 : Int) : am_ev am_PP nX2_solve 8 [l0, l1, l2, l3, l4, l5] [] M =
    bif decide (l4 = 0) then am_ev am_PP nX2_solve 19 [l0, l1, l2, l3] [] M
    else am_ev am_PP nX2_solve 9 [l0, l1, l2, l3, l5] [] M := (am_blk am_PP _ _ _ _ _).trans rfl
theorem be_X2_solve_9 (M : am_M) (l0 l1 l2 l3 l5 : Int) : am_ev am_PP nX2_solve 9 [l0, l1, l2, l3, l5] [] M =
    (am_gf 2 3 M l0).bind fun v1 =>
    bif !(decide (v1 = 0)) then am_ev am_PP nX2_solve 19 [l0, l1, l2, l3] [] M
    else am_ev am_PP nX2_solve 10 [l0, l1, l2, l3, l5] [] M := (am_blk am_PP _ _ _ _ _).trans rfl
theorem be_X2_solve_10 (M : am_M) (l0 l1 l2 l3 l5 : Int) : am_ev am_PP nX2_solve 10 [l0, l1, l2, l3, l5] [] M =
    am_ev am_PP nX2_solve 11 [l0, l1, l2, l3, 0, l5, 0] [] M := (am_blk am_PP _ _ _ _ _).trans rfl
theorem be_X2_solve_11 (M : am_M) (l0 l1 l2 l3 l4 l5 l6 : Int) : am_ev am_PP nX2_solve 11 [l0, l1, l2, l3, l4, l5, l6] [] M =
    bif decide (l3 ≤ l6) then am_ev am_PP nX2_solve 18 [l0, l1, l2, l3, l4, l5] [] M
    else am_ev am_PP nX2_solve 12 [l0, l1, l2, l3, l4, l5, l6] [] M := (am_blk am_PP _ _ _ _ _).trans rfl
theorem be_X2_solve_12 (M : am_M) (l0 l1 l2 l3 l4 l5 l6 : Int) : am_ev am_PP nX2_solve 12 [l0, l1, l2, l3, l4, l5, l6] [] M =
    (am_gf 2 3 M l0).bind fun v1 =>
    bif !(decide (v1 = 0)) then am_ev am_PP nX2_solve 18 [l0, l1, l2, l3, l4, l5] [] M
    else am_ev am_PP nX2_solve 13 [l0, l1, l2, l3, l4, l5, l6] [] M := (am_blk am_PP _ _ _ _ _).trans rfl
theorem be_X2_solve_13 (M : am_M) (l0 l1 l2 l3 l4 l5 l6 : Int) : am_ev am_PP nX2_solve 13 [l0, l1, l2, l3, l4, l5, l6] [] M =
    (am_ald 4 M l2 l6).bind fun v1 =>
    if 0 < l0 ∧ am_cls l0 = 2 then
    (am_evm am_PP nX2_spread [(2, l0), (2, v1)] M).bind fun q2 =>
    bif !(decide (q2.1 = 0)) then am_ev am_PP nX2_solve 15 [l0, l1, l2, l3, l5, l6] [] q2.2
    else am_ev am_PP nX2_solve 14 [l0, l1, l2, l3, l4, l5, l6] [] q2.2
    else none := (am_blk am_PP _ _ _ _ _).trans rfl
theorem be_X2_solve_14 (M : am_M) (l0 l1 l2 l3 l4 l5 l6 : Int) : am_ev am_PP nX2_solve 14 [l0, l1, l2, l3, l4, l5, l6] [] M =
    bif decide (l4 = 0) then am_ev am_PP nX2_solve 16 [l0, l1, l2, l3, l5, l6] [] M
    else am_ev am_PP nX2_solve 15 [l0, l1, l2, l3, l5, l6] [] M := (am_blk am_PP _ _ _ _ _).trans rfl
theorem be_X2_solve_15 (M : am_M) (l0 l1 l2 l3 l5 l6 : Int) : am_ev am_PP nX2_solve 15 [l0, l1, l2, l3, l5, l6] [] M =
    am_ev am_PP nX2_solve 17 [l0, l1, l2, l3, l5, l6] [(0, 1)] M := (am_blk am_PP _ _ _ _ _).trans rfl
theorem be_X2_solve_16 (M : am_M) (l0 l1 l2 l3 l5 l6 : Int) : am_ev am_PP nX2_solve 16 [l0, l1, l2, l3, l5, l6] [] M =
    am_ev am_PP nX2_solve 17 [l0, l1, l2, l3, l5, l6] [(0, 0)] M := (am_blk am_PP _ _ _ _ _).trans rfl
theorem be_X2_solve_17 (M : am_M) (l0 l1 l2 l3 l5 l6 s0 : Int) : am_ev am_PP nX2_solve 17 [l0, l1, l2, l3, l5, l6] [(0, s0)] M =
    am_ev am_PP nX2_solve 11 [l0, l1, l2, l3, s0, l5, (am_w32 (l6 + 1))] [] M := (am_blk am_PP _ _ _ _ _).trans rfl
theorem be_X2_solve_18 (M : am_M) (l0 l1 l2 l3 l4 l5 : Int) : am_ev am_PP nX2_solve 18 [l0, l1, l2, l3, l4, l5] [] M =
    am_ev am_PP nX2_solve 7 [l0, l1, l2, l3, l4, (am_w32 (l5 + 1))] [] M := (am_blk am_PP _ _ _ _ _).trans rfl
theorem be_X2_solve_19 (M : am_M) (l0 l1 l2 l3 : Int) : am_ev am_PP nX2_solve 19 [l0, l1, l2, l3] [] M =
    (am_gf 2 3 M l0).bind fun v1 =>
    bif !(decide (v1 = 0)) then am_ev am_PP nX2_solve 23 [] [] M
    else am_ev am_PP nX2_solve 20 [l0, l1, l2, l3] [] M := (am_blk am_PP _ _ _ _ _).trans rfl
theorem be_X2_solve_20 (M : am_M) (l0 l1 l2 l3 : Int) : am_ev am_PP nX2_solve 20 [l0, l1, l2, l3] [] M =
    if 0 < l0 ∧ am_cls l0 = 2 then
    (am_evm am_PP nX2_agreesWithAll [(2, l0), (2, l2), (0, l3)] M).bind fun q1 =>
    bif decide (q1.1 = 0) then am_ev am_PP nX2_solve 23 [] [] q1.2
    else am_ev am_PP nX2_solve 21 [l0, l1] [] q1.2
    else none := (am_blk am_PP _ _ _ _ _).trans rfl
theorem be_X2_solve_21 (M : am_M) (l0 l1 : Int) : am_ev am_PP nX2_solve 21 [l0, l1] [] M =
    if 0 < l0 ∧ am_cls l0 = 2 then
    (am_evm am_PP nX2_makeWhole [(2, l0), (0, l1)] M).bind fun q1 =>
    bif decide (q1.1 = 0) then am_ev am_PP nX2_solve 23 [] [] q1.2
    else am_ev am_PP nX2_solve 22 [] [] q1.2
    else none := (am_blk am_PP _ _ _ _ _).trans rfl
theorem be_X2_solve_22 (M : am_M) : am_ev am_PP nX2_solve 22 [] [] M =
    am_ev am_PP nX2_solve 24 [] [(0, 1)] M := (am_blk am_PP _ _ _ _ _).trans rfl
theorem be_X2_solve_23 (M : am_M) : am_ev am_PP nX2_solve 23 [] [] M =
    am_ev am_PP nX2_solve 24 [] [(0, 0)] M := (am_blk am_PP _ _ _ _ _).trans rfl
theorem be_X2_solve_24 (M : am_M) (s0 : Int) : am_ev am_PP nX2_solve 24 [] [(0, s0)] M =
    if s0 = 0 ∨ s0 = 1 then some (s0, M) else none := (am_blk am_PP _ _ _ _ _).trans rfl
theorem be_X2_firingsOf_m (M : am_M) (a0 a1 : Int) : am_evm am_PP nX2_firingsOf [(2, a0), (0, a1)] M = am_ev am_PP nX2_firingsOf 0 [a0, a1] [] M := rfl
theorem be_X2_firingsOf_0 (M : am_M) (l0 l1 : Int) : am_ev am_PP nX2_firingsOf 0 [l0, l1] [] M =
    bif decide (l1 < 0) then am_ev am_PP nX2_firingsOf 2 [] [] M
    else am_ev am_PP nX2_firingsOf 1 [l0, l1] [] M := (am_blk am_PP _ _ _ _ _).trans rfl
theorem be_X2_firingsOf_1 (M : am_M) (l0 l1 : Int) : am_ev am_PP nX2_firingsOf 1 [l0, l1] [] M =
    bif decide (l1 < 40) then am_ev am_PP nX2_firingsOf 3 [l0, l1] [] M
    else am_ev am_PP nX2_firingsOf 2 [] [] M := (am_blk am_PP _ _ _ _ _).trans rfl
theorem be_X2_firingsOf_2 (M : am_M) : am_ev am_PP nX2_firingsOf 2 [] [] M =
    am_ev am_PP nX2_firingsOf 4 [] [(0, (-5))] M := (am_blk am_PP _ _ _ _ _).trans rfl
theorem be_X2_firingsOf_3 (M : am_M) (l0 l1 : Int) : am_ev am_PP nX2_firingsOf 3 [l0, l1] [] M =
    (am_gf 2 1 M l0).bind fun v1 =>
    (am_ald 1 M v1 l1).bind fun v2 =>
    am_ev am_PP nX2_firingsOf 4 [] [(0, (am_w32 v2))] M := (am_blk am_PP _ _ _ _ _).trans rfl
theorem be_X2_firingsOf_4 (M : am_M) (s0 : Int) : am_ev am_PP nX2_firingsOf 4 [] [(0, s0)] M =
    some (s0, M) := (am_blk am_PP _ _ _ _ _).trans rfl
theorem be_X2_writtenByFiring_m (M : am_M) (a0 : Int) : am_evm am_PP nX2_writtenByFiring [(2, a0)] M = am_ev am_PP nX2_writtenByFiring 0 [a0] [] M := rfl
theorem be_X2_writtenByFiring_0 (M : am_M) (l0 : Int) : am_ev am_PP nX2_writtenByFiring 0 [l0] [] M =
    (am_gf 5 6 M l0).bind fun v1 =>
    bif !(decide (v1 = 2)) then am_ev am_PP nX2_writtenByFiring 2 [] [] M
    else am_ev am_PP nX2_writtenByFiring 1 [l0] [] M := (am_blk am_PP _ _ _ _ _).trans rfl
theorem be_X2_writtenByFiring_1 (M : am_M) (l0 : Int) : am_ev am_PP nX2_writtenByFiring 1 [l0] [] M =
    (am_gf 5 7 M l0).bind fun v1 =>
    am_ev am_PP nX2_writtenByFiring 3 [] [(1, v1)] M := (am_blk am_PP _ _ _ _ _).trans rfl
theorem be_X2_writtenByFiring_2 (M : am_M) : am_ev am_PP nX2_writtenByFiring 2 [] [] M =
    am_ev am_PP nX2_writtenByFiring 3 [] [(1, 1)] M := (am_blk am_PP _ _ _ _ _).trans rfl
theorem be_X2_writtenByFiring_3 (M : am_M) (s0 : Int) : am_ev am_PP nX2_writtenByFiring 3 [] [(1, s0)] M =
    some (s0, M) := (am_blk am_PP _ _ _ _ _).trans rfl
theorem be_X2_spread_m (M : am_M) (a0 a1 : Int) : am_evm am_PP nX2_spread [(2, a0), (2, a1)] M = am_ev am_PP nX2_spread 0 [a0, a1] [] M := rfl
theorem be_X2_spread_0 (M : am_M) (l0 l1 : Int) : am_ev am_PP nX2_spread 0 [l0, l1] [] M =
    (am_gf 0 2 M l1).bind fun v1 =>
    (am_gf 5 0 M v1).bind fun v2 =>
    (am_gf 0 3 M l1).bind fun v3 =>
    (am_gf 5 0 M v3).bind fun v4 =>
    (am_gf 0 2 M l1).bind fun v5 =>
    (am_evm am_PP nX2_writtenByFiring [(2, v5)] M).bind fun q6 =>
    (am_gf 2 1 q6.2 l0).bind fun v7 =>
    (am_ald 1 q6.2 v7 v2).bind fun v8 =>
    bif decide ((am_lcmp v8 0) = 0) then am_ev am_PP nX2_spread 3 [l0, v2, v4, q6.1] [] q6.2
    else am_ev am_PP nX2_spread 1 [l0, v2, v4, q6.1] [] q6.2 := (am_blk am_PP _ _ _ _ _).trans rfl
theorem be_X2_spread_1 (M : am_M) (l0 l2 l3 l4 : Int) : am_ev am_PP nX2_spread 1 [l0, l2, l3, l4] [] M =
    (am_gf 2 1 M l0).bind fun v1 =>
    (am_ald 1 M v1 l3).bind fun v2 =>
    bif !(decide ((am_lcmp v2 0) = 0)) then am_ev am_PP nX2_spread 3 [l0, l2, l3, l4] [] M
    else am_ev am_PP nX2_spread 2 [l0, l2, l3, l4] [] M := (am_blk am_PP _ _ _ _ _).trans rfl
theorem be_X2_spread_2 (M : am_M) (l0 l2 l3 l4 : Int) : am_ev am_PP nX2_spread 2 [l0, l2, l3, l4] [] M =
    (am_gf 2 1 M l0).bind fun v1 =>
    (am_ald 1 M v1 l2).bind fun v2 =>
    (am_gf 2 2 M l0).bind fun v3 =>
    (am_ald 1 M v3 l2).bind fun v4 =>
    if 0 < l0 ∧ am_cls l0 = 2 then
    (am_evm am_PP nX2_setFraction [(2, l0), (0, l3), (1, (am_w64 (v2 * l4))), (1, v4)] M).bind fun q5 =>
    if 1 = 0 ∨ 1 = 1 then some (1, q5.2) else none
    else none := (am_blk am_PP _ _ _ _ _).trans rfl
theorem be_X2_spread_3 (M : am_M) (l0 l2 l3 l4 : Int) : am_ev am_PP nX2_spread 3 [l0, l2, l3, l4] [] M =
    (am_gf 2 1 M l0).bind fun v1 =>
    (am_ald 1 M v1 l2).bind fun v2 =>
    bif !(decide ((am_lcmp v2 0) = 0)) then am_ev am_PP nX2_spread 6 [] [] M
    else am_ev am_PP nX2_spread 4 [l0, l2, l3, l4] [] M := (am_blk am_PP _ _ _ _ _).trans rfl
theorem be_X2_spread_4 (M : am_M) (l0 l2 l3 l4 : Int) : am_ev am_PP nX2_spread 4 [l0, l2, l3, l4] [] M =
    (am_gf 2 1 M l0).bind fun v1 =>
    (am_ald 1 M v1 l3).bind fun v2 =>
    bif decide ((am_lcmp v2 0) = 0) then am_ev am_PP nX2_spread 6 [] [] M
    else am_ev am_PP nX2_spread 5 [l0, l2, l3, l4] [] M := (am_blk am_PP _ _ _ _ _).trans rfl
theorem be_X2_spread_5 (M : am_M) (l0 l2 l3 l4 : Int) : am_ev am_PP nX2_spread 5 [l0, l2, l3, l4] [] M =
    (am_gf 2 1 M l0).bind fun v1 =>
    (am_ald 1 M v1 l3).bind fun v2 =>
    (am_gf 2 2 M l0).bind fun v3 =>
    (am_ald 1 M v3 l3).bind fun v4 =>
    if 0 < l0 ∧ am_cls l0 = 2 then
    (am_evm am_PP nX2_setFraction [(2, l0), (0, l2), (1, v2), (1, (am_w64 (v4 * l4)))] M).bind fun q5 =>
    if 1 = 0 ∨ 1 = 1 then some (1, q5.2) else none
    else none := (am_blk am_PP _ _ _ _ _).trans rfl
