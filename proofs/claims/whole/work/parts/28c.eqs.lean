theorem be_X5_act_5 (M : am_M) (l0 : Int) : am_ev am_PP nX5_act 5 [l0] [] M =
    if 0 < l0 ∧ am_cls l0 = 5 then
    (am_evm am_PP nX5_askScript [(2, l0)] M).bind fun q1 =>
    some (0, q1.2)
    else none := (am_blk am_PP _ _ _ _ _).trans rfl
theorem be_X5_readOff_m (M : am_M) (a0 a1 : Int) : am_evm am_PP nX5_readOff [(2, a0), (2, a1)] M = am_ev am_PP nX5_readOff 0 [a0, a1] [] M := rfl
theorem be_X5_readOff_0 (M : am_M) (l0 l1 : Int) : am_ev am_PP nX5_readOff 0 [l0, l1] [] M =
    bif decide (l1 = 0) then am_ev am_PP nX5_readOff 2 [] [] M
    else am_ev am_PP nX5_readOff 1 [l0, l1] [] M := (am_blk am_PP _ _ _ _ _).trans rfl
theorem be_X5_readOff_1 (M : am_M) (l0 l1 : Int) : am_ev am_PP nX5_readOff 1 [l0, l1] [] M =
    if 0 < l1 ∧ am_cls l1 = 0 then
    (am_evm am_PP nX0_canBeRead [(2, l1)] M).bind fun q1 =>
    bif !(decide (q1.1 = 0)) then am_ev am_PP nX5_readOff 3 [l0, l1] [] q1.2
    else am_ev am_PP nX5_readOff 2 [] [] q1.2
    else none := (am_blk am_PP _ _ _ _ _).trans rfl
theorem be_X5_readOff_2 (M : am_M) : am_ev am_PP nX5_readOff 2 [] [] M =
    some (0, M) := (am_blk am_PP _ _ _ _ _).trans rfl
theorem be_X5_readOff_3 (M : am_M) (l0 l1 : Int) : am_ev am_PP nX5_readOff 3 [l0, l1] [] M =
    (am_gf 0 9 M l1).bind fun v1 =>
    bif decide (v1 ≤ 0) then am_ev am_PP nX5_readOff 5 [l0, l1] [] M
    else am_ev am_PP nX5_readOff 4 [l0, l1] [] M := (am_blk am_PP _ _ _ _ _).trans rfl
theorem be_X5_readOff_4 (M : am_M) (l0 l1 : Int) : am_ev am_PP nX5_readOff 4 [l0, l1] [] M =
    (am_gf 5 12 M l0).bind fun v1 =>
    (am_pf 5 12 0 M l0 (am_w32 (v1 + 1))).bind fun M1 =>
    if 0 < l1 ∧ am_cls l1 = 0 then
    (am_evm am_PP nX0_take [(2, l1)] M1).bind fun q2 =>
    if 0 < l0 ∧ am_cls l0 = 5 then
    (am_evm am_PP nX5_afterPattern [(2, l0), (1, q2.1)] q2.2).bind fun q3 =>
    am_ev am_PP nX5_readOff 11 [] [] q3.2
    else none
    else none := (am_blk am_PP _ _ _ _ _).trans rfl
theorem be_X5_readOff_5 (M : am_M) (l0 l1 : Int) : am_ev am_PP nX5_readOff 5 [l0, l1] [] M =
    (am_gf 5 6 M l0).bind fun v1 =>
    bif !(decide (v1 = 13)) then am_ev am_PP nX5_readOff 8 [l0, l1] [] M
    else am_ev am_PP nX5_readOff 6 [l0, l1] [] M := (am_blk am_PP _ _ _ _ _).trans rfl
theorem be_X5_readOff_6 (M : am_M) (l0 l1 : Int) : am_ev am_PP nX5_readOff 6 [l0, l1] [] M =
    (am_gf 5 5 M l0).bind fun v1 =>
    if 0 < v1 ∧ am_cls v1 = 4 then
    (am_evm am_PP nX4_isAtTry [(2, v1)] M).bind fun q2 =>
    bif decide (q2.1 = 0) then am_ev am_PP nX5_readOff 8 [l0, l1] [] q2.2
    else am_ev am_PP nX5_readOff 7 [l0] [] q2.2
    else none := (am_blk am_PP _ _ _ _ _).trans rfl
theorem be_X5_readOff_7 (M : am_M) (l0 : Int) : am_ev am_PP nX5_readOff 7 [l0] [] M =
    (am_gf 5 5 M l0).bind fun v1 =>
    if 0 < v1 ∧ am_cls v1 = 4 then
    (am_evm am_PP nX4_passOver [(2, v1)] M).bind fun q2 =>
    (am_pf 5 8 0 q2.2 l0 6).bind fun M1 =>
    am_ev am_PP nX5_readOff 11 [] [] M1
    else none := (am_blk am_PP _ _ _ _ _).trans rfl
theorem be_X5_readOff_8 (M : am_M) (l0 l1 : Int) : am_ev am_PP nX5_readOff 8 [l0, l1] [] M =
    (am_gf 0 2 M l1).bind fun v1 =>
    (am_gf 5 8 M v1).bind fun v2 =>
    bif !(decide (v2 = 5)) then am_ev am_PP nX5_readOff 10 [l0] [] M
    else am_ev am_PP nX5_readOff 9 [l0, l1] [] M := (am_blk am_PP _ _ _ _ _).trans rfl
theorem be_X5_readOff_9 (M : am_M) (l0 l1 : Int) : am_ev am_PP nX5_readOff 9 [l0, l1] [] M =
    (am_gf 0 2 M l1).bind fun v1 =>
    (am_gf 5 14 M v1).bind fun v2 =>
    (am_pf 5 14 0 M l0 v2).bind fun M1 =>
    (am_gf 0 2 M1 l1).bind fun v3 =>
    (am_gf 5 15 M1 v3).bind fun v4 =>
    (am_pf 5 15 0 M1 l0 v4).bind fun M2 =>
    (am_pf 5 8 0 M2 l0 5).bind fun M3 =>
    am_ev am_PP nX5_readOff 11 [] [] M3 := (am_blk am_PP _ _ _ _ _).trans rfl
theorem be_X5_readOff_10 (M : am_M) (l0 : Int) : am_ev am_PP nX5_readOff 10 [l0] [] M =
    if 0 < l0 ∧ am_cls l0 = 5 then
    (am_evm am_PP nX5_afterEnd [(2, l0)] M).bind fun q1 =>
    am_ev am_PP nX5_readOff 11 [] [] q1.2
    else none := (am_blk am_PP _ _ _ _ _).trans rfl
theorem be_X5_readOff_11 (M : am_M) : am_ev am_PP nX5_readOff 11 [] [] M =
    some (0, M) := (am_blk am_PP _ _ _ _ _).trans rfl
theorem be_X5_writeTo_m (M : am_M) (a0 a1 : Int) : am_evm am_PP nX5_writeTo [(2, a0), (2, a1)] M = am_ev am_PP nX5_writeTo 0 [a0, a1] [] M := rfl
theorem be_X5_writeTo_0 (M : am_M) (l0 l1 : Int) : am_ev am_PP nX5_writeTo 0 [l0, l1] [] M =
    bif decide (l1 = 0) then am_ev am_PP nX5_writeTo 2 [] [] M
    else am_ev am_PP nX5_writeTo 1 [l0, l1] [] M := (am_blk am_PP _ _ _ _ _).trans rfl
theorem be_X5_writeTo_1 (M : am_M) (l0 l1 : Int) : am_ev am_PP nX5_writeTo 1 [l0, l1] [] M =
    if 0 < l1 ∧ am_cls l1 = 0 then
    (am_evm am_PP nX0_canBeWritten [(2, l1)] M).bind fun q1 =>
    bif !(decide (q1.1 = 0)) then am_ev am_PP nX5_writeTo 3 [l0, l1] [] q1.2
    else am_ev am_PP nX5_writeTo 2 [] [] q1.2
    else none := (am_blk am_PP _ _ _ _ _).trans rfl
theorem be_X5_writeTo_2 (M : am_M) : am_ev am_PP nX5_writeTo 2 [] [] M =
    some (0, M) := (am_blk am_PP _ _ _ _ _).trans rfl
theorem be_X5_writeTo_3 (M : am_M) (l0 l1 : Int) : am_ev am_PP nX5_writeTo 3 [l0, l1] [] M =
    (am_gf 5 13 M l0).bind fun v1 =>
    (am_pf 5 13 0 M l0 (am_w32 (v1 + 1))).bind fun M1 =>
    (am_gf 5 10 M1 l0).bind fun v2 =>
    if 0 < l1 ∧ am_cls l1 = 0 then
    (am_evm am_PP nX0_put [(2, l1), (1, v2)] M1).bind fun q3 =>
    if 0 < l0 ∧ am_cls l0 = 5 then
    (am_evm am_PP nX5_afterWriting [(2, l0)] q3.2).bind fun q4 =>
    some (0, q4.2)
    else none
    else none := (am_blk am_PP _ _ _ _ _).trans rfl
theorem be_X5_toRead_m (M : am_M) (a0 a1 : Int) : am_evm am_PP nX5_toRead [(2, a0), (0, a1)] M = am_ev am_PP nX5_toRead 0 [a0, a1] [] M := rfl
theorem be_X5_toRead_0 (M : am_M) (l0 l1 : Int) : am_ev am_PP nX5_toRead 0 [l0, l1] [] M =
    (am_pf 5 8 0 M l0 0).bind fun M1 =>
    (am_pf 5 9 0 M1 l0 l1).bind fun M2 =>
    some (0, M2) := (am_blk am_PP _ _ _ _ _).trans rfl
theorem be_X5_toWrite_m (M : am_M) (a0 a1 a2 : Int) : am_evm am_PP nX5_toWrite [(2, a0), (0, a1), (1, a2)] M = am_ev am_PP nX5_toWrite 0 [a0, a1, a2] [] M := rfl
theorem be_X5_toWrite_0 (M : am_M) (l0 l1 l2 : Int) : am_ev am_PP nX5_toWrite 0 [l0, l1, l2] [] M =
    (am_pf 5 8 0 M l0 1).bind fun M1 =>
    (am_pf 5 9 0 M1 l0 l1).bind fun M2 =>
    (am_pf 5 10 0 M2 l0 l2).bind fun M3 =>
    some (0, M3) := (am_blk am_PP _ _ _ _ _).trans rfl
theorem be_X5_toFail_m (M : am_M) (a0 a1 : Int) : am_evm am_PP nX5_toFail [(2, a0), (0, a1)] M = am_ev am_PP nX5_toFail 0 [a0, a1] [] M := rfl
theorem be_X5_toFail_0 (M : am_M) (l0 l1 : Int) : am_ev am_PP nX5_toFail 0 [l0, l1] [] M =
    (am_pf 5 8 0 M l0 3).bind fun M1 =>
    (am_pf 5 15 0 M1 l0 l1).bind fun M2 =>
    some (0, M2) := (am_blk am_PP _ _ _ _ _).trans rfl
theorem be_X5_firstAct_m (M : am_M) (a0 : Int) : am_evm am_PP nX5_firstAct [(2, a0)] M = am_ev am_PP nX5_firstAct 0 [a0] [] M := rfl
theorem be_X5_firstAct_0 (M : am_M) (l0 : Int) : am_ev am_PP nX5_firstAct 0 [l0] [] M =
    (am_gf 5 6 M l0).bind fun v1 =>
    bif decide (v1 = 0) then am_ev am_PP nX5_firstAct 1 [l0] [] M else
    bif decide (v1 = 3) then am_ev am_PP nX5_firstAct 2 [l0] [] M else
    bif decide (v1 = 12) then am_ev am_PP nX5_firstAct 3 [l0] [] M else
    bif decide (v1 = 13) then am_ev am_PP nX5_firstAct 4 [l0] [] M else
    am_ev am_PP nX5_firstAct 5 [l0] [] M := (am_blk am_PP _ _ _ _ _).trans rfl
theorem be_X5_firstAct_1 (M : am_M) (l0 : Int) : am_ev am_PP nX5_firstAct 1 [l0] [] M =
    if 0 < l0 ∧ am_cls l0 = 5 then
    (am_evm am_PP nX5_sourceGoesOn [(2, l0)] M).bind fun q1 =>
    am_ev am_PP nX5_firstAct 6 [] [] q1.2
    else none := (am_blk am_PP _ _ _ _ _).trans rfl
theorem be_X5_firstAct_2 (M : am_M) (l0 : Int) : am_ev am_PP nX5_firstAct 2 [l0] [] M =
    (am_gf 5 7 M l0).bind fun v1 =>
    if 0 < l0 ∧ am_cls l0 = 5 then
    (am_evm am_PP nX5_toWrite [(2, l0), (0, 0), (1, v1)] M).bind fun q2 =>
    am_ev am_PP nX5_firstAct 6 [] [] q2.2
    else none := (am_blk am_PP _ _ _ _ _).trans rfl
theorem be_X5_firstAct_3 (M : am_M) (l0 : Int) : am_ev am_PP nX5_firstAct 3 [l0] [] M =
    if 0 < l0 ∧ am_cls l0 = 5 then
    (am_evm am_PP nX5_tearGoesOn [(2, l0)] M).bind fun q1 =>
    am_ev am_PP nX5_firstAct 6 [] [] q1.2
    else none := (am_blk am_PP _ _ _ _ _).trans rfl
theorem be_X5_firstAct_4 (M : am_M) (l0 : Int) : am_ev am_PP nX5_firstAct 4 [l0] [] M =
    (am_pf 5 8 0 M l0 6).bind fun M1 =>
    am_ev am_PP nX5_firstAct 6 [] [] M1 := (am_blk am_PP _ _ _ _ _).trans rfl
theorem be_X5_firstAct_5 (M : am_M) (l0 : Int) : am_ev am_PP nX5_firstAct 5 [l0] [] M =
    if 0 < l0 ∧ am_cls l0 = 5 then
    (am_evm am_PP nX5_toRead [(2, l0), (0, 0)] M).bind fun q1 =>
    am_ev am_PP nX5_firstAct 6 [] [] q1.2
    else none := (am_blk am_PP _ _ _ _ _).trans rfl
theorem be_X5_firstAct_6 (M : am_M) : am_ev am_PP nX5_firstAct 6 [] [] M =
    some (0, M) := (am_blk am_PP _ _ _ _ _).trans rfl
theorem be_X5_afterPattern_m (M : am_M) (a0 a1 : Int) : am_evm am_PP nX5_afterPattern [(2, a0), (1, a1)] M = am_ev am_PP nX5_afterPattern 0 [a0, a1] [] M := rfl
theorem be_X5_afterPattern_0 (M : am_M) (l0 l1 : Int) : am_ev am_PP nX5_afterPattern 0 [l0, l1] [] M =
    (am_gf 5 6 M l0).bind fun v1 =>
    bif decide (v1 = 1) then am_ev am_PP nX5_afterPattern 1 [l0, l1] [] M else
    bif decide (v1 = 2) then am_ev am_PP nX5_afterPattern 2 [l0, l1] [] M else
    bif decide (v1 = 3) then am_ev am_PP nX5_afterPattern 18 [l0, l1] [] M else
    bif decide (v1 = 4) then am_ev am_PP nX5_afterPattern 3 [l0, l1] [] M else
    bif decide (v1 = 5) then am_ev am_PP nX5_afterPattern 4 [l0, l1] [] M else
    bif decide (v1 = 6) then am_ev am_PP nX5_afterPattern 9 [l0, l1] [] M else
    bif decide (v1 = 7) then am_ev am_PP nX5_afterPattern 10 [l0, l1] [] M else
    bif decide (v1 = 8) then am_ev am_PP nX5_afterPattern 18 [l0, l1] [] M else
    bif decide (v1 = 9) then am_ev am_PP nX5_afterPattern 11 [l0, l1] [] M else
    bif decide (v1 = 10) then am_ev am_PP nX5_afterPattern 12 [l0] [] M else
    bif decide (v1 = 11) then am_ev am_PP nX5_afterPattern 13 [l0, l1] [] M else
    bif decide (v1 = 12) then am_ev am_PP nX5_afterPattern 18 [l0, l1] [] M else
    bif decide (v1 = 13) then am_ev am_PP nX5_afterPattern 17 [l0, l1] [] M else
    am_ev am_PP nX5_afterPattern 18 [l0, l1] [] M := (am_blk am_PP _ _ _ _ _).trans rfl
theorem be_X5_afterPattern_1 (M : am_M) (l0 l1 : Int) : am_ev am_PP nX5_afterPattern 1 [l0, l1] [] M =
    (am_gf 5 7 M l0).bind fun v1 =>
    if 0 < l0 ∧ am_cls l0 = 5 then
    (am_evm am_PP nX5_toWrite [(2, l0), (0, 0), (1, (am_w64 (l1 + v1)))] M).bind fun q2 =>
    am_ev am_PP nX5_afterPattern 19 [] [] q2.2
    else none := (am_blk am_PP _ _ _ _ _).trans rfl
theorem be_X5_afterPattern_2 (M : am_M) (l0 l1 : Int) : am_ev am_PP nX5_afterPattern 2 [l0, l1] [] M =
    (am_gf 5 7 M l0).bind fun v1 =>
    (am_pf 5 11 0 M l0 v1).bind fun M1 =>
    if 0 < l0 ∧ am_cls l0 = 5 then
    (am_evm am_PP nX5_repeatGoesOn [(2, l0), (1, l1)] M1).bind fun q2 =>
    am_ev am_PP nX5_afterPattern 19 [] [] q2.2
    else none := (am_blk am_PP _ _ _ _ _).trans rfl
theorem be_X5_afterPattern_3 (M : am_M) (l0 l1 : Int) : am_ev am_PP nX5_afterPattern 3 [l0, l1] [] M =
    (am_gf 5 4 M l0).bind fun v1 =>
    (am_gf 5 9 M l0).bind fun v2 =>
    if 0 < v1 ∧ am_cls v1 = 1 then
    (am_evm am_PP nX1_hold [(2, v1), (0, v2), (1, l1)] M).bind fun q3 =>
    if 0 < l0 ∧ am_cls l0 = 5 then
    (am_evm am_PP nX5_mergeGoesOn [(2, l0)] q3.2).bind fun q4 =>
    am_ev am_PP nX5_afterPattern 19 [] [] q4.2
    else none
    else none := (am_blk am_PP _ _ _ _ _).trans rfl
theorem be_X5_afterPattern_4 (M : am_M) (l0 l1 : Int) : am_ev am_PP nX5_afterPattern 4 [l0, l1] [] M =
    (am_gf 5 7 M l0).bind fun v1 =>
    bif decide (v1 = 0) then am_ev am_PP nX5_afterPattern 7 [l1] [(2, l0)] M
    else am_ev am_PP nX5_afterPattern 5 [l0, l1] [(2, l0)] M := (am_blk am_PP _ _ _ _ _).trans rfl
theorem be_X5_afterPattern_5 (M : am_M) (l0 l1 s0 : Int) : am_ev am_PP nX5_afterPattern 5 [l0, l1] [(2, s0)] M =
    (am_gf 5 7 M l0).bind fun v1 =>
    (am_lrem l1 v1).bind fun v2 =>
    bif !(decide ((am_lcmp v2 0) = 0)) then am_ev am_PP nX5_afterPattern 7 [l1] [(2, s0)] M
    else am_ev am_PP nX5_afterPattern 6 [l1] [(2, s0)] M := (am_blk am_PP _ _ _ _ _).trans rfl
theorem be_X5_afterPattern_6 (M : am_M) (l1 s0 : Int) : am_ev am_PP nX5_afterPattern 6 [l1] [(2, s0)] M =
    am_ev am_PP nX5_afterPattern 8 [l1] [(0, 0), (2, s0)] M := (am_blk am_PP _ _ _ _ _).trans rfl
theorem be_X5_afterPattern_7 (M : am_M) (l1 s0 : Int) : am_ev am_PP nX5_afterPattern 7 [l1] [(2, s0)] M =
    am_ev am_PP nX5_afterPattern 8 [l1] [(0, 1), (2, s0)] M := (am_blk am_PP _ _ _ _ _).trans rfl
theorem be_X5_afterPattern_8 (M : am_M) (l1 s0 s1 : Int) : am_ev am_PP nX5_afterPattern 8 [l1] [(0, s1), (2, s0)] M =
    if 0 < s0 ∧ am_cls s0 = 5 then
    (am_evm am_PP nX5_toWrite [(2, s0), (0, s1), (1, l1)] M).bind fun q1 =>
    am_ev am_PP nX5_afterPattern 19 [] [] q1.2
    else none := (am_blk am_PP _ _ _ _ _).trans rfl
theorem be_X5_afterPattern_9 (M : am_M) (l0 l1 : Int) : am_ev am_PP nX5_afterPattern 9 [l0, l1] [] M =
    if 0 < l0 ∧ am_cls l0 = 5 then
    (am_evm am_PP nX5_sumGoesOn [(2, l0), (1, l1)] M).bind fun q1 =>
    am_ev am_PP nX5_afterPattern 19 [] [] q1.2
    else none := (am_blk am_PP _ _ _ _ _).trans rfl
theorem be_X5_afterPattern_10 (M : am_M) (l0 l1 : Int) : am_ev am_PP nX5_afterPattern 10 [l0, l1] [] M =
    if 0 < l0 ∧ am_cls l0 = 5 then
    (am_evm am_PP nX5_selectGoesOn [(2, l0), (1, l1)] M).bind fun q1 =>
    am_ev am_PP nX5_afterPattern 19 [] [] q1.2
    else none := (am_blk am_PP _ _ _ _ _).trans rfl
theorem be_X5_afterPattern_11 (M : am_M) (l0 l1 : Int) : am_ev am_PP nX5_afterPattern 11 [l0, l1] [] M =
    (am_gf 5 3 M l0).bind fun v1 =>
    if 0 < v1 ∧ am_cls v1 = 3 then
    (am_evm am_PP nX3_append [(2, v1), (1, l1)] M).bind fun q2 =>
    if 0 < l0 ∧ am_cls l0 = 5 then
    (am_evm am_PP nX5_toRead [(2, l0), (0, 0)] q2.2).bind fun q3 =>
    am_ev am_PP nX5_afterPattern 19 [] [] q3.2
    else none
    else none := (am_blk am_PP _ _ _ _ _).trans rfl
theorem be_X5_afterPattern_12 (M : am_M) (l0 : Int) : am_ev am_PP nX5_afterPattern 12 [l0] [] M =
    (am_gf 5 12 M l0).bind fun v1 =>
    if 0 < l0 ∧ am_cls l0 = 5 then
    (am_evm am_PP nX5_toWrite [(2, l0), (0, 0), (1, v1)] M).bind fun q2 =>
    am_ev am_PP nX5_afterPattern 19 [] [] q2.2
    else none := (am_blk am_PP _ _ _ _ _).trans rfl
theorem be_X5_afterPattern_13 (M : am_M) (l0 l1 : Int) : am_ev am_PP nX5_afterPattern 13 [l0, l1] [] M =
    (am_gf 5 4 M l0).bind fun v1 =>
    if 0 < v1 ∧ am_cls v1 = 1 then
    (am_evm am_PP nX1_sortIn [(2, v1), (1, l1)] M).bind fun q2 =>
    (am_gf 5 4 q2.2 l0).bind fun v3 =>
    (am_gf 1 3 q2.2 v3).bind fun v4 =>
    (am_gf 5 7 q2.2 l0).bind fun v5 =>
    bif decide (v4 < v5) then am_ev am_PP nX5_afterPattern 15 [] [(2, l0)] q2.2
    else am_ev am_PP nX5_afterPattern 14 [] [(2, l0)] q2.2
    else none := (am_blk am_PP _ _ _ _ _).trans rfl
theorem be_X5_afterPattern_14 (M : am_M) (s0 : Int) : am_ev am_PP nX5_afterPattern 14 [] [(2, s0)] M =
    am_ev am_PP nX5_afterPattern 16 [] [(0, 1), (2, s0)] M := (am_blk am_PP _ _ _ _ _).trans rfl
theorem be_X5_afterPattern_15 (M : am_M) (s0 : Int) : am_ev am_PP nX5_afterPattern 15 [] [(2, s0)] M =
    am_ev am_PP nX5_afterPattern 16 [] [(0, 0), (2, s0)] M := (am_blk am_PP _ _ _ _ _).trans rfl
theorem be_X5_afterPattern_16 (M : am_M) (s0 s1 : Int) : am_ev am_PP nX5_afterPattern 16 [] [(0, s1), (2, s0)] M =
    if 0 < s0 ∧ am_cls s0 = 5 then
    (am_evm am_PP nX5_sortGoesOn [(2, s0), (0, s1)] M).bind fun q1 =>
    am_ev am_PP nX5_afterPattern 19 [] [] q1.2
    else none := (am_blk am_PP _ _ _ _ _).trans rfl
theorem be_X5_afterPattern_17 (M : am_M) (l0 l1 : Int) : am_ev am_PP nX5_afterPattern 17 [l0, l1] [] M =
    (am_gf 5 5 M l0).bind fun v1 =>
    if 0 < v1 ∧ am_cls v1 = 4 then
    (am_evm am_PP nX4_keep [(2, v1), (1, l1)] M).bind fun q2 =>
    (am_gf 5 5 q2.2 l0).bind fun v3 =>
    if 0 < v3 ∧ am_cls v3 = 4 then
    (am_evm am_PP nX4_goOn [(2, v3)] q2.2).bind fun q4 =>
    (am_pf 5 8 0 q4.2 l0 6).bind fun M1 =>
    am_ev am_PP nX5_afterPattern 19 [] [] M1
    else none
    else none := (am_blk am_PP _ _ _ _ _).trans rfl
theorem be_X5_afterPattern_18 (M : am_M) (l0 l1 : Int) : am_ev am_PP nX5_afterPattern 18 [l0, l1] [] M =
    if 0 < l0 ∧ am_cls l0 = 5 then
    (am_evm am_PP nX5_toWrite [(2, l0), (0, 0), (1, l1)] M).bind fun q1 =>
    am_ev am_PP nX5_afterPattern 19 [] [] q1.2
    else none := (am_blk am_PP _ _ _ _ _).trans rfl
theorem be_X5_afterPattern_19 (M : am_M) : am_ev am_PP nX5_afterPattern 19 [] [] M =
    some (0, M) := (am_blk am_PP _ _ _ _ _).trans rfl
theorem be_X5_afterWriting_m (M : am_M) (a0 : Int) : am_evm am_PP nX5_afterWriting [(2, a0)] M = am_ev am_PP nX5_afterWriting 0 [a0] [] M := rfl
theorem be_X5_afterWriting_0 (M : am_M) (l0 : Int) : am_ev am_PP nX5_afterWriting 0 [l0] [] M =
    (am_gf 5 6 M l0).bind fun v1 =>
    bif decide (v1 = 0) then am_ev am_PP nX5_afterWriting 1 [l0] [] M else
    bif decide (v1 = 1) then am_ev am_PP nX5_afterWriting 12 [l0] [] M else
    bif decide (v1 = 2) then am_ev am_PP nX5_afterWriting 2 [l0] [] M else
    bif decide (v1 = 3) then am_ev am_PP nX5_afterWriting 12 [l0] [] M else
    bif decide (v1 = 4) then am_ev am_PP nX5_afterWriting 3 [l0] [] M else
    bif decide (v1 = 5) then am_ev am_PP nX5_afterWriting 12 [l0] [] M else
    bif decide (v1 = 6) then am_ev am_PP nX5_afterWriting 12 [l0] [] M else
    bif decide (v1 = 7) then am_ev am_PP nX5_afterWriting 12 [l0] [] M else
    bif decide (v1 = 8) then am_ev am_PP nX5_afterWriting 4 [l0] [] M else
    bif decide (v1 = 9) then am_ev am_PP nX5_afterWriting 12 [l0] [] M else
    bif decide (v1 = 10) then am_ev am_PP nX5_afterWriting 12 [l0] [] M else
    bif decide (v1 = 11) then am_ev am_PP nX5_afterWriting 5 [l0] [] M else
    bif decide (v1 = 12) then am_ev am_PP nX5_afterWriting 10 [l0] [] M else
    bif decide (v1 = 13) then am_ev am_PP nX5_afterWriting 11 [l0] [] M else
    am_ev am_PP nX5_afterWriting 12 [l0] [] M := (am_blk am_PP _ _ _ _ _).trans rfl
theorem be_X5_afterWriting_1 (M : am_M) (l0 : Int) : am_ev am_PP nX5_afterWriting 1 [l0] [] M =
    if 0 < l0 ∧ am_cls l0 = 5 then
    (am_evm am_PP nX5_sourceGoesOn [(2, l0)] M).bind fun q1 =>
    am_ev am_PP nX5_afterWriting 13 [] [] q1.2
    else none := (am_blk am_PP _ _ _ _ _).trans rfl
theorem be_X5_afterWriting_2 (M : am_M) (l0 : Int) : am_ev am_PP nX5_afterWriting 2 [l0] [] M =
    (am_gf 5 11 M l0).bind fun v1 =>
    (am_pf 5 11 0 M l0 (am_w32 (v1 - 1))).bind fun M1 =>
    (am_gf 5 10 M1 l0).bind fun v2 =>
    if 0 < l0 ∧ am_cls l0 = 5 then
    (am_evm am_PP nX5_repeatGoesOn [(2, l0), (1, v2)] M1).bind fun q3 =>
    am_ev am_PP nX5_afterWriting 13 [] [] q3.2
    else none := (am_blk am_PP _ _ _ _ _).trans rfl
theorem be_X5_afterWriting_3 (M : am_M) (l0 : Int) : am_ev am_PP nX5_afterWriting 3 [l0] [] M =
    if 0 < l0 ∧ am_cls l0 = 5 then
    (am_evm am_PP nX5_mergeGoesOn [(2, l0)] M).bind fun q1 =>
    am_ev am_PP nX5_afterWriting 13 [] [] q1.2
    else none := (am_blk am_PP _ _ _ _ _).trans rfl
theorem be_X5_afterWriting_4 (M : am_M) (l0 : Int) : am_ev am_PP nX5_afterWriting 4 [l0] [] M =
    if 0 < l0 ∧ am_cls l0 = 5 then
    (am_evm am_PP nX5_copyGoesOn [(2, l0)] M).bind fun q1 =>
    am_ev am_PP nX5_afterWriting 13 [] [] q1.2
    else none := (am_blk am_PP _ _ _ _ _).trans rfl
theorem be_X5_afterWriting_5 (M : am_M) (l0 : Int) : am_ev am_PP nX5_afterWriting 5 [l0] [] M =
    (am_gf 5 4 M l0).bind fun v1 =>
    (am_gf 1 3 M v1).bind fun v2 =>
    bif decide (0 < v2) then am_ev am_PP nX5_afterWriting 7 [] [(2, l0)] M
    else am_ev am_PP nX5_afterWriting 6 [l0] [(2, l0)] M := (am_blk am_PP _ _ _ _ _).trans rfl
theorem be_X5_afterWriting_6 (M : am_M) (l0 s0 : Int) : am_ev am_PP nX5_afterWriting 6 [l0] [(2, s0)] M =
    (am_gf 5 4 M l0).bind fun v1 =>
    (am_gf 1 2 M v1).bind fun v2 =>
    (am_ald 2 M v2 0).bind fun v3 =>
    bif decide (v3 = 0) then am_ev am_PP nX5_afterWriting 8 [] [(2, s0)] M
    else am_ev am_PP nX5_afterWriting 7 [] [(2, s0)] M := (am_blk am_PP _ _ _ _ _).trans rfl
theorem be_X5_afterWriting_7 (M : am_M) (s0 : Int) : am_ev am_PP nX5_afterWriting 7 [] [(2, s0)] M =
    am_ev am_PP nX5_afterWriting 9 [] [(0, 1), (2, s0)] M := (am_blk am_PP _ _ _ _ _).trans rfl
theorem be_X5_afterWriting_8 (M : am_M) (s0 : Int) : am_ev am_PP nX5_afterWriting 8 [] [(2, s0)] M =
    am_ev am_PP nX5_afterWriting 9 [] [(0, 0), (2, s0)] M := (am_blk am_PP _ _ _ _ _).trans rfl
theorem be_X5_afterWriting_9 (M : am_M) (s0 s1 : Int) : am_ev am_PP nX5_afterWriting 9 [] [(0, s1), (2, s0)] M =
    if 0 < s0 ∧ am_cls s0 = 5 then
    (am_evm am_PP nX5_sortGoesOn [(2, s0), (0, s1)] M).bind fun q1 =>
    am_ev am_PP nX5_afterWriting 13 [] [] q1.2
    else none := (am_blk am_PP _ _ _ _ _).trans rfl
theorem be_X5_afterWriting_10 (M : am_M) (l0 : Int) : am_ev am_PP nX5_afterWriting 10 [l0] [] M =
    if 0 < l0 ∧ am_cls l0 = 5 then
    (am_evm am_PP nX5_tearGoesOn [(2, l0)] M).bind fun q1 =>
    am_ev am_PP nX5_afterWriting 13 [] [] q1.2
    else none := (am_blk am_PP _ _ _ _ _).trans rfl
theorem be_X5_afterWriting_11 (M : am_M) (l0 : Int) : am_ev am_PP nX5_afterWriting 11 [l0] [] M =
    (am_gf 5 5 M l0).bind fun v1 =>
    if 0 < v1 ∧ am_cls v1 = 4 then
    (am_evm am_PP nX4_goOn [(2, v1)] M).bind fun q2 =>
    (am_pf 5 8 0 q2.2 l0 6).bind fun M1 =>
    am_ev am_PP nX5_afterWriting 13 [] [] M1
    else none := (am_blk am_PP _ _ _ _ _).trans rfl
theorem be_X5_afterWriting_12 (M : am_M) (l0 : Int) : am_ev am_PP nX5_afterWriting 12 [l0] [] M =
    if 0 < l0 ∧ am_cls l0 = 5 then
    (am_evm am_PP nX5_toRead [(2, l0), (0, 0)] M).bind fun q1 =>
    am_ev am_PP nX5_afterWriting 13 [] [] q1.2
    else none := (am_blk am_PP _ _ _ _ _).trans rfl
theorem be_X5_afterWriting_13 (M : am_M) : am_ev am_PP nX5_afterWriting 13 [] [] M =
    some (0, M) := (am_blk am_PP _ _ _ _ _).trans rfl
theorem be_X5_afterEnd_m (M : am_M) (a0 : Int) : am_evm am_PP nX5_afterEnd [(2, a0)] M = am_ev am_PP nX5_afterEnd 0 [a0] [] M := rfl
theorem be_X5_afterEnd_0 (M : am_M) (l0 : Int) : am_ev am_PP nX5_afterEnd 0 [l0] [] M =
    (am_gf 5 6 M l0).bind fun v1 =>
    bif decide (v1 = 4) then am_ev am_PP nX5_afterEnd 1 [l0] [] M else
    bif decide (v1 = 11) then am_ev am_PP nX5_afterEnd 2 [l0] [] M else
    am_ev am_PP nX5_afterEnd 3 [l0] [] M := (am_blk am_PP _ _ _ _ _).trans rfl
theorem be_X5_afterEnd_1 (M : am_M) (l0 : Int) : am_ev am_PP nX5_afterEnd 1 [l0] [] M =
    (am_gf 5 4 M l0).bind fun v1 =>
    (am_gf 5 9 M l0).bind fun v2 =>
    if 0 < v1 ∧ am_cls v1 = 1 then
    (am_evm am_PP nX1_close [(2, v1), (0, v2)] M).bind fun q3 =>
    if 0 < l0 ∧ am_cls l0 = 5 then
    (am_evm am_PP nX5_mergeGoesOn [(2, l0)] q3.2).bind fun q4 =>
    am_ev am_PP nX5_afterEnd 4 [] [] q4.2
    else none
    else none := (am_blk am_PP _ _ _ _ _).trans rfl
theorem be_X5_afterEnd_2 (M : am_M) (l0 : Int) : am_ev am_PP nX5_afterEnd 2 [l0] [] M =
    (am_gf 5 4 M l0).bind fun v1 =>
    if 0 < v1 ∧ am_cls v1 = 1 then
    (am_evm am_PP nX1_close [(2, v1), (0, 0)] M).bind fun q2 =>
    if 0 < l0 ∧ am_cls l0 = 5 then
    (am_evm am_PP nX5_sortGoesOn [(2, l0), (0, 1)] q2.2).bind fun q3 =>
    am_ev am_PP nX5_afterEnd 4 [] [] q3.2
    else none
    else none := (am_blk am_PP _ _ _ _ _).trans rfl
theorem be_X5_afterEnd_3 (M : am_M) (l0 : Int) : am_ev am_PP nX5_afterEnd 3 [l0] [] M =
    (am_pf 5 8 0 M l0 2).bind fun M1 =>
    am_ev am_PP nX5_afterEnd 4 [] [] M1 := (am_blk am_PP _ _ _ _ _).trans rfl
theorem be_X5_afterEnd_4 (M : am_M) : am_ev am_PP nX5_afterEnd 4 [] [] M =
    some (0, M) := (am_blk am_PP _ _ _ _ _).trans rfl
theorem be_X5_sourceGoesOn_m (M : am_M) (a0 : Int) : am_evm am_PP nX5_sourceGoesOn [(2, a0)] M = am_ev am_PP nX5_sourceGoesOn 0 [a0] [] M := rfl
theorem be_X5_sourceGoesOn_0 (M : am_M) (l0 : Int) : am_ev am_PP nX5_sourceGoesOn 0 [l0] [] M =
    (am_gf 5 11 M l0).bind fun v1 =>
    (am_gf 5 3 M l0).bind fun v2 =>
    (am_gf 3 1 M v2).bind fun v3 =>
    bif decide (v3 ≤ v1) then am_ev am_PP nX5_sourceGoesOn 2 [l0] [] M
    else am_ev am_PP nX5_sourceGoesOn 1 [l0] [] M := (am_blk am_PP _ _ _ _ _).trans rfl
theorem be_X5_sourceGoesOn_1 (M : am_M) (l0 : Int) : am_ev am_PP nX5_sourceGoesOn 1 [l0] [] M =
    (am_gf 5 3 M l0).bind fun v1 =>
    (am_gf 5 11 M l0).bind fun v2 =>
    if 0 < v1 ∧ am_cls v1 = 3 then
    (am_evm am_PP nX3_at [(2, v1), (0, v2)] M).bind fun q3 =>
    if 0 < l0 ∧ am_cls l0 = 5 then
    (am_evm am_PP nX5_toWrite [(2, l0), (0, 0), (1, q3.1)] q3.2).bind fun q4 =>
    (am_gf 5 11 q4.2 l0).bind fun v5 =>
    (am_pf 5 11 0 q4.2 l0 (am_w32 (v5 + 1))).bind fun M1 =>
    am_ev am_PP nX5_sourceGoesOn 3 [] [] M1
    else none
    else none := (am_blk am_PP _ _ _ _ _).trans rfl
theorem be_X5_sourceGoesOn_2 (M : am_M) (l0 : Int) : am_ev am_PP nX5_sourceGoesOn 2 [l0] [] M =
    (am_pf 5 8 0 M l0 2).bind fun M1 =>
    am_ev am_PP nX5_sourceGoesOn 3 [] [] M1 := (am_blk am_PP _ _ _ _ _).trans rfl
theorem be_X5_sourceGoesOn_3 (M : am_M) : am_ev am_PP nX5_sourceGoesOn 3 [] [] M =
    some (0, M) := (am_blk am_PP _ _ _ _ _).trans rfl
theorem be_X5_repeatGoesOn_m (M : am_M) (a0 a1 : Int) : am_evm am_PP nX5_repeatGoesOn [(2, a0), (1, a1)] M = am_ev am_PP nX5_repeatGoesOn 0 [a0, a1] [] M := rfl
theorem be_X5_repeatGoesOn_0 (M : am_M) (l0 l1 : Int) : am_ev am_PP nX5_repeatGoesOn 0 [l0, l1] [] M =
    (am_gf 5 11 M l0).bind fun v1 =>
    bif decide (v1 ≤ 0) then am_ev am_PP nX5_repeatGoesOn 2 [l0] [] M
    else am_ev am_PP nX5_repeatGoesOn 1 [l0, l1] [] M := (am_blk am_PP _ _ _ _ _).trans rfl
theorem be_X5_repeatGoesOn_1 (M : am_M) (l0 l1 : Int) : am_ev am_PP nX5_repeatGoesOn 1 [l0, l1] [] M =
    if 0 < l0 ∧ am_cls l0 = 5 then
    (am_evm am_PP nX5_toWrite [(2, l0), (0, 0), (1, l1)] M).bind fun q1 =>
    am_ev am_PP nX5_repeatGoesOn 3 [] [] q1.2
    else none := (am_blk am_PP _ _ _ _ _).trans rfl
theorem be_X5_repeatGoesOn_2 (M : am_M) (l0 : Int) : am_ev am_PP nX5_repeatGoesOn 2 [l0] [] M =
    if 0 < l0 ∧ am_cls l0 = 5 then
    (am_evm am_PP nX5_toRead [(2, l0), (0, 0)] M).bind fun q1 =>
    am_ev am_PP nX5_repeatGoesOn 3 [] [] q1.2
    else none := (am_blk am_PP _ _ _ _ _).trans rfl
theorem be_X5_repeatGoesOn_3 (M : am_M) : am_ev am_PP nX5_repeatGoesOn 3 [] [] M =
    some (0, M) := (am_blk am_PP _ _ _ _ _).trans rfl
theorem be_X5_mergeGoesOn_m (M : am_M) (a0 : Int) : am_evm am_PP nX5_mergeGoesOn [(2, a0)] M = am_ev am_PP nX5_mergeGoesOn 0 [a0] [] M := rfl
theorem be_X5_mergeGoesOn_0 (M : am_M) (l0 : Int) : am_ev am_PP nX5_mergeGoesOn 0 [l0] [] M =
    (am_gf 5 4 M l0).bind fun v1 =>
    if 0 < v1 ∧ am_cls v1 = 1 then
    (am_evm am_PP nX1_portToRead [(2, v1)] M).bind fun q2 =>
    (am_gf 5 4 q2.2 l0).bind fun v3 =>
    if 0 < v3 ∧ am_cls v3 = 1 then
    (am_evm am_PP nX1_portOfLesser [(2, v3)] q2.2).bind fun q4 =>
    bif decide (q2.1 = (-5)) then am_ev am_PP nX5_mergeGoesOn 2 [l0, q4.1] [] q4.2
    else am_ev am_PP nX5_mergeGoesOn 1 [l0, q2.1] [] q4.2
    else none
    else none := (am_blk am_PP _ _ _ _ _).trans rfl
theorem be_X5_mergeGoesOn_1 (M : am_M) (l0 l1 : Int) : am_ev am_PP nX5_mergeGoesOn 1 [l0, l1] [] M =
    if 0 < l0 ∧ am_cls l0 = 5 then
    (am_evm am_PP nX5_toRead [(2, l0), (0, l1)] M).bind fun q1 =>
    am_ev am_PP nX5_mergeGoesOn 5 [] [] q1.2
    else none := (am_blk am_PP _ _ _ _ _).trans rfl
theorem be_X5_mergeGoesOn_2 (M : am_M) (l0 l2 : Int) : am_ev am_PP nX5_mergeGoesOn 2 [l0, l2] [] M =
    bif decide (l2 = (-5)) then am_ev am_PP nX5_mergeGoesOn 4 [l0] [] M
    else am_ev am_PP nX5_mergeGoesOn 3 [l0, l2] [] M := (am_blk am_PP _ _ _ _ _).trans rfl
theorem be_X5_mergeGoesOn_3 (M : am_M) (l0 l2 : Int) : am_ev am_PP nX5_mergeGoesOn 3 [l0, l2] [] M =
    (am_gf 5 4 M l0).bind fun v1 =>
    if 0 < v1 ∧ am_cls v1 = 1 then
    (am_evm am_PP nX1_giveOf [(2, v1), (0, l2)] M).bind fun q2 =>
    if 0 < l0 ∧ am_cls l0 = 5 then
    (am_evm am_PP nX5_toWrite [(2, l0), (0, 0), (1, q2.1)] q2.2).bind fun q3 =>
    am_ev am_PP nX5_mergeGoesOn 5 [] [] q3.2
    else none
    else none := (am_blk am_PP _ _ _ _ _).trans rfl
theorem be_X5_mergeGoesOn_4 (M : am_M) (l0 : Int) : am_ev am_PP nX5_mergeGoesOn 4 [l0] [] M =
    (am_pf 5 8 0 M l0 2).bind fun M1 =>
    am_ev am_PP nX5_mergeGoesOn 5 [] [] M1 := (am_blk am_PP _ _ _ _ _).trans rfl
theorem be_X5_mergeGoesOn_5 (M : am_M) : am_ev am_PP nX5_mergeGoesOn 5 [] [] M =
    some (0, M) := (am_blk am_PP _ _ _ _ _).trans rfl
theorem be_X5_sumGoesOn_m (M : am_M) (a0 a1 : Int) : am_evm am_PP nX5_sumGoesOn [(2, a0), (1, a1)] M = am_ev am_PP nX5_sumGoesOn 0 [a0, a1] [] M := rfl
theorem be_X5_sumGoesOn_0 (M : am_M) (l0 l1 : Int) : am_ev am_PP nX5_sumGoesOn 0 [l0, l1] [] M =
    (am_gf 5 9 M l0).bind fun v1 =>
    bif !(decide (v1 = 0)) then am_ev am_PP nX5_sumGoesOn 2 [l0, l1] [] M
    else am_ev am_PP nX5_sumGoesOn 1 [l0, l1] [] M := (am_blk am_PP _ _ _ _ _).trans rfl
theorem be_X5_sumGoesOn_1 (M : am_M) (l0 l1 : Int) : am_ev am_PP nX5_sumGoesOn 1 [l0, l1] [] M =
    (am_pf 5 10 0 M l0 l1).bind fun M1 =>
    if 0 < l0 ∧ am_cls l0 = 5 then
    (am_evm am_PP nX5_toRead [(2, l0), (0, 1)] M1).bind fun q1 =>
    am_ev am_PP nX5_sumGoesOn 3 [] [] q1.2
    else none := (am_blk am_PP _ _ _ _ _).trans rfl
theorem be_X5_sumGoesOn_2 (M : am_M) (l0 l1 : Int) : am_ev am_PP nX5_sumGoesOn 2 [l0, l1] [] M =
    (am_gf 5 10 M l0).bind fun v1 =>
    if 0 < l0 ∧ am_cls l0 = 5 then
    (am_evm am_PP nX5_toWrite [(2, l0), (0, 0), (1, (am_w64 (v1 + l1)))] M).bind fun q2 =>
    am_ev am_PP nX5_sumGoesOn 3 [] [] q2.2
    else none := (am_blk am_PP _ _ _ _ _).trans rfl
theorem be_X5_sumGoesOn_3 (M : am_M) : am_ev am_PP nX5_sumGoesOn 3 [] [] M =
    some (0, M) := (am_blk am_PP _ _ _ _ _).trans rfl
theorem be_X5_selectGoesOn_m (M : am_M) (a0 a1 : Int) : am_evm am_PP nX5_selectGoesOn [(2, a0), (1, a1)] M = am_ev am_PP nX5_selectGoesOn 0 [a0, a1] [] M := rfl
theorem be_X5_selectGoesOn_0 (M : am_M) (l0 l1 : Int) : am_ev am_PP nX5_selectGoesOn 0 [l0, l1] [] M =
    (am_gf 5 9 M l0).bind fun v1 =>
    bif !(decide (v1 = 0)) then am_ev am_PP nX5_selectGoesOn 5 [l0, l1] [] M
    else am_ev am_PP nX5_selectGoesOn 1 [l0, l1] [] M := (am_blk am_PP _ _ _ _ _).trans rfl
theorem be_X5_selectGoesOn_1 (M : am_M) (l0 l1 : Int) : am_ev am_PP nX5_selectGoesOn 1 [l0, l1] [] M =
    bif !(decide ((am_lcmp l1 0) = 0)) then am_ev am_PP nX5_selectGoesOn 3 [] [(2, l0)] M
    else am_ev am_PP nX5_selectGoesOn 2 [] [(2, l0)] M := (am_blk am_PP _ _ _ _ _).trans rfl
theorem be_X5_selectGoesOn_2 (M : am_M) (s0 : Int) : am_ev am_PP nX5_selectGoesOn 2 [] [(2, s0)] M =
    am_ev am_PP nX5_selectGoesOn 4 [] [(0, 1), (2, s0)] M := (am_blk am_PP _ _ _ _ _).trans rfl
theorem be_X5_selectGoesOn_3 (M : am_M) (s0 : Int) : am_ev am_PP nX5_selectGoesOn 3 [] [(2, s0)] M =
    am_ev am_PP nX5_selectGoesOn 4 [] [(0, 2), (2, s0)] M := (am_blk am_PP _ _ _ _ _).trans rfl
theorem be_X5_selectGoesOn_4 (M : am_M) (s0 s1 : Int) : am_ev am_PP nX5_selectGoesOn 4 [] [(0, s1), (2, s0)] M =
    if 0 < s0 ∧ am_cls s0 = 5 then
    (am_evm am_PP nX5_toRead [(2, s0), (0, s1)] M).bind fun q1 =>
    am_ev am_PP nX5_selectGoesOn 6 [] [] q1.2
    else none := (am_blk am_PP _ _ _ _ _).trans rfl
theorem be_X5_selectGoesOn_5 (M : am_M) (l0 l1 : Int) : am_ev am_PP nX5_selectGoesOn 5 [l0, l1] [] M =
    if 0 < l0 ∧ am_cls l0 = 5 then
    (am_evm am_PP nX5_toWrite [(2, l0), (0, 0), (1, l1)] M).bind fun q1 =>
    am_ev am_PP nX5_selectGoesOn 6 [] [] q1.2
    else none := (am_blk am_PP _ _ _ _ _).trans rfl
theorem be_X5_selectGoesOn_6 (M : am_M) : am_ev am_PP nX5_selectGoesOn 6 [] [] M =
    some (0, M) := (am_blk am_PP _ _ _ _ _).trans rfl
theorem be_X5_copyGoesOn_m (M : am_M) (a0 : Int) : am_evm am_PP nX5_copyGoesOn [(2, a0)] M = am_ev am_PP nX5_copyGoesOn 0 [a0] [] M := rfl
theorem be_X5_copyGoesOn_0 (M : am_M) (l0 : Int) : am_ev am_PP nX5_copyGoesOn 0 [l0] [] M =
    (am_gf 5 9 M l0).bind fun v1 =>
    bif !(decide (v1 = 0)) then am_ev am_PP nX5_copyGoesOn 2 [l0] [] M
    else am_ev am_PP nX5_copyGoesOn 1 [l0] [] M := (am_blk am_PP _ _ _ _ _).trans rfl
theorem be_X5_copyGoesOn_1 (M : am_M) (l0 : Int) : am_ev am_PP nX5_copyGoesOn 1 [l0] [] M =
    (am_gf 5 10 M l0).bind fun v1 =>
    if 0 < l0 ∧ am_cls l0 = 5 then
    (am_evm am_PP nX5_toWrite [(2, l0), (0, 1), (1, v1)] M).bind fun q2 =>
    am_ev am_PP nX5_copyGoesOn 3 [] [] q2.2
    else none := (am_blk am_PP _ _ _ _ _).trans rfl
theorem be_X5_copyGoesOn_2 (M : am_M) (l0 : Int) : am_ev am_PP nX5_copyGoesOn 2 [l0] [] M =
    if 0 < l0 ∧ am_cls l0 = 5 then
    (am_evm am_PP nX5_toRead [(2, l0), (0, 0)] M).bind fun q1 =>
    am_ev am_PP nX5_copyGoesOn 3 [] [] q1.2
    else none := (am_blk am_PP _ _ _ _ _).trans rfl
theorem be_X5_copyGoesOn_3 (M : am_M) : am_ev am_PP nX5_copyGoesOn 3 [] [] M =
    some (0, M) := (am_blk am_PP _ _ _ _ _).trans rfl
theorem be_X5_sortGoesOn_m (M : am_M) (a0 a1 : Int) : am_evm am_PP nX5_sortGoesOn [(2, a0), (0, a1)] M = am_ev am_PP nX5_sortGoesOn 0 [a0, a1] [] M := rfl
theorem be_X5_sortGoesOn_0 (M : am_M) (l0 l1 : Int) : am_ev am_PP nX5_sortGoesOn 0 [l0, l1] [] M =
    bif !(decide (l1 = 0)) then am_ev am_PP nX5_sortGoesOn 2 [l0] [] M
    else am_ev am_PP nX5_sortGoesOn 1 [l0] [] M := (am_blk am_PP _ _ _ _ _).trans rfl
theorem be_X5_sortGoesOn_1 (M : am_M) (l0 : Int) : am_ev am_PP nX5_sortGoesOn 1 [l0] [] M =
    if 0 < l0 ∧ am_cls l0 = 5 then
    (am_evm am_PP nX5_toRead [(2, l0), (0, 0)] M).bind fun q1 =>
    am_ev am_PP nX5_sortGoesOn 5 [] [] q1.2
    else none := (am_blk am_PP _ _ _ _ _).trans rfl
theorem be_X5_sortGoesOn_2 (M : am_M) (l0 : Int) : am_ev am_PP nX5_sortGoesOn 2 [l0] [] M =
    (am_gf 5 4 M l0).bind fun v1 =>
    (am_gf 1 3 M v1).bind fun v2 =>
    bif decide (v2 ≤ 0) then am_ev am_PP nX5_sortGoesOn 4 [l0] [] M
    else am_ev am_PP nX5_sortGoesOn 3 [l0] [] M := (am_blk am_PP _ _ _ _ _).trans rfl
theorem be_X5_sortGoesOn_3 (M : am_M) (l0 : Int) : am_ev am_PP nX5_sortGoesOn 3 [l0] [] M =
    (am_gf 5 4 M l0).bind fun v1 =>
    if 0 < v1 ∧ am_cls v1 = 1 then
    (am_evm am_PP nX1_giveLeast [(2, v1)] M).bind fun q2 =>
    if 0 < l0 ∧ am_cls l0 = 5 then
    (am_evm am_PP nX5_toWrite [(2, l0), (0, 0), (1, q2.1)] q2.2).bind fun q3 =>
    am_ev am_PP nX5_sortGoesOn 5 [] [] q3.2
    else none
    else none := (am_blk am_PP _ _ _ _ _).trans rfl
theorem be_X5_sortGoesOn_4 (M : am_M) (l0 : Int) : am_ev am_PP nX5_sortGoesOn 4 [l0] [] M =
    (am_pf 5 8 0 M l0 2).bind fun M1 =>
    am_ev am_PP nX5_sortGoesOn 5 [] [] M1 := (am_blk am_PP _ _ _ _ _).trans rfl
theorem be_X5_sortGoesOn_5 (M : am_M) : am_ev am_PP nX5_sortGoesOn 5 [] [] M =
    some (0, M) := (am_blk am_PP _ _ _ _ _).trans rfl
theorem be_X5_tearGoesOn_m (M : am_M) (a0 : Int) : am_evm am_PP nX5_tearGoesOn [(2, a0)] M = am_ev am_PP nX5_tearGoesOn 0 [a0] [] M := rfl
theorem be_X5_tearGoesOn_0 (M : am_M) (l0 : Int) : am_ev am_PP nX5_tearGoesOn 0 [l0] [] M =
    (am_gf 5 12 M l0).bind fun v1 =>
    (am_gf 5 7 M l0).bind fun v2 =>
    bif decide (v1 < v2) then am_ev am_PP nX5_tearGoesOn 2 [l0] [] M
    else am_ev am_PP nX5_tearGoesOn 1 [l0] [] M := (am_blk am_PP _ _ _ _ _).trans rfl
theorem be_X5_tearGoesOn_1 (M : am_M) (l0 : Int) : am_ev am_PP nX5_tearGoesOn 1 [l0] [] M =
    if 0 < l0 ∧ am_cls l0 = 5 then
    (am_evm am_PP nX5_toFail [(2, l0), (0, 1)] M).bind fun q1 =>
    am_ev am_PP nX5_tearGoesOn 3 [] [] q1.2
    else none := (am_blk am_PP _ _ _ _ _).trans rfl
theorem be_X5_tearGoesOn_2 (M : am_M) (l0 : Int) : am_ev am_PP nX5_tearGoesOn 2 [l0] [] M =
    if 0 < l0 ∧ am_cls l0 = 5 then
    (am_evm am_PP nX5_toRead [(2, l0), (0, 0)] M).bind fun q1 =>
    am_ev am_PP nX5_tearGoesOn 3 [] [] q1.2
    else none := (am_blk am_PP _ _ _ _ _).trans rfl
theorem be_X5_tearGoesOn_3 (M : am_M) : am_ev am_PP nX5_tearGoesOn 3 [] [] M =
    some (0, M) := (am_blk am_PP _ _ _ _ _).trans rfl
theorem be_X5_askScript_m (M : am_M) (a0 : Int) : am_evm am_PP nX5_askScript [(2, a0)] M = am_ev am_PP nX5_askScript 0 [a0] [] M := rfl
theorem be_X5_askScript_0 (M : am_M) (l0 : Int) : am_ev am_PP nX5_askScript 0 [l0] [] M =
    (am_gf 5 8 M l0).bind fun v1 =>
    bif decide (v1 = 6) then am_ev am_PP nX5_askScript 2 [l0] [] M
    else am_ev am_PP nX5_askScript 1 [] [] M := (am_blk am_PP _ _ _ _ _).trans rfl
theorem be_X5_askScript_1 (M : am_M) : am_ev am_PP nX5_askScript 1 [] [] M =
    some (0, M) := (am_blk am_PP _ _ _ _ _).trans rfl
theorem be_X5_askScript_2 (M : am_M) (l0 : Int) : am_ev am_PP nX5_askScript 2 [l0] [] M =
    (am_gf 5 5 M l0).bind fun v1 =>
    if 0 < v1 ∧ am_cls v1 = 4 then
    (am_evm am_PP nX4_nextAct [(2, v1)] M).bind fun q2 =>
    bif decide (q2.1 = 0) then am_ev am_PP nX5_askScript 3 [l0] [] q2.2 else
    bif decide (q2.1 = 1) then am_ev am_PP nX5_askScript 4 [l0] [] q2.2 else
    bif decide (q2.1 = 2) then am_ev am_PP nX5_askScript 7 [l0] [] q2.2 else
    bif decide (q2.1 = 3) then am_ev am_PP nX5_askScript 7 [l0] [] q2.2 else
    bif decide (q2.1 = 4) then am_ev am_PP nX5_askScript 7 [l0] [] q2.2 else
    bif decide (q2.1 = 5) then am_ev am_PP nX5_askScript 7 [l0] [] q2.2 else
    bif decide (q2.1 = 6) then am_ev am_PP nX5_askScript 3 [l0] [] q2.2 else
    bif decide (q2.1 = 7) then am_ev am_PP nX5_askScript 5 [l0] [] q2.2 else
    bif decide (q2.1 = 8) then am_ev am_PP nX5_askScript 7 [l0] [] q2.2 else
    bif decide (q2.1 = 9) then am_ev am_PP nX5_askScript 6 [l0] [] q2.2 else
    am_ev am_PP nX5_askScript 7 [l0] [] q2.2
    else none := (am_blk am_PP _ _ _ _ _).trans rfl
theorem be_X5_askScript_3 (M : am_M) (l0 : Int) : am_ev am_PP nX5_askScript 3 [l0] [] M =
    (am_gf 5 5 M l0).bind fun v1 =>
    if 0 < v1 ∧ am_cls v1 = 4 then
    (am_evm am_PP nX4_portNow [(2, v1)] M).bind fun q2 =>
    if 0 < l0 ∧ am_cls l0 = 5 then
    (am_evm am_PP nX5_toRead [(2, l0), (0, q2.1)] q2.2).bind fun q3 =>
    am_ev am_PP nX5_askScript 8 [] [] q3.2
    else none
    else none := (am_blk am_PP _ _ _ _ _).trans rfl
theorem be_X5_askScript_4 (M : am_M) (l0 : Int) : am_ev am_PP nX5_askScript 4 [l0] [] M =
    (am_gf 5 5 M l0).bind fun v1 =>
    if 0 < v1 ∧ am_cls v1 = 4 then
    (am_evm am_PP nX4_portNow [(2, v1)] M).bind fun q2 =>
    (am_gf 5 5 q2.2 l0).bind fun v3 =>
    if 0 < v3 ∧ am_cls v3 = 4 then
    (am_evm am_PP nX4_registerNow [(2, v3)] q2.2).bind fun q4 =>
    if 0 < l0 ∧ am_cls l0 = 5 then
    (am_evm am_PP nX5_toWrite [(2, l0), (0, q2.1), (1, q4.1)] q4.2).bind fun q5 =>
    am_ev am_PP nX5_askScript 8 [] [] q5.2
    else none
    else none
    else none := (am_blk am_PP _ _ _ _ _).trans rfl
theorem be_X5_askScript_5 (M : am_M) (l0 : Int) : am_ev am_PP nX5_askScript 5 [l0] [] M =
    if 0 < l0 ∧ am_cls l0 = 5 then
    (am_evm am_PP nX5_toFail [(2, l0), (0, 2)] M).bind fun q1 =>
    am_ev am_PP nX5_askScript 8 [] [] q1.2
    else none := (am_blk am_PP _ _ _ _ _).trans rfl
theorem be_X5_askScript_6 (M : am_M) (l0 : Int) : am_ev am_PP nX5_askScript 6 [l0] [] M =
    if 0 < l0 ∧ am_cls l0 = 5 then
    (am_evm am_PP nX5_toFail [(2, l0), (0, 3)] M).bind fun q1 =>
    am_ev am_PP nX5_askScript 8 [] [] q1.2
    else none := (am_blk am_PP _ _ _ _ _).trans rfl
theorem be_X5_askScript_7 (M : am_M) (l0 : Int) : am_ev am_PP nX5_askScript 7 [l0] [] M =
    (am_pf 5 8 0 M l0 2).bind fun M1 =>
    am_ev am_PP nX5_askScript 8 [] [] M1 := (am_blk am_PP _ _ _ _ _).trans rfl
theorem be_X5_askScript_8 (M : am_M) : am_ev am_PP nX5_askScript 8 [] [] M =
    some (0, M) := (am_blk am_PP _ _ _ _ _).trans rfl
theorem be_X6_init_m (M : am_M) (a0 : Int) : am_evm am_PP nX6_init [(2, a0)] M = am_ev am_PP nX6_init 0 [a0] [] M := rfl
theorem be_X6_init_0 (M : am_M) (l0 : Int) : am_ev am_PP nX6_init 0 [l0] [] M =
    if l0 = 0 then none else
    (am_newa 3 40 M 50).bind fun M1 =>
    (am_pf 6 0 0 M1 l0 50).bind fun M2 =>
    (am_newa 4 60 M2 51).bind fun M3 =>
    (am_pf 6 1 0 M3 l0 51).bind fun M4 =>
    (am_newa 0 100 M4 52).bind fun M5 =>
    (am_pf 6 2 0 M5 l0 52).bind fun M6 =>
    (am_newo 2 M6 12).bind fun M7 =>
    if 12 = 0 then none else
    (am_evm am_PP nX2_init [(2, 12)] M7).bind fun q1 =>
    (am_pf 6 3 0 q1.2 l0 12).bind fun M8 =>
    some (0, M8) := (am_blk am_PP _ _ _ _ _).trans rfl
theorem be_X6_weaver_m (M : am_M) (a0 a1 a2 : Int) : am_evm am_PP nX6_weaver [(2, a0), (0, a1), (0, a2)] M = am_ev am_PP nX6_weaver 0 [a0, a1, a2] [] M := rfl
theorem be_X6_weaver_0 (M : am_M) (l0 l1 l2 : Int) : am_ev am_PP nX6_weaver 0 [l0, l1, l2] [] M =
    bif decide (l1 < 0) then am_ev am_PP nX6_weaver 3 [] [] M
    else am_ev am_PP nX6_weaver 1 [l0, l1, l2] [] M := (am_blk am_PP _ _ _ _ _).trans rfl
theorem be_X6_weaver_1 (M : am_M) (l0 l1 l2 : Int) : am_ev am_PP nX6_weaver 1 [l0, l1, l2] [] M =
    bif decide (13 < l1) then am_ev am_PP nX6_weaver 3 [] [] M
    else am_ev am_PP nX6_weaver 2 [l0, l1, l2] [] M := (am_blk am_PP _ _ _ _ _).trans rfl
theorem be_X6_weaver_2 (M : am_M) (l0 l1 l2 : Int) : am_ev am_PP nX6_weaver 2 [l0, l1, l2] [] M =
    (am_evm am_PP nX6_suits [(0, l1), (0, l2)] M).bind fun q1 =>
    bif !(decide (q1.1 = 0)) then am_ev am_PP nX6_weaver 4 [l0, l1, l2] [] q1.2
    else am_ev am_PP nX6_weaver 3 [] [] q1.2 := (am_blk am_PP _ _ _ _ _).trans rfl
theorem be_X6_weaver_3 (M : am_M) : am_ev am_PP nX6_weaver 3 [] [] M =
    some ((-1), M) := (am_blk am_PP _ _ _ _ _).trans rfl
theorem be_X6_weaver_4 (M : am_M) (l0 l1 l2 : Int) : am_ev am_PP nX6_weaver 4 [l0, l1, l2] [] M =
    (am_gf 6 9 M l0).bind fun v1 =>
    bif decide (v1 = 0) then am_ev am_PP nX6_weaver 6 [l0, l1, l2] [] M
    else am_ev am_PP nX6_weaver 5 [] [] M := (am_blk am_PP _ _ _ _ _).trans rfl
theorem be_X6_weaver_5 (M : am_M) : am_ev am_PP nX6_weaver 5 [] [] M =
    some ((-2), M) := (am_blk am_PP _ _ _ _ _).trans rfl
theorem be_X6_weaver_6 (M : am_M) (l0 l1 l2 : Int) : am_ev am_PP nX6_weaver 6 [l0, l1, l2] [] M =
    (am_gf 6 4 M l0).bind fun v1 =>
    bif decide (v1 < 40) then am_ev am_PP nX6_weaver 8 [l0, l1, l2] [] M
    else am_ev am_PP nX6_weaver 7 [] [] M := (am_blk am_PP _ _ _ _ _).trans rfl
theorem be_X6_weaver_7 (M : am_M) : am_ev am_PP nX6_weaver 7 [] [] M =
    some ((-3), M) := (am_blk am_PP _ _ _ _ _).trans rfl
theorem be_X6_weaver_8 (M : am_M) (l0 l1 l2 : Int) : am_ev am_PP nX6_weaver 8 [l0, l1, l2] [] M =
    (am_gf 6 0 M l0).bind fun v1 =>
    (am_gf 6 4 M l0).bind fun v2 =>
    (am_ald 3 M v1 v2).bind fun v3 =>
    bif !(decide (v3 = 0)) then am_ev am_PP nX6_weaver 10 [l0, l1, l2, v3] [] M
    else am_ev am_PP nX6_weaver 9 [l0, l1, l2] [] M := (am_blk am_PP _ _ _ _ _).trans rfl
theorem be_X6_weaver_9 (M : am_M) (l0 l1 l2 : Int) : am_ev am_PP nX6_weaver 9 [l0, l1, l2] [] M =
    (am_newo 5 M (15 + 256 * M 16 4)).bind fun M1 =>
    (am_gf 6 4 M1 l0).bind fun v1 =>
    if (15 + 256 * M 16 4) = 0 then none else
    (am_evm am_PP nX5_init [(2, (15 + 256 * M 16 4)), (0, v1)] M1).bind fun q2 =>
    (am_gf 6 0 q2.2 l0).bind fun v3 =>
    (am_gf 6 4 q2.2 l0).bind fun v4 =>
    (am_ast 3 q2.2 v3 v4 (15 + 256 * M 16 4)).bind fun M2 =>
    am_ev am_PP nX6_weaver 10 [l0, l1, l2, (15 + 256 * M 16 4)] [] M2 := (am_blk am_PP _ _ _ _ _).trans rfl
set_option maxRecDepth 100000 in
set_option maxHeartbeats 8000000 in
theorem be_X6_weaver_10 (M : am_M) (l0 l1 l2 l3 : Int) : am_ev am_PP nX6_weaver 10 [l0, l1, l2, l3] [] M =
    if 0 < l3 ∧ am_cls l3 = 5 then
    (am_evm am_PP nX5_become [(2, l3), (0, l1), (0, l2)] M).bind fun q1 =>
    (am_gf 6 6 q1.2 l0).bind fun v2 =>
    (am_ald 0 q1.2 2 l1).bind fun v3 =>
    (am_ald 0 q1.2 3 l1).bind fun v4 =>
    (am_pf 6 6 0 q1.2 l0 (am_w32 (v2 + (am_w32 (v3 + v4))))).bind fun M1 =>
    (am_gf 6 4 M1 l0).bind fun v5 =>
    (am_pf 6 4 0 M1 l0 (am_w32 (v5 + 1))).bind fun M2 =>
    (am_gf 5 0 M2 l3).bind fun v6 =>
    some (v6, M2)
    else none := (am_blk am_PP _ _ _ _ _).trans rfl
theorem be_X6_feed_m (M : am_M) (a0 a1 a2 : Int) : am_evm am_PP nX6_feed [(2, a0), (0, a1), (1, a2)] M = am_ev am_PP nX6_feed 0 [a0, a1, a2] [] M := rfl
theorem be_X6_feed_0 (M : am_M) (l0 l1 l2 : Int) : am_ev am_PP nX6_feed 0 [l0, l1, l2] [] M =
    if 0 < l0 ∧ am_cls l0 = 6 then
    (am_evm am_PP nX6_weaverAt [(2, l0), (0, l1)] M).bind fun q1 =>
    bif decide (q1.1 = 0) then am_ev am_PP nX6_feed 2 [] [] q1.2
    else am_ev am_PP nX6_feed 1 [l0, l2, q1.1] [] q1.2
    else none := (am_blk am_PP _ _ _ _ _).trans rfl
theorem be_X6_feed_1 (M : am_M) (l0 l2 l4 : Int) : am_ev am_PP nX6_feed 1 [l0, l2, l4] [] M =
    (am_gf 5 6 M l4).bind fun v1 =>
    bif decide (v1 = 0) then am_ev am_PP nX6_feed 3 [l0, l2, l4] [] M
    else am_ev am_PP nX6_feed 2 [] [] M := (am_blk am_PP _ _ _ _ _).trans rfl
theorem be_X6_feed_2 (M : am_M) : am_ev am_PP nX6_feed 2 [] [] M =
    some ((-1), M) := (am_blk am_PP _ _ _ _ _).trans rfl
theorem be_X6_feed_3 (M : am_M) (l0 l2 l4 : Int) : am_ev am_PP nX6_feed 3 [l0, l2, l4] [] M =
    (am_gf 6 9 M l0).bind fun v1 =>
    bif decide (v1 = 0) then am_ev am_PP nX6_feed 5 [l2, l4] [] M
    else am_ev am_PP nX6_feed 4 [] [] M := (am_blk am_PP _ _ _ _ _).trans rfl
theorem be_X6_feed_4 (M : am_M) : am_ev am_PP nX6_feed 4 [] [] M =
    some ((-2), M) := (am_blk am_PP _ _ _ _ _).trans rfl
theorem be_X6_feed_5 (M : am_M) (l2 l4 : Int) : am_ev am_PP nX6_feed 5 [l2, l4] [] M =
    (am_gf 5 3 M l4).bind fun v1 =>
    (am_gf 3 1 M v1).bind fun v2 =>
    bif decide (v2 < 200) then am_ev am_PP nX6_feed 7 [l2, l4] [] M
    else am_ev am_PP nX6_feed 6 [] [] M := (am_blk am_PP _ _ _ _ _).trans rfl
