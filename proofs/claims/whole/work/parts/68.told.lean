/-! told -/
theorem cl_waits {C R : am_M} {h V : Int → Int → Int} {t : Int → Int} {w : Int} (H : RR C R h V t) (w0 : 0 ≤ w) (w1 : w < R 17 0) : am_evm am_PP nX5_waits [(2, 15 + 256 * w)] C = some (if dgr C R w = 1 ∨ dgr C R w = 2 then 1 else 0, C) := by
  have hd := cl_doing H w0 w1
  generalize dgr C R w = g at hd
  by_cases c1 : g = 1
  · rw [if_pos (Or.inl c1)]
    subst c1
    simp (disch := omega) only [be_X5_waits_m, be_X5_waits_0, be_X5_waits_2, be_X5_waits_4, Option.bind_some, cond_true, cond_false, decide_true, decide_false, Bool.not_true, Bool.not_false, ite_true, ite_false, and_self, true_and, and_true, or_self, true_or, or_true, false_or, or_false, decide_eq_true_eq, Int.reduceAdd, Int.reduceSub, Int.reduceMul, Int.reduceNeg, Int.reduceEq, Int.reduceLT, Int.reduceLE, Int.reduceNe, lcmp_z, lcmp_le, lcmp_ge, lcmp_lt, lcmp_gt, decide_eq_true, decide_eq_false, if_pos, if_neg, cls_15, pos_15, hd]
  · by_cases c2 : g = 2
    · rw [if_pos (Or.inr c2)]
      subst c2
      simp (disch := omega) only [be_X5_waits_m, be_X5_waits_0, be_X5_waits_1, be_X5_waits_2, be_X5_waits_4, Option.bind_some, cond_true, cond_false, decide_true, decide_false, Bool.not_true, Bool.not_false, ite_true, ite_false, and_self, true_and, and_true, or_self, true_or, or_true, false_or, or_false, decide_eq_true_eq, Int.reduceAdd, Int.reduceSub, Int.reduceMul, Int.reduceNeg, Int.reduceEq, Int.reduceLT, Int.reduceLE, Int.reduceNe, lcmp_z, lcmp_le, lcmp_ge, lcmp_lt, lcmp_gt, decide_eq_true, decide_eq_false, if_pos, if_neg, cls_15, pos_15, hd]
    · rw [if_neg (by omega)]
      simp (disch := omega) only [be_X5_waits_m, be_X5_waits_0, be_X5_waits_1, be_X5_waits_3, be_X5_waits_4, Option.bind_some, cond_true, cond_false, decide_true, decide_false, Bool.not_true, Bool.not_false, ite_true, ite_false, and_self, true_and, and_true, or_self, true_or, or_true, false_or, or_false, decide_eq_true_eq, Int.reduceAdd, Int.reduceSub, Int.reduceMul, Int.reduceNeg, Int.reduceEq, Int.reduceLT, Int.reduceLE, Int.reduceNe, lcmp_z, lcmp_le, lcmp_ge, lcmp_lt, lcmp_gt, decide_eq_true, decide_eq_false, if_pos, if_neg, cls_15, pos_15, hd]
/-- what a weaver has in stock -/
def stk (R : am_M) (w : Int) (n9 : Int) : Int := if R 309 w = 9 then n9 else if R 309 w = 0 then R 821 w else if R 309 w = 13 then R 1077 w else 0
theorem cl_stock {C R : am_M} {w n9 : Int} (w0 : 0 ≤ w) (hs : sw C R w) (h9 : R 309 w = 9 → C (20 + 256 * w) 1 = n9) : am_evm am_PP nX5_stock [(2, 15 + 256 * w)] C = some (stk R w n9, C) := by
  obtain ⟨⟨-, -, -, c3, -, c5, -⟩, hk, -, -, -, -, -, -, -, a0, a13, -⟩ := hs
  unfold stk
  by_cases k9 : R 309 w = 9
  · rw [if_pos k9]
    have z := h9 k9
    clear h9 a0 a13
    simp (disch := omega) only [be_X5_stock_m, be_X5_stock_0, be_X5_stock_1, Option.bind_some, cond_true, cond_false, decide_true, decide_false, Bool.not_true, Bool.not_false, ite_true, ite_false, and_self, true_and, and_true, or_self, true_or, or_true, false_or, or_false, decide_eq_true_eq, Int.reduceAdd, Int.reduceSub, Int.reduceMul, Int.reduceNeg, Int.reduceEq, Int.reduceLT, Int.reduceLE, Int.reduceNe, lcmp_z, lcmp_le, lcmp_ge, lcmp_lt, lcmp_gt, decide_eq_true, decide_eq_false, if_pos, if_neg, gf_15, gf_20, hk, k9, c3, z]
  · rw [if_neg k9]
    clear h9
    by_cases k0 : R 309 w = 0
    · rw [if_pos k0]
      have z := (row_len (a0 k0).1).1
      clear a0 a13
      simp (disch := omega) only [be_X5_stock_m, be_X5_stock_0, be_X5_stock_1, Option.bind_some, cond_true, cond_false, decide_true, decide_false, Bool.not_true, Bool.not_false, ite_true, ite_false, and_self, true_and, and_true, or_self, true_or, or_true, false_or, or_false, decide_eq_true_eq, Int.reduceAdd, Int.reduceSub, Int.reduceMul, Int.reduceNeg, Int.reduceEq, Int.reduceLT, Int.reduceLE, Int.reduceNe, lcmp_z, lcmp_le, lcmp_ge, lcmp_lt, lcmp_gt, decide_eq_true, decide_eq_false, if_pos, if_neg, gf_15, gf_20, hk, k0, c3, z]
    · rw [if_neg k0]
      by_cases k13 : R 309 w = 13
      · rw [if_pos k13]
        have z := (a13 k13).2.2.1
        clear a0 a13
        simp (disch := omega) only [be_X5_stock_m, be_X5_stock_0, be_X5_stock_2, Option.bind_some, cond_true, cond_false, decide_true, decide_false, Bool.not_true, Bool.not_false, ite_true, ite_false, and_self, true_and, and_true, or_self, true_or, or_true, false_or, or_false, decide_eq_true_eq, Int.reduceAdd, Int.reduceSub, Int.reduceMul, Int.reduceNeg, Int.reduceEq, Int.reduceLT, Int.reduceLE, Int.reduceNe, lcmp_z, lcmp_le, lcmp_ge, lcmp_lt, lcmp_gt, decide_eq_true, decide_eq_false, if_pos, if_neg, gf_15, gf_14, hk, k13, c5, z]
      · rw [if_neg k13]
        clear a0 a13
        simp (disch := omega) only [be_X5_stock_m, be_X5_stock_0, be_X5_stock_3, Option.bind_some, cond_true, cond_false, decide_true, decide_false, Bool.not_true, Bool.not_false, ite_true, ite_false, and_self, true_and, and_true, or_self, true_or, or_true, false_or, or_false, decide_eq_true_eq, Int.reduceAdd, Int.reduceSub, Int.reduceMul, Int.reduceNeg, Int.reduceEq, Int.reduceLT, Int.reduceLE, Int.reduceNe, lcmp_z, lcmp_le, lcmp_ge, lcmp_lt, lcmp_gt, decide_eq_true, decide_eq_false, if_pos, if_neg, gf_15, hk, decide_eq_false k9, decide_eq_false k0, decide_eq_false k13]
theorem rf_stock {R : am_M} {w : Int} (hR : rs R) (w0 : 0 ≤ w) (w1 : w < 40) : am_ev am_PP nX7_told 22 [17, w] [] R = some (stk R w (if R 17 17 = 0 then 0 else R 1845 w), R) := by
  obtain ⟨r1, r2, r3, r4, r5, r6, r7, r8, r9, r10, r12, r13, r14, r15, r16, r18, r19, r20, r21, r22, r23, r24, r25, r26, r27, r28, r30, r31, r32, r33, r34, r35, r36, r37, r38, r39, r40, r41, r44, r49, r50, r51, r52, r54⟩ := hR
  unfold stk
  by_cases k9 : R 309 w = 9
  · rw [if_pos k9]
    by_cases c : R 17 17 = 0
    · rw [if_pos c]
      simp (disch := omega) only [be_X7_told_22, be_X7_told_23, be_X7_told_25, be_X7_told_31, Option.bind_some, cond_true, cond_false, decide_true, decide_false, Bool.not_true, Bool.not_false, ite_true, ite_false, and_self, true_and, and_true, or_self, true_or, or_true, false_or, or_false, decide_eq_true_eq, Int.reduceAdd, Int.reduceSub, Int.reduceMul, Int.reduceNeg, Int.reduceEq, Int.reduceLT, Int.reduceLE, Int.reduceNe, lcmp_z, lcmp_le, lcmp_ge, lcmp_lt, lcmp_gt, decide_eq_true, decide_eq_false, if_pos, if_neg, gf_17, r1, ra_309, k9, c]
    · rw [if_neg c]
      simp (disch := omega) only [be_X7_told_22, be_X7_told_23, be_X7_told_24, be_X7_told_31, Option.bind_some, cond_true, cond_false, decide_true, decide_false, Bool.not_true, Bool.not_false, ite_true, ite_false, and_self, true_and, and_true, or_self, true_or, or_true, false_or, or_false, decide_eq_true_eq, Int.reduceAdd, Int.reduceSub, Int.reduceMul, Int.reduceNeg, Int.reduceEq, Int.reduceLT, Int.reduceLE, Int.reduceNe, lcmp_z, lcmp_le, lcmp_ge, lcmp_lt, lcmp_gt, decide_eq_true, decide_eq_false, if_pos, if_neg, gf_17, r1, r34, ra_309, ra_1845, k9]
  · rw [if_neg k9]
    by_cases k0 : R 309 w = 0
    · rw [if_pos k0]
      simp (disch := omega) only [be_X7_told_22, be_X7_told_26, be_X7_told_27, be_X7_told_31, Option.bind_some, cond_true, cond_false, decide_true, decide_false, Bool.not_true, Bool.not_false, ite_true, ite_false, and_self, true_and, and_true, or_self, true_or, or_true, false_or, or_false, decide_eq_true_eq, Int.reduceAdd, Int.reduceSub, Int.reduceMul, Int.reduceNeg, Int.reduceEq, Int.reduceLT, Int.reduceLE, Int.reduceNe, lcmp_z, lcmp_le, lcmp_ge, lcmp_lt, lcmp_gt, decide_eq_true, decide_eq_false, if_pos, if_neg, gf_17, r1, r5, ra_309, ra_821, k0]
    · rw [if_neg k0]
      by_cases k13 : R 309 w = 13
      · rw [if_pos k13]
        simp (disch := omega) only [be_X7_told_22, be_X7_told_26, be_X7_told_28, be_X7_told_29, be_X7_told_31, Option.bind_some, cond_true, cond_false, decide_true, decide_false, Bool.not_true, Bool.not_false, ite_true, ite_false, and_self, true_and, and_true, or_self, true_or, or_true, false_or, or_false, decide_eq_true_eq, Int.reduceAdd, Int.reduceSub, Int.reduceMul, Int.reduceNeg, Int.reduceEq, Int.reduceLT, Int.reduceLE, Int.reduceNe, lcmp_z, lcmp_le, lcmp_ge, lcmp_lt, lcmp_gt, decide_eq_true, decide_eq_false, if_pos, if_neg, gf_17, r1, r7, ra_309, ra_1077, k13]
      · rw [if_neg k13]
        simp (disch := omega) only [be_X7_told_22, be_X7_told_26, be_X7_told_28, be_X7_told_30, be_X7_told_31, Option.bind_some, cond_true, cond_false, decide_true, decide_false, Bool.not_true, Bool.not_false, ite_true, ite_false, and_self, true_and, and_true, or_self, true_or, or_true, false_or, or_false, decide_eq_true_eq, Int.reduceAdd, Int.reduceSub, Int.reduceMul, Int.reduceNeg, Int.reduceEq, Int.reduceLT, Int.reduceLE, Int.reduceNe, lcmp_z, lcmp_le, lcmp_ge, lcmp_lt, lcmp_gt, decide_eq_true, decide_eq_false, if_pos, if_neg, gf_17, r1, ra_309, decide_eq_false k9, decide_eq_false k0, decide_eq_false k13]
theorem api_told (w x : Int) : API nX6_told nX7_told [(0, w), (0, x)] := by
  intro C R H
  obtain ⟨hR, hh, hn, ho⟩ := INV_hall H
  obtain ⟨g0, g1, g2, g3, g4, g5, g6, g7, g8, g9, g10, g11, g12, g13⟩ := id hh
  have hat := at_w hh hn w
  have hiw := rf_isWeaver w g9 g10
  have hin := rf_in R x 0 5
  by_cases cw : 0 ≤ w ∧ w < R 17 0
  · obtain ⟨w0, w1⟩ := cw
    rw [if_pos ⟨w0, w1⟩] at hat hiw
    by_cases cx : 0 ≤ x ∧ x ≤ 5
    · rw [if_pos cx] at hin
      obtain ⟨x1, x2, x3⟩ := hn.1 w w0 w1
      have hk := x2.2.1
      obtain ⟨h6, H⟩ := H
      rcases H with N | ⟨h, V, t, H, hwd⟩
      · obtain ⟨_, _, _, _, n1, n2, n3, n4, n5, n6⟩ := id N
        obtain ⟨m1, m2, m3, m4, m5⟩ := n6 w w0 w1
        have hst := cl_stock w0 x2 m5
        have hst' := rf_stock hR w0 (by omega)
        rw [if_pos n1] at hst'
        suffices hs : ∃ v, am_evm am_PP nX6_told [(2, 16), (0, w), (0, x)] C = some (v, C) ∧ am_evm am_PP nX7_told [(2, 17), (0, w), (0, x)] R = some (v, R) by
          obtain ⟨v, a, b⟩ := hs
          exact ⟨v, C, R, a, b, ⟨h6, Or.inl N⟩, cf2_refl C, rfr_refl R⟩
        clear m5
        have e6 : am_evm am_PP nX7_told [(2, 17), (0, w), (0, x)] R = am_ev am_PP nX7_told 6 [17, w, x] [(0, 0)] R := by
          simp (disch := omega) only [be_X7_told_m, be_X7_told_0, be_X7_told_1, be_X7_told_3, be_X7_told_5, Option.bind_some, cond_true, cond_false, decide_true, decide_false, Bool.not_true, Bool.not_false, ite_true, ite_false, and_self, true_and, and_true, or_self, true_or, or_true, false_or, or_false, decide_eq_true_eq, Int.reduceAdd, Int.reduceSub, Int.reduceMul, Int.reduceNeg, Int.reduceEq, Int.reduceLT, Int.reduceLE, Int.reduceNe, lcmp_z, lcmp_le, lcmp_ge, lcmp_lt, lcmp_gt, decide_eq_true, decide_eq_false, if_pos, if_neg, gf_17, cls_17, hiw, hin, n1]
        have e2 : am_evm am_PP nX6_told [(2, 16), (0, w), (0, x)] C = am_ev am_PP nX6_told 2 [16, x, 15 + 256 * w] [] C := by
          simp (disch := omega) only [be_X6_told_m, be_X6_told_0, Option.bind_some, cond_true, cond_false, decide_true, decide_false, Bool.not_true, Bool.not_false, ite_true, ite_false, and_self, true_and, and_true, or_self, true_or, or_true, false_or, or_false, decide_eq_true_eq, Int.reduceAdd, Int.reduceSub, Int.reduceMul, Int.reduceNeg, Int.reduceEq, Int.reduceLT, Int.reduceLE, Int.reduceNe, lcmp_z, lcmp_le, lcmp_ge, lcmp_lt, lcmp_gt, decide_eq_true, decide_eq_false, if_pos, if_neg, cls_16, hat]
        rw [e2, e6]
        clear e2 e6 hat hiw hin
        obtain ⟨r1, r2, r3, r4, r5, r6, r7, r8, r9, r10, r12, r13, r14, r15, r16, r18, r19, r20, r21, r22, r23, r24, r25, r26, r27, r28, r30, r31, r32, r33, r34, r35, r36, r37, r38, r39, r40, r41, r44, r49, r50, r51, r52, r54⟩ := hR
        have hx : x = 0 ∨ x = 1 ∨ x = 2 ∨ x = 3 ∨ x = 4 ∨ x = 5 := by omega
        rcases hx with rfl | rfl | rfl | rfl | rfl | rfl
        · refine ⟨R 309 w, ?_, ?_⟩
          · simp (disch := omega) only [be_X6_told_2, be_X6_told_3, Option.bind_some, cond_true, cond_false, decide_true, decide_false, Bool.not_true, Bool.not_false, ite_true, ite_false, and_self, true_and, and_true, or_self, true_or, or_true, false_or, or_false, decide_eq_true_eq, Int.reduceAdd, Int.reduceSub, Int.reduceMul, Int.reduceNeg, Int.reduceEq, Int.reduceLT, Int.reduceLE, Int.reduceNe, lcmp_z, lcmp_le, lcmp_ge, lcmp_lt, lcmp_gt, gf_15, hk]
          · simp (disch := omega) only [be_X7_told_6, be_X7_told_7, Option.bind_some, cond_true, cond_false, decide_true, decide_false, Bool.not_true, Bool.not_false, ite_true, ite_false, and_self, true_and, and_true, or_self, true_or, or_true, false_or, or_false, decide_eq_true_eq, Int.reduceAdd, Int.reduceSub, Int.reduceMul, Int.reduceNeg, Int.reduceEq, Int.reduceLT, Int.reduceLE, Int.reduceNe, lcmp_z, lcmp_le, lcmp_ge, lcmp_lt, lcmp_gt, gf_17, r1, ra_309]
        · refine ⟨0, ?_, ?_⟩
          · simp (disch := omega) only [be_X6_told_2, be_X6_told_4, be_X6_told_6, be_X6_told_7, Option.bind_some, cond_true, cond_false, decide_true, decide_false, Bool.not_true, Bool.not_false, ite_true, ite_false, and_self, true_and, and_true, or_self, true_or, or_true, false_or, or_false, decide_eq_true_eq, Int.reduceAdd, Int.reduceSub, Int.reduceMul, Int.reduceNeg, Int.reduceEq, Int.reduceLT, Int.reduceLE, Int.reduceNe, lcmp_z, lcmp_le, lcmp_ge, lcmp_lt, lcmp_gt, gf_16, n2]
          · simp (disch := omega) only [be_X7_told_6, be_X7_told_8, Option.bind_some, cond_true, cond_false, decide_true, decide_false, Bool.not_true, Bool.not_false, ite_true, ite_false, and_self, true_and, and_true, or_self, true_or, or_true, false_or, or_false, decide_eq_true_eq, Int.reduceAdd, Int.reduceSub, Int.reduceMul, Int.reduceNeg, Int.reduceEq, Int.reduceLT, Int.reduceLE, Int.reduceNe, lcmp_z, lcmp_le, lcmp_ge, lcmp_lt, lcmp_gt]
        · refine ⟨-5, ?_, ?_⟩
          · simp (disch := omega) only [be_X6_told_2, be_X6_told_8, be_X6_told_11, be_X6_told_12, Option.bind_some, cond_true, cond_false, decide_true, decide_false, Bool.not_true, Bool.not_false, ite_true, ite_false, and_self, true_and, and_true, or_self, true_or, or_true, false_or, or_false, decide_eq_true_eq, Int.reduceAdd, Int.reduceSub, Int.reduceMul, Int.reduceNeg, Int.reduceEq, Int.reduceLT, Int.reduceLE, Int.reduceNe, lcmp_z, lcmp_le, lcmp_ge, lcmp_lt, lcmp_gt, gf_16, n2]
          · simp (disch := omega) only [be_X7_told_6, be_X7_told_9, be_X7_told_10, be_X7_told_12, be_X7_told_13, Option.bind_some, cond_true, cond_false, decide_true, decide_false, Bool.not_true, Bool.not_false, ite_true, ite_false, and_self, true_and, and_true, or_self, true_or, or_true, false_or, or_false, decide_eq_true_eq, Int.reduceAdd, Int.reduceSub, Int.reduceMul, Int.reduceNeg, Int.reduceEq, Int.reduceLT, Int.reduceLE, Int.reduceNe, lcmp_z, lcmp_le, lcmp_ge, lcmp_lt, lcmp_gt]
        · refine ⟨0, ?_, ?_⟩
          · simp (disch := omega) only [be_X6_told_2, be_X6_told_13, Option.bind_some, cond_true, cond_false, decide_true, decide_false, Bool.not_true, Bool.not_false, ite_true, ite_false, and_self, true_and, and_true, or_self, true_or, or_true, false_or, or_false, decide_eq_true_eq, Int.reduceAdd, Int.reduceSub, Int.reduceMul, Int.reduceNeg, Int.reduceEq, Int.reduceLT, Int.reduceLE, Int.reduceNe, lcmp_z, lcmp_le, lcmp_ge, lcmp_lt, lcmp_gt, gf_15, m1]
          · simp (disch := omega) only [be_X7_told_6, be_X7_told_14, be_X7_told_16, be_X7_told_17, Option.bind_some, cond_true, cond_false, decide_true, decide_false, Bool.not_true, Bool.not_false, ite_true, ite_false, and_self, true_and, and_true, or_self, true_or, or_true, false_or, or_false, decide_eq_true_eq, Int.reduceAdd, Int.reduceSub, Int.reduceMul, Int.reduceNeg, Int.reduceEq, Int.reduceLT, Int.reduceLE, Int.reduceNe, lcmp_z, lcmp_le, lcmp_ge, lcmp_lt, lcmp_gt, gf_17, n1]
        · refine ⟨0, ?_, ?_⟩
          · simp (disch := omega) only [be_X6_told_2, be_X6_told_14, Option.bind_some, cond_true, cond_false, decide_true, decide_false, Bool.not_true, Bool.not_false, ite_true, ite_false, and_self, true_and, and_true, or_self, true_or, or_true, false_or, or_false, decide_eq_true_eq, Int.reduceAdd, Int.reduceSub, Int.reduceMul, Int.reduceNeg, Int.reduceEq, Int.reduceLT, Int.reduceLE, Int.reduceNe, lcmp_z, lcmp_le, lcmp_ge, lcmp_lt, lcmp_gt, gf_15, m2]
          · simp (disch := omega) only [be_X7_told_6, be_X7_told_18, be_X7_told_20, be_X7_told_21, Option.bind_some, cond_true, cond_false, decide_true, decide_false, Bool.not_true, Bool.not_false, ite_true, ite_false, and_self, true_and, and_true, or_self, true_or, or_true, false_or, or_false, decide_eq_true_eq, Int.reduceAdd, Int.reduceSub, Int.reduceMul, Int.reduceNeg, Int.reduceEq, Int.reduceLT, Int.reduceLE, Int.reduceNe, lcmp_z, lcmp_le, lcmp_ge, lcmp_lt, lcmp_gt, gf_17, n1]
        · refine ⟨stk R w 0, ?_, ?_⟩
          rotate_left
          · simp (disch := omega) only [be_X7_told_6, Option.bind_some, cond_true, cond_false, decide_true, decide_false, Bool.not_true, Bool.not_false, ite_true, ite_false, and_self, true_and, and_true, or_self, true_or, or_true, false_or, or_false, decide_eq_true_eq, Int.reduceAdd, Int.reduceSub, Int.reduceMul, Int.reduceNeg, Int.reduceEq, Int.reduceLT, Int.reduceLE, Int.reduceNe, lcmp_z, lcmp_le, lcmp_ge, lcmp_lt, lcmp_gt]
            exact hst'
          · simp (disch := omega) only [be_X6_told_2, be_X6_told_15, Option.bind_some, cond_true, cond_false, decide_true, decide_false, Bool.not_true, Bool.not_false, ite_true, ite_false, and_self, true_and, and_true, or_self, true_or, or_true, false_or, or_false, decide_eq_true_eq, Int.reduceAdd, Int.reduceSub, Int.reduceMul, Int.reduceNeg, Int.reduceEq, Int.reduceLT, Int.reduceLE, Int.reduceNe, lcmp_z, lcmp_le, lcmp_ge, lcmp_lt, lcmp_gt, cls_15, pos_15, hst]
      · have hdo := cl_doing H w0 w1
        have hwt := cl_waits H w0 w1
        obtain ⟨R1, s1, s2, s3, s4, s5⟩ := rf_state H w0 w1 (by have := H.2.2.2.2.2.2.2.2.2.2.1; omega)
        have hf : rfr R R1 := rtl_rfr s3
        have b17 := H.2.2.2.2.2.1
        have b9 := H.2.2.2.2.2.2.1
        have hI : INV C R1 := by
          refine ⟨h6.trans (opc_same (s3 _ _ (by unfold rtl; omega)) (fun i => s3 _ _ (by unfold rtl; omega)) (fun i => s3 _ _ (by unfold rtl; omega)) (fun i => s3 _ _ (by unfold rtl; omega))).symm, Or.inr ⟨h, V, t, s2, ?_⟩⟩
          rw [s3 17 43 (by unfold rtl; omega), s3 17 42 (by unfold rtl; omega)]
          exact hwd
        suffices hs : ∃ v, am_evm am_PP nX6_told [(2, 16), (0, w), (0, x)] C = some (v, C) ∧ am_evm am_PP nX7_told [(2, 17), (0, w), (0, x)] R = some (v, R1) by
          obtain ⟨v, a, b⟩ := hs
          exact ⟨v, C, R1, a, b, hI, cf2_refl C, hf⟩
        have W0 : R1 17 0 = R 17 0 := s3 _ _ (by unfold rtl; omega)
        have z17 := s2.2.2.2.2.2.1
        obtain ⟨y1, y2, y3⟩ := s2.2.2.1.1 w w0 (by omega)
        obtain ⟨p1, p2, p3, p4, p5, p6, p7, p8⟩ := s2.2.2.2.2.2.2.2.2.2.2.2.2.2.2.2.2.1 w w0 (by omega)
        have hk' := y2.2.1
        have hst := cl_stock (n9 := R1 1845 w) w0 y2 (fun q => (row_len (p8 q).1).1)
        have hst' := rf_stock s2.1 w0 (by omega)
        rw [if_neg (by omega)] at hst'
        clear p8 p7 hk
        generalize dgr C R w = g at hdo hwt s1 s4 s5
        have e6 : am_evm am_PP nX7_told [(2, 17), (0, w), (0, x)] R = am_ev am_PP nX7_told 6 [17, w, x] [(0, g)] R1 := by
          simp (disch := omega) only [be_X7_told_m, be_X7_told_0, be_X7_told_1, be_X7_told_3, be_X7_told_4, Option.bind_some, cond_true, cond_false, decide_true, decide_false, Bool.not_true, Bool.not_false, ite_true, ite_false, and_self, true_and, and_true, or_self, true_or, or_true, false_or, or_false, decide_eq_true_eq, Int.reduceAdd, Int.reduceSub, Int.reduceMul, Int.reduceNeg, Int.reduceEq, Int.reduceLT, Int.reduceLE, Int.reduceNe, lcmp_z, lcmp_le, lcmp_ge, lcmp_lt, lcmp_gt, decide_eq_true, decide_eq_false, if_pos, if_neg, gf_17, cls_17, hiw, hin, b17, s1]
        have e2 : am_evm am_PP nX6_told [(2, 16), (0, w), (0, x)] C = am_ev am_PP nX6_told 2 [16, x, 15 + 256 * w] [] C := by
          simp (disch := omega) only [be_X6_told_m, be_X6_told_0, Option.bind_some, cond_true, cond_false, decide_true, decide_false, Bool.not_true, Bool.not_false, ite_true, ite_false, and_self, true_and, and_true, or_self, true_or, or_true, false_or, or_false, decide_eq_true_eq, Int.reduceAdd, Int.reduceSub, Int.reduceMul, Int.reduceNeg, Int.reduceEq, Int.reduceLT, Int.reduceLE, Int.reduceNe, lcmp_z, lcmp_le, lcmp_ge, lcmp_lt, lcmp_gt, decide_eq_true, decide_eq_false, if_pos, if_neg, cls_16, hat]
        rw [e2, e6]
        clear e2 e6 hat hiw hin
        have hR1 := s2.1
        obtain ⟨r1, r2, r3, r4, r5, r6, r7, r8, r9, r10, r12, r13, r14, r15, r16, r18, r19, r20, r21, r22, r23, r24, r25, r26, r27, r28, r30, r31, r32, r33, r34, r35, r36, r37, r38, r39, r40, r41, r44, r49, r50, r51, r52, r54⟩ := hR1
        have hx : x = 0 ∨ x = 1 ∨ x = 2 ∨ x = 3 ∨ x = 4 ∨ x = 5 := by omega
        rcases hx with rfl | rfl | rfl | rfl | rfl | rfl
        · refine ⟨R1 309 w, ?_, ?_⟩
          · simp (disch := omega) only [be_X6_told_2, be_X6_told_3, Option.bind_some, cond_true, cond_false, decide_true, decide_false, Bool.not_true, Bool.not_false, ite_true, ite_false, and_self, true_and, and_true, or_self, true_or, or_true, false_or, or_false, decide_eq_true_eq, Int.reduceAdd, Int.reduceSub, Int.reduceMul, Int.reduceNeg, Int.reduceEq, Int.reduceLT, Int.reduceLE, Int.reduceNe, lcmp_z, lcmp_le, lcmp_ge, lcmp_lt, lcmp_gt, gf_15, hk']
          · simp (disch := omega) only [be_X7_told_6, be_X7_told_7, Option.bind_some, cond_true, cond_false, decide_true, decide_false, Bool.not_true, Bool.not_false, ite_true, ite_false, and_self, true_and, and_true, or_self, true_or, or_true, false_or, or_false, decide_eq_true_eq, Int.reduceAdd, Int.reduceSub, Int.reduceMul, Int.reduceNeg, Int.reduceEq, Int.reduceLT, Int.reduceLE, Int.reduceNe, lcmp_z, lcmp_le, lcmp_ge, lcmp_lt, lcmp_gt, gf_17, r1, ra_309]
        · refine ⟨g, ?_, ?_⟩
          · simp (disch := omega) only [be_X6_told_2, be_X6_told_4, be_X6_told_5, be_X6_told_7, Option.bind_some, cond_true, cond_false, decide_true, decide_false, Bool.not_true, Bool.not_false, ite_true, ite_false, and_self, true_and, and_true, or_self, true_or, or_true, false_or, or_false, decide_eq_true_eq, Int.reduceAdd, Int.reduceSub, Int.reduceMul, Int.reduceNeg, Int.reduceEq, Int.reduceLT, Int.reduceLE, Int.reduceNe, lcmp_z, lcmp_le, lcmp_ge, lcmp_lt, lcmp_gt, gf_16, b9, cls_15, pos_15, hdo]
          · simp (disch := omega) only [be_X7_told_6, be_X7_told_8, Option.bind_some, cond_true, cond_false, decide_true, decide_false, Bool.not_true, Bool.not_false, ite_true, ite_false, and_self, true_and, and_true, or_self, true_or, or_true, false_or, or_false, decide_eq_true_eq, Int.reduceAdd, Int.reduceSub, Int.reduceMul, Int.reduceNeg, Int.reduceEq, Int.reduceLT, Int.reduceLE, Int.reduceNe, lcmp_z, lcmp_le, lcmp_ge, lcmp_lt, lcmp_gt]
        · by_cases c : g = 1 ∨ g = 2
          · rw [if_pos c] at hwt
            have e46 : R1 17 46 = C (15 + 256 * w) 9 := by
              rcases c with c | c
              · exact s5 c
              · exact (s4 c).2
            clear s4 s5
            refine ⟨C (15 + 256 * w) 9, ?_, ?_⟩
            · simp (disch := omega) only [be_X6_told_2, be_X6_told_8, be_X6_told_9, be_X6_told_10, be_X6_told_12, Option.bind_some, cond_true, cond_false, decide_true, decide_false, Bool.not_true, Bool.not_false, ite_true, ite_false, and_self, true_and, and_true, or_self, true_or, or_true, false_or, or_false, decide_eq_true_eq, Int.reduceAdd, Int.reduceSub, Int.reduceMul, Int.reduceNeg, Int.reduceEq, Int.reduceLT, Int.reduceLE, Int.reduceNe, lcmp_z, lcmp_le, lcmp_ge, lcmp_lt, lcmp_gt, gf_16, gf_15, b9, cls_15, pos_15, hwt]
            · rcases c with c | c
              · simp (disch := omega) only [be_X7_told_6, be_X7_told_9, be_X7_told_11, be_X7_told_13, Option.bind_some, cond_true, cond_false, decide_true, decide_false, Bool.not_true, Bool.not_false, ite_true, ite_false, and_self, true_and, and_true, or_self, true_or, or_true, false_or, or_false, decide_eq_true_eq, Int.reduceAdd, Int.reduceSub, Int.reduceMul, Int.reduceNeg, Int.reduceEq, Int.reduceLT, Int.reduceLE, Int.reduceNe, lcmp_z, lcmp_le, lcmp_ge, lcmp_lt, lcmp_gt, gf_17, c, e46]
              · simp (disch := omega) only [be_X7_told_6, be_X7_told_9, be_X7_told_10, be_X7_told_11, be_X7_told_13, Option.bind_some, cond_true, cond_false, decide_true, decide_false, Bool.not_true, Bool.not_false, ite_true, ite_false, and_self, true_and, and_true, or_self, true_or, or_true, false_or, or_false, decide_eq_true_eq, Int.reduceAdd, Int.reduceSub, Int.reduceMul, Int.reduceNeg, Int.reduceEq, Int.reduceLT, Int.reduceLE, Int.reduceNe, lcmp_z, lcmp_le, lcmp_ge, lcmp_lt, lcmp_gt, gf_17, c, e46]
          · rw [if_neg c] at hwt
            have c1 : ¬ g = 1 := fun q => c (Or.inl q)
            have c2 : ¬ g = 2 := fun q => c (Or.inr q)
            clear c s4 s5
            refine ⟨-5, ?_, ?_⟩
            · simp (disch := omega) only [be_X6_told_2, be_X6_told_8, be_X6_told_9, be_X6_told_11, be_X6_told_12, Option.bind_some, cond_true, cond_false, decide_true, decide_false, Bool.not_true, Bool.not_false, ite_true, ite_false, and_self, true_and, and_true, or_self, true_or, or_true, false_or, or_false, decide_eq_true_eq, Int.reduceAdd, Int.reduceSub, Int.reduceMul, Int.reduceNeg, Int.reduceEq, Int.reduceLT, Int.reduceLE, Int.reduceNe, lcmp_z, lcmp_le, lcmp_ge, lcmp_lt, lcmp_gt, gf_16, b9, cls_15, pos_15, hwt]
            · simp (disch := omega) only [be_X7_told_6, be_X7_told_9, be_X7_told_10, be_X7_told_12, be_X7_told_13, Option.bind_some, cond_true, cond_false, decide_true, decide_false, Bool.not_true, Bool.not_false, ite_true, ite_false, and_self, true_and, and_true, or_self, true_or, or_true, false_or, or_false, decide_eq_true_eq, Int.reduceAdd, Int.reduceSub, Int.reduceMul, Int.reduceNeg, Int.reduceEq, Int.reduceLT, Int.reduceLE, Int.reduceNe, lcmp_z, lcmp_le, lcmp_ge, lcmp_lt, lcmp_gt, decide_eq_false c1, decide_eq_false c2]
        · refine ⟨R1 1845 w, ?_, ?_⟩
          · simp (disch := omega) only [be_X6_told_2, be_X6_told_13, Option.bind_some, cond_true, cond_false, decide_true, decide_false, Bool.not_true, Bool.not_false, ite_true, ite_false, and_self, true_and, and_true, or_self, true_or, or_true, false_or, or_false, decide_eq_true_eq, Int.reduceAdd, Int.reduceSub, Int.reduceMul, Int.reduceNeg, Int.reduceEq, Int.reduceLT, Int.reduceLE, Int.reduceNe, lcmp_z, lcmp_le, lcmp_ge, lcmp_lt, lcmp_gt, gf_15, p1]
          · simp (disch := omega) only [be_X7_told_6, be_X7_told_14, be_X7_told_15, be_X7_told_17, Option.bind_some, cond_true, cond_false, decide_true, decide_false, Bool.not_true, Bool.not_false, ite_true, ite_false, and_self, true_and, and_true, or_self, true_or, or_true, false_or, or_false, decide_eq_true_eq, Int.reduceAdd, Int.reduceSub, Int.reduceMul, Int.reduceNeg, Int.reduceEq, Int.reduceLT, Int.reduceLE, Int.reduceNe, lcmp_z, lcmp_le, lcmp_ge, lcmp_lt, lcmp_gt, gf_17, z17, r34, ra_1845]
        · refine ⟨R1 2101 w, ?_, ?_⟩
          · simp (disch := omega) only [be_X6_told_2, be_X6_told_14, Option.bind_some, cond_true, cond_false, decide_true, decide_false, Bool.not_true, Bool.not_false, ite_true, ite_false, and_self, true_and, and_true, or_self, true_or, or_true, false_or, or_false, decide_eq_true_eq, Int.reduceAdd, Int.reduceSub, Int.reduceMul, Int.reduceNeg, Int.reduceEq, Int.reduceLT, Int.reduceLE, Int.reduceNe, lcmp_z, lcmp_le, lcmp_ge, lcmp_lt, lcmp_gt, gf_15, p2]
          · simp (disch := omega) only [be_X7_told_6, be_X7_told_18, be_X7_told_19, be_X7_told_21, Option.bind_some, cond_true, cond_false, decide_true, decide_false, Bool.not_true, Bool.not_false, ite_true, ite_false, and_self, true_and, and_true, or_self, true_or, or_true, false_or, or_false, decide_eq_true_eq, Int.reduceAdd, Int.reduceSub, Int.reduceMul, Int.reduceNeg, Int.reduceEq, Int.reduceLT, Int.reduceLE, Int.reduceNe, lcmp_z, lcmp_le, lcmp_ge, lcmp_lt, lcmp_gt, gf_17, z17, r35, ra_2101]
        · refine ⟨stk R1 w (R1 1845 w), ?_, ?_⟩
          rotate_left
          · simp (disch := omega) only [be_X7_told_6, Option.bind_some, cond_true, cond_false, decide_true, decide_false, Bool.not_true, Bool.not_false, ite_true, ite_false, and_self, true_and, and_true, or_self, true_or, or_true, false_or, or_false, decide_eq_true_eq, Int.reduceAdd, Int.reduceSub, Int.reduceMul, Int.reduceNeg, Int.reduceEq, Int.reduceLT, Int.reduceLE, Int.reduceNe, lcmp_z, lcmp_le, lcmp_ge, lcmp_lt, lcmp_gt]
            exact hst'
          · simp (disch := omega) only [be_X6_told_2, be_X6_told_15, Option.bind_some, cond_true, cond_false, decide_true, decide_false, Bool.not_true, Bool.not_false, ite_true, ite_false, and_self, true_and, and_true, or_self, true_or, or_true, false_or, or_false, decide_eq_true_eq, Int.reduceAdd, Int.reduceSub, Int.reduceMul, Int.reduceNeg, Int.reduceEq, Int.reduceLT, Int.reduceLE, Int.reduceNe, lcmp_z, lcmp_le, lcmp_ge, lcmp_lt, lcmp_gt, cls_15, pos_15, hst]
    · rw [if_neg cx] at hin
      refine ⟨-1, C, R, ?_, ?_, H, cf2_refl C, rfr_refl R⟩
      · show am_evm am_PP nX6_told [(2, 16), (0, w), (0, x)] C = _
        have d0 : ¬ x = 0 := by omega
        have d1 : ¬ x = 1 := by omega
        have d2 : ¬ x = 2 := by omega
        have d3 : ¬ x = 3 := by omega
        have d4 : ¬ x = 4 := by omega
        have d5 : ¬ x = 5 := by omega
        simp (disch := omega) only [be_X6_told_m, be_X6_told_0, be_X6_told_2, be_X6_told_16, Option.bind_some, cond_true, cond_false, decide_true, decide_false, Bool.not_true, Bool.not_false, ite_true, ite_false, and_self, true_and, and_true, or_self, true_or, or_true, false_or, or_false, decide_eq_true_eq, Int.reduceAdd, Int.reduceSub, Int.reduceMul, Int.reduceNeg, Int.reduceEq, Int.reduceLT, Int.reduceLE, Int.reduceNe, lcmp_z, lcmp_le, lcmp_ge, lcmp_lt, lcmp_gt, cls_16, hat, decide_eq_false d0, decide_eq_false d1, decide_eq_false d2, decide_eq_false d3, decide_eq_false d4, decide_eq_false d5, decide_eq_true, decide_eq_false, if_pos, if_neg]
      · show am_evm am_PP nX7_told [(2, 17), (0, w), (0, x)] R = _
        simp (disch := omega) only [be_X7_told_m, be_X7_told_0, be_X7_told_1, be_X7_told_2, Option.bind_some, cond_true, cond_false, decide_true, decide_false, Bool.not_true, Bool.not_false, ite_true, ite_false, and_self, true_and, and_true, or_self, true_or, or_true, false_or, or_false, decide_eq_true_eq, Int.reduceAdd, Int.reduceSub, Int.reduceMul, Int.reduceNeg, Int.reduceEq, Int.reduceLT, Int.reduceLE, Int.reduceNe, lcmp_z, lcmp_le, lcmp_ge, lcmp_lt, lcmp_gt, decide_eq_true, decide_eq_false, if_pos, if_neg, cls_17, hiw, hin]
  · rw [if_neg cw] at hat hiw
    refine ⟨-1, C, R, ?_, ?_, H, cf2_refl C, rfr_refl R⟩
    · show am_evm am_PP nX6_told [(2, 16), (0, w), (0, x)] C = _
      simp (disch := omega) only [be_X6_told_m, be_X6_told_0, be_X6_told_1, Option.bind_some, cond_true, cond_false, decide_true, decide_false, Bool.not_true, Bool.not_false, ite_true, ite_false, and_self, true_and, and_true, or_self, true_or, or_true, false_or, or_false, decide_eq_true_eq, Int.reduceAdd, Int.reduceSub, Int.reduceMul, Int.reduceNeg, Int.reduceEq, Int.reduceLT, Int.reduceLE, Int.reduceNe, lcmp_z, lcmp_le, lcmp_ge, lcmp_lt, lcmp_gt, decide_eq_true, decide_eq_false, if_pos, if_neg, cls_16, hat]
    · show am_evm am_PP nX7_told [(2, 17), (0, w), (0, x)] R = _
      simp (disch := omega) only [be_X7_told_m, be_X7_told_0, be_X7_told_2, Option.bind_some, cond_true, cond_false, decide_true, decide_false, Bool.not_true, Bool.not_false, ite_true, ite_false, and_self, true_and, and_true, or_self, true_or, or_true, false_or, or_false, decide_eq_true_eq, Int.reduceAdd, Int.reduceSub, Int.reduceMul, Int.reduceNeg, Int.reduceEq, Int.reduceLT, Int.reduceLE, Int.reduceNe, lcmp_z, lcmp_le, lcmp_ge, lcmp_lt, lcmp_gt, decide_eq_true, decide_eq_false, if_pos, if_neg, cls_17, hiw]
