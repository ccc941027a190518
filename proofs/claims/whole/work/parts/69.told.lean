/-! bandTold -/
theorem cl_ending {C : am_M} {b fm : Int} (b0 : 0 ≤ b) (f0 : 0 ≤ fm) (h : C (10 + 256 * b) 2 = 15 + 256 * fm) : am_evm am_PP nX0_ending [(2, 10 + 256 * b)] C = some (if C (15 + 256 * fm) 8 = 4 then 1 else if C (15 + 256 * fm) 8 = 5 then 2 else 0, C) := by
  by_cases c4 : C (15 + 256 * fm) 8 = 4
  · rw [if_pos c4]
    simp (disch := omega) only [be_X0_ending_m, be_X0_ending_0, be_X0_ending_1, be_X0_ending_5, Option.bind_some, cond_true, cond_false, decide_true, decide_false, Bool.not_true, Bool.not_false, ite_true, ite_false, and_self, true_and, and_true, or_self, true_or, or_true, false_or, or_false, decide_eq_true_eq, Int.reduceAdd, Int.reduceSub, Int.reduceMul, Int.reduceNeg, Int.reduceEq, Int.reduceLT, Int.reduceLE, Int.reduceNe, lcmp_z, lcmp_le, lcmp_ge, lcmp_lt, lcmp_gt, gf_10, gf_15, h, c4]
  · rw [if_neg c4]
    by_cases c5 : C (15 + 256 * fm) 8 = 5
    · rw [if_pos c5]
      simp (disch := omega) only [be_X0_ending_m, be_X0_ending_0, be_X0_ending_2, be_X0_ending_3, be_X0_ending_5, Option.bind_some, cond_true, cond_false, decide_true, decide_false, Bool.not_true, Bool.not_false, ite_true, ite_false, and_self, true_and, and_true, or_self, true_or, or_true, false_or, or_false, decide_eq_true_eq, Int.reduceAdd, Int.reduceSub, Int.reduceMul, Int.reduceNeg, Int.reduceEq, Int.reduceLT, Int.reduceLE, Int.reduceNe, lcmp_z, lcmp_le, lcmp_ge, lcmp_lt, lcmp_gt, gf_10, gf_15, h, c5]
    · rw [if_neg c5]
      simp (disch := omega) only [be_X0_ending_m, be_X0_ending_0, be_X0_ending_2, be_X0_ending_4, be_X0_ending_5, Option.bind_some, cond_true, cond_false, decide_true, decide_false, Bool.not_true, Bool.not_false, ite_true, ite_false, and_self, true_and, and_true, or_self, true_or, or_true, false_or, or_false, decide_eq_true_eq, Int.reduceAdd, Int.reduceSub, Int.reduceMul, Int.reduceNeg, Int.reduceEq, Int.reduceLT, Int.reduceLE, Int.reduceNe, lcmp_z, lcmp_le, lcmp_ge, lcmp_lt, lcmp_gt, gf_10, gf_15, h, decide_eq_false c4, decide_eq_false c5]
theorem rf_endOf {R : am_M} {b : Int} (hR : rs R) (b0 : 0 ≤ b) (b1 : b < 60) (f0 : 0 ≤ R 61 b) (f1 : R 61 b < 40) : am_evm am_PP nX7_endOf [(2, 17), (0, b)] R = some (if R 17 17 = 0 then 0 else if R 1333 (R 61 b) = 3 then 1 else if R 1333 (R 61 b) = 4 then 2 else 0, R) := by
  obtain ⟨r1, r2, r3, r4, r5, r6, r7, r8, r9, r10, r12, r13, r14, r15, r16, r18, r19, r20, r21, r22, r23, r24, r25, r26, r27, r28, r30, r31, r32, r33, r34, r35, r36, r37, r38, r39, r40, r41, r44, r49, r50, r51, r52, r54⟩ := hR
  by_cases c : R 17 17 = 0
  · rw [if_pos c]
    simp (disch := omega) only [be_X7_endOf_m, be_X7_endOf_0, be_X7_endOf_2, be_X7_endOf_3, be_X7_endOf_5, be_X7_endOf_7, be_X7_endOf_8, Option.bind_some, cond_true, cond_false, decide_true, decide_false, Bool.not_true, Bool.not_false, ite_true, ite_false, and_self, true_and, and_true, or_self, true_or, or_true, false_or, or_false, decide_eq_true_eq, Int.reduceAdd, Int.reduceSub, Int.reduceMul, Int.reduceNeg, Int.reduceEq, Int.reduceLT, Int.reduceLE, Int.reduceNe, lcmp_z, lcmp_le, lcmp_ge, lcmp_lt, lcmp_gt, gf_17, c]
  · rw [if_neg c]
    by_cases c3 : R 1333 (R 61 b) = 3
    · rw [if_pos c3]
      simp (disch := omega) only [be_X7_endOf_m, be_X7_endOf_0, be_X7_endOf_1, be_X7_endOf_3, be_X7_endOf_4, be_X7_endOf_8, Option.bind_some, cond_true, cond_false, decide_true, decide_false, Bool.not_true, Bool.not_false, ite_true, ite_false, and_self, true_and, and_true, or_self, true_or, or_true, false_or, or_false, decide_eq_true_eq, Int.reduceAdd, Int.reduceSub, Int.reduceMul, Int.reduceNeg, Int.reduceEq, Int.reduceLT, Int.reduceLE, Int.reduceNe, lcmp_z, lcmp_le, lcmp_ge, lcmp_lt, lcmp_gt, gf_17, decide_eq_false c, r30, r12, ra_61, ra_1333, c3]
    · rw [if_neg c3]
      by_cases c4 : R 1333 (R 61 b) = 4
      · rw [if_pos c4]
        simp (disch := omega) only [be_X7_endOf_m, be_X7_endOf_0, be_X7_endOf_1, be_X7_endOf_3, be_X7_endOf_5, be_X7_endOf_6, be_X7_endOf_8, Option.bind_some, cond_true, cond_false, decide_true, decide_false, Bool.not_true, Bool.not_false, ite_true, ite_false, and_self, true_and, and_true, or_self, true_or, or_true, false_or, or_false, decide_eq_true_eq, Int.reduceAdd, Int.reduceSub, Int.reduceMul, Int.reduceNeg, Int.reduceEq, Int.reduceLT, Int.reduceLE, Int.reduceNe, lcmp_z, lcmp_le, lcmp_ge, lcmp_lt, lcmp_gt, gf_17, decide_eq_false c, r30, r12, ra_61, ra_1333, c4]
      · rw [if_neg c4]
        simp (disch := omega) only [be_X7_endOf_m, be_X7_endOf_0, be_X7_endOf_1, be_X7_endOf_3, be_X7_endOf_5, be_X7_endOf_7, be_X7_endOf_8, Option.bind_some, cond_true, cond_false, decide_true, decide_false, Bool.not_true, Bool.not_false, ite_true, ite_false, and_self, true_and, and_true, or_self, true_or, or_true, false_or, or_false, decide_eq_true_eq, Int.reduceAdd, Int.reduceSub, Int.reduceMul, Int.reduceNeg, Int.reduceEq, Int.reduceLT, Int.reduceLE, Int.reduceNe, lcmp_z, lcmp_le, lcmp_ge, lcmp_lt, lcmp_gt, gf_17, decide_eq_false c, r30, r12, ra_61, ra_1333, decide_eq_false c3, decide_eq_false c4]
theorem api_bandTold (b x : Int) : API nX6_bandTold nX7_bandTold [(0, b), (0, x)] := by
  intro C R H
  obtain ⟨hR, hh, hn, ho⟩ := INV_hall H
  obtain ⟨g0, g1, g2, g3, g4, g5, g6, g7, g8, g9, g10, g11, g12, g13⟩ := id hh
  have hat := at_b hh hn b
  have hiw := rf_isBand b g11 g12
  have hin := rf_in R x 0 7
  suffices hs : ∃ v, am_evm am_PP nX6_bandTold [(2, 16), (0, b), (0, x)] C = some (v, C) ∧ am_evm am_PP nX7_bandTold [(2, 17), (0, b), (0, x)] R = some (v, R) by
    obtain ⟨v, a, b⟩ := hs
    exact ⟨v, C, R, a, b, H, cf2_refl C, rfr_refl R⟩
  obtain ⟨h6, H⟩ := H
  by_cases cb : 0 ≤ b ∧ b < R 17 11
  · obtain ⟨b0, b1⟩ := cb
    rw [if_pos ⟨b0, b1⟩] at hat hiw
    by_cases cx : 0 ≤ x ∧ x ≤ 7
    · rw [if_pos cx] at hin
      obtain ⟨_, f0, f1, t0, t1, _, _⟩ := hn.2 b b0 b1
      have nf := (hn.1 _ f0 f1).2.1.1.1
      have nt := (hn.1 _ t0 t1).2.1.1.1
      have hen := rf_endOf hR b0 (by omega) f0 (by omega)
      have e3 : am_evm am_PP nX7_bandTold [(2, 17), (0, b), (0, x)] R = am_ev am_PP nX7_bandTold 3 [17, b, x] [] R := by
        simp (disch := omega) only [be_X7_bandTold_m, be_X7_bandTold_0, be_X7_bandTold_1, Option.bind_some, cond_true, cond_false, decide_true, decide_false, Bool.not_true, Bool.not_false, ite_true, ite_false, and_self, true_and, and_true, or_self, true_or, or_true, false_or, or_false, decide_eq_true_eq, Int.reduceAdd, Int.reduceSub, Int.reduceMul, Int.reduceNeg, Int.reduceEq, Int.reduceLT, Int.reduceLE, Int.reduceNe, lcmp_z, lcmp_le, lcmp_ge, lcmp_lt, lcmp_gt, decide_eq_true, decide_eq_false, if_pos, if_neg, cls_17, hiw, hin]
      have e2 : am_evm am_PP nX6_bandTold [(2, 16), (0, b), (0, x)] C = am_ev am_PP nX6_bandTold 2 [x, 10 + 256 * b] [] C := by
        simp (disch := omega) only [be_X6_bandTold_m, be_X6_bandTold_0, Option.bind_some, cond_true, cond_false, decide_true, decide_false, Bool.not_true, Bool.not_false, ite_true, ite_false, and_self, true_and, and_true, or_self, true_or, or_true, false_or, or_false, decide_eq_true_eq, Int.reduceAdd, Int.reduceSub, Int.reduceMul, Int.reduceNeg, Int.reduceEq, Int.reduceLT, Int.reduceLE, Int.reduceNe, lcmp_z, lcmp_le, lcmp_ge, lcmp_lt, lcmp_gt, decide_eq_true, decide_eq_false, if_pos, if_neg, cls_16, hat]
      rw [e2, e3]
      clear e2 e3 hat hiw hin
      have hx : x = 0 ∨ x = 1 ∨ x = 2 ∨ x = 3 ∨ x = 4 ∨ x = 5 ∨ x = 6 ∨ x = 7 := by omega
      rcases H with ⟨_, _, _, _, n1, n2, n3, n4, n5, n6⟩ | ⟨h, V, t, H, hwd⟩
      · obtain ⟨z0, z1, z2, z3, z4, z5, z6, z7, z8, z9, z10⟩ := n5 b b0 b1 (fun _ => 0) 0
        have zl := (row_len z9).1
        obtain ⟨_, _, _, _, _, _, zo, _⟩ := z10
        have hce := cl_ending b0 f0 z2
        obtain ⟨_, _, m4, m5, _⟩ := n6 _ f0 f1
        rw [if_neg m4, if_neg m5] at hce
        rw [if_pos n1] at hen
        obtain ⟨r1, r2, r3, r4, r5, r6, r7, r8, r9, r10, r12, r13, r14, r15, r16, r18, r19, r20, r21, r22, r23, r24, r25, r26, r27, r28, r30, r31, r32, r33, r34, r35, r36, r37, r38, r39, r40, r41, r44, r49, r50, r51, r52, r54⟩ := hR
        rcases hx with rfl | rfl | rfl | rfl | rfl | rfl | rfl | rfl
        · refine ⟨R 1085 b, ?_, ?_⟩
          · simp (disch := omega) only [be_X6_bandTold_2, be_X6_bandTold_3, Option.bind_some, cond_true, cond_false, decide_true, decide_false, Bool.not_true, Bool.not_false, ite_true, ite_false, and_self, true_and, and_true, or_self, true_or, or_true, false_or, or_false, decide_eq_true_eq, Int.reduceAdd, Int.reduceSub, Int.reduceMul, Int.reduceNeg, Int.reduceEq, Int.reduceLT, Int.reduceLE, Int.reduceNe, lcmp_z, lcmp_le, lcmp_ge, lcmp_lt, lcmp_gt, gf_10, z5]
          · simp (disch := omega) only [be_X7_bandTold_3, be_X7_bandTold_4, be_X7_bandTold_6, be_X7_bandTold_7, Option.bind_some, cond_true, cond_false, decide_true, decide_false, Bool.not_true, Bool.not_false, ite_true, ite_false, and_self, true_and, and_true, or_self, true_or, or_true, false_or, or_false, decide_eq_true_eq, Int.reduceAdd, Int.reduceSub, Int.reduceMul, Int.reduceNeg, Int.reduceEq, Int.reduceLT, Int.reduceLE, Int.reduceNe, lcmp_z, lcmp_le, lcmp_ge, lcmp_lt, lcmp_gt, gf_17, n1, r16, ra_1085]
        · refine ⟨0, ?_, ?_⟩
          · simp (disch := omega) only [be_X6_bandTold_2, be_X6_bandTold_4, Option.bind_some, cond_true, cond_false, decide_true, decide_false, Bool.not_true, Bool.not_false, ite_true, ite_false, and_self, true_and, and_true, or_self, true_or, or_true, false_or, or_false, decide_eq_true_eq, Int.reduceAdd, Int.reduceSub, Int.reduceMul, Int.reduceNeg, Int.reduceEq, Int.reduceLT, Int.reduceLE, Int.reduceNe, lcmp_z, lcmp_le, lcmp_ge, lcmp_lt, lcmp_gt, gf_10, zo]
          · simp (disch := omega) only [be_X7_bandTold_3, be_X7_bandTold_8, be_X7_bandTold_10, be_X7_bandTold_11, Option.bind_some, cond_true, cond_false, decide_true, decide_false, Bool.not_true, Bool.not_false, ite_true, ite_false, and_self, true_and, and_true, or_self, true_or, or_true, false_or, or_false, decide_eq_true_eq, Int.reduceAdd, Int.reduceSub, Int.reduceMul, Int.reduceNeg, Int.reduceEq, Int.reduceLT, Int.reduceLE, Int.reduceNe, lcmp_z, lcmp_le, lcmp_ge, lcmp_lt, lcmp_gt, gf_17, n1]
        · refine ⟨0, ?_, ?_⟩
          · simp (disch := omega) only [be_X6_bandTold_2, be_X6_bandTold_5, Option.bind_some, cond_true, cond_false, decide_true, decide_false, Bool.not_true, Bool.not_false, ite_true, ite_false, and_self, true_and, and_true, or_self, true_or, or_true, false_or, or_false, decide_eq_true_eq, Int.reduceAdd, Int.reduceSub, Int.reduceMul, Int.reduceNeg, Int.reduceEq, Int.reduceLT, Int.reduceLE, Int.reduceNe, lcmp_z, lcmp_le, lcmp_ge, lcmp_lt, lcmp_gt, gf_10, z7]
          · simp (disch := omega) only [be_X7_bandTold_3, be_X7_bandTold_12, be_X7_bandTold_14, be_X7_bandTold_15, Option.bind_some, cond_true, cond_false, decide_true, decide_false, Bool.not_true, Bool.not_false, ite_true, ite_false, and_self, true_and, and_true, or_self, true_or, or_true, false_or, or_false, decide_eq_true_eq, Int.reduceAdd, Int.reduceSub, Int.reduceMul, Int.reduceNeg, Int.reduceEq, Int.reduceLT, Int.reduceLE, Int.reduceNe, lcmp_z, lcmp_le, lcmp_ge, lcmp_lt, lcmp_gt, gf_17, n1]
        · refine ⟨0, ?_, ?_⟩
          · simp (disch := omega) only [be_X6_bandTold_2, be_X6_bandTold_6, Option.bind_some, cond_true, cond_false, decide_true, decide_false, Bool.not_true, Bool.not_false, ite_true, ite_false, and_self, true_and, and_true, or_self, true_or, or_true, false_or, or_false, decide_eq_true_eq, Int.reduceAdd, Int.reduceSub, Int.reduceMul, Int.reduceNeg, Int.reduceEq, Int.reduceLT, Int.reduceLE, Int.reduceNe, lcmp_z, lcmp_le, lcmp_ge, lcmp_lt, lcmp_gt, gf_10, gf_30, z1, zl]
          · simp (disch := omega) only [be_X7_bandTold_3, be_X7_bandTold_16, be_X7_bandTold_18, be_X7_bandTold_19, Option.bind_some, cond_true, cond_false, decide_true, decide_false, Bool.not_true, Bool.not_false, ite_true, ite_false, and_self, true_and, and_true, or_self, true_or, or_true, false_or, or_false, decide_eq_true_eq, Int.reduceAdd, Int.reduceSub, Int.reduceMul, Int.reduceNeg, Int.reduceEq, Int.reduceLT, Int.reduceLE, Int.reduceNe, lcmp_z, lcmp_le, lcmp_ge, lcmp_lt, lcmp_gt, gf_17, n1]
        · refine ⟨0, ?_, ?_⟩
          · simp (disch := omega) only [be_X6_bandTold_2, be_X6_bandTold_7, Option.bind_some, cond_true, cond_false, decide_true, decide_false, Bool.not_true, Bool.not_false, ite_true, ite_false, and_self, true_and, and_true, or_self, true_or, or_true, false_or, or_false, decide_eq_true_eq, Int.reduceAdd, Int.reduceSub, Int.reduceMul, Int.reduceNeg, Int.reduceEq, Int.reduceLT, Int.reduceLE, Int.reduceNe, lcmp_z, lcmp_le, lcmp_ge, lcmp_lt, lcmp_gt, cls_10, pos_10, hce]
          · simp (disch := omega) only [be_X7_bandTold_3, be_X7_bandTold_20, Option.bind_some, cond_true, cond_false, decide_true, decide_false, Bool.not_true, Bool.not_false, ite_true, ite_false, and_self, true_and, and_true, or_self, true_or, or_true, false_or, or_false, decide_eq_true_eq, Int.reduceAdd, Int.reduceSub, Int.reduceMul, Int.reduceNeg, Int.reduceEq, Int.reduceLT, Int.reduceLE, Int.reduceNe, lcmp_z, lcmp_le, lcmp_ge, lcmp_lt, lcmp_gt, cls_17, hen]
        · refine ⟨0, ?_, ?_⟩
          · simp (disch := omega) only [be_X6_bandTold_2, be_X6_bandTold_8, Option.bind_some, cond_true, cond_false, decide_true, decide_false, Bool.not_true, Bool.not_false, ite_true, ite_false, and_self, true_and, and_true, or_self, true_or, or_true, false_or, or_false, decide_eq_true_eq, Int.reduceAdd, Int.reduceSub, Int.reduceMul, Int.reduceNeg, Int.reduceEq, Int.reduceLT, Int.reduceLE, Int.reduceNe, lcmp_z, lcmp_le, lcmp_ge, lcmp_lt, lcmp_gt, gf_10, z6]
          · simp (disch := omega) only [be_X7_bandTold_3, be_X7_bandTold_21, be_X7_bandTold_23, be_X7_bandTold_24, Option.bind_some, cond_true, cond_false, decide_true, decide_false, Bool.not_true, Bool.not_false, ite_true, ite_false, and_self, true_and, and_true, or_self, true_or, or_true, false_or, or_false, decide_eq_true_eq, Int.reduceAdd, Int.reduceSub, Int.reduceMul, Int.reduceNeg, Int.reduceEq, Int.reduceLT, Int.reduceLE, Int.reduceNe, lcmp_z, lcmp_le, lcmp_ge, lcmp_lt, lcmp_gt, gf_17, n1]
        · refine ⟨R 61 b, ?_, ?_⟩
          · simp (disch := omega) only [be_X6_bandTold_2, be_X6_bandTold_9, Option.bind_some, cond_true, cond_false, decide_true, decide_false, Bool.not_true, Bool.not_false, ite_true, ite_false, and_self, true_and, and_true, or_self, true_or, or_true, false_or, or_false, decide_eq_true_eq, Int.reduceAdd, Int.reduceSub, Int.reduceMul, Int.reduceNeg, Int.reduceEq, Int.reduceLT, Int.reduceLE, Int.reduceNe, lcmp_z, lcmp_le, lcmp_ge, lcmp_lt, lcmp_gt, gf_10, gf_15, z2, nf]
          · simp (disch := omega) only [be_X7_bandTold_3, be_X7_bandTold_25, Option.bind_some, cond_true, cond_false, decide_true, decide_false, Bool.not_true, Bool.not_false, ite_true, ite_false, and_self, true_and, and_true, or_self, true_or, or_true, false_or, or_false, decide_eq_true_eq, Int.reduceAdd, Int.reduceSub, Int.reduceMul, Int.reduceNeg, Int.reduceEq, Int.reduceLT, Int.reduceLE, Int.reduceNe, lcmp_z, lcmp_le, lcmp_ge, lcmp_lt, lcmp_gt, gf_17, r12, ra_61]
        · refine ⟨R 317 b, ?_, ?_⟩
          · simp (disch := omega) only [be_X6_bandTold_2, be_X6_bandTold_10, Option.bind_some, cond_true, cond_false, decide_true, decide_false, Bool.not_true, Bool.not_false, ite_true, ite_false, and_self, true_and, and_true, or_self, true_or, or_true, false_or, or_false, decide_eq_true_eq, Int.reduceAdd, Int.reduceSub, Int.reduceMul, Int.reduceNeg, Int.reduceEq, Int.reduceLT, Int.reduceLE, Int.reduceNe, lcmp_z, lcmp_le, lcmp_ge, lcmp_lt, lcmp_gt, gf_10, gf_15, z3, nt]
          · simp (disch := omega) only [be_X7_bandTold_3, be_X7_bandTold_26, Option.bind_some, cond_true, cond_false, decide_true, decide_false, Bool.not_true, Bool.not_false, ite_true, ite_false, and_self, true_and, and_true, or_self, true_or, or_true, false_or, or_false, decide_eq_true_eq, Int.reduceAdd, Int.reduceSub, Int.reduceMul, Int.reduceNeg, Int.reduceEq, Int.reduceLT, Int.reduceLE, Int.reduceNe, lcmp_z, lcmp_le, lcmp_ge, lcmp_lt, lcmp_gt, gf_17, r13, ra_317]
      · have hnx := (RR_next H f0 f1).2.2
        have n1 := H.2.2.2.2.2.1
        obtain ⟨⟨z0, z1, z2, z3, z4, z5, z6, z7, z8, z9, z10⟩, -⟩ := H.2.2.2.2.2.2.2.2.2.2.2.2.2.2.2.2.2.1 b b0 b1
        have zl := (row_len z9).1
        obtain ⟨_, _, _, _, _, _, zo, _⟩ := z10
        have hce := cl_ending b0 f0 z2
        rw [if_neg (by omega)] at hen
        have hce : am_evm am_PP nX0_ending [(2, 10 + 256 * b)] C = some (if R 1333 (R 61 b) = 3 then 1 else if R 1333 (R 61 b) = 4 then 2 else 0, C) := by
          rw [hce]
          by_cases d3 : R 1333 (R 61 b) = 3
          · rw [if_pos d3, if_pos (by omega)]
          · rw [if_neg d3, if_neg (by omega)]
            by_cases d4 : R 1333 (R 61 b) = 4
            · rw [if_pos d4, if_pos (by omega)]
            · rw [if_neg d4, if_neg (by omega)]
        clear hnx
        obtain ⟨r1, r2, r3, r4, r5, r6, r7, r8, r9, r10, r12, r13, r14, r15, r16, r18, r19, r20, r21, r22, r23, r24, r25, r26, r27, r28, r30, r31, r32, r33, r34, r35, r36, r37, r38, r39, r40, r41, r44, r49, r50, r51, r52, r54⟩ := hR
        rcases hx with rfl | rfl | rfl | rfl | rfl | rfl | rfl | rfl
        · refine ⟨R 1341 b, ?_, ?_⟩
          · simp (disch := omega) only [be_X6_bandTold_2, be_X6_bandTold_3, Option.bind_some, cond_true, cond_false, decide_true, decide_false, Bool.not_true, Bool.not_false, ite_true, ite_false, and_self, true_and, and_true, or_self, true_or, or_true, false_or, or_false, decide_eq_true_eq, Int.reduceAdd, Int.reduceSub, Int.reduceMul, Int.reduceNeg, Int.reduceEq, Int.reduceLT, Int.reduceLE, Int.reduceNe, lcmp_z, lcmp_le, lcmp_ge, lcmp_lt, lcmp_gt, gf_10, z5]
          · simp (disch := omega) only [be_X7_bandTold_3, be_X7_bandTold_4, be_X7_bandTold_5, be_X7_bandTold_7, Option.bind_some, cond_true, cond_false, decide_true, decide_false, Bool.not_true, Bool.not_false, ite_true, ite_false, and_self, true_and, and_true, or_self, true_or, or_true, false_or, or_false, decide_eq_true_eq, Int.reduceAdd, Int.reduceSub, Int.reduceMul, Int.reduceNeg, Int.reduceEq, Int.reduceLT, Int.reduceLE, Int.reduceNe, lcmp_z, lcmp_le, lcmp_ge, lcmp_lt, lcmp_gt, gf_17, n1, r18, ra_1341]
        · refine ⟨R 1597 b, ?_, ?_⟩
          · simp (disch := omega) only [be_X6_bandTold_2, be_X6_bandTold_4, Option.bind_some, cond_true, cond_false, decide_true, decide_false, Bool.not_true, Bool.not_false, ite_true, ite_false, and_self, true_and, and_true, or_self, true_or, or_true, false_or, or_false, decide_eq_true_eq, Int.reduceAdd, Int.reduceSub, Int.reduceMul, Int.reduceNeg, Int.reduceEq, Int.reduceLT, Int.reduceLE, Int.reduceNe, lcmp_z, lcmp_le, lcmp_ge, lcmp_lt, lcmp_gt, gf_10, zo]
          · simp (disch := omega) only [be_X7_bandTold_3, be_X7_bandTold_8, be_X7_bandTold_9, be_X7_bandTold_11, Option.bind_some, cond_true, cond_false, decide_true, decide_false, Bool.not_true, Bool.not_false, ite_true, ite_false, and_self, true_and, and_true, or_self, true_or, or_true, false_or, or_false, decide_eq_true_eq, Int.reduceAdd, Int.reduceSub, Int.reduceMul, Int.reduceNeg, Int.reduceEq, Int.reduceLT, Int.reduceLE, Int.reduceNe, lcmp_z, lcmp_le, lcmp_ge, lcmp_lt, lcmp_gt, gf_17, n1, r19, ra_1597]
        · refine ⟨R 1853 b, ?_, ?_⟩
          · simp (disch := omega) only [be_X6_bandTold_2, be_X6_bandTold_5, Option.bind_some, cond_true, cond_false, decide_true, decide_false, Bool.not_true, Bool.not_false, ite_true, ite_false, and_self, true_and, and_true, or_self, true_or, or_true, false_or, or_false, decide_eq_true_eq, Int.reduceAdd, Int.reduceSub, Int.reduceMul, Int.reduceNeg, Int.reduceEq, Int.reduceLT, Int.reduceLE, Int.reduceNe, lcmp_z, lcmp_le, lcmp_ge, lcmp_lt, lcmp_gt, gf_10, z7]
          · simp (disch := omega) only [be_X7_bandTold_3, be_X7_bandTold_12, be_X7_bandTold_13, be_X7_bandTold_15, Option.bind_some, cond_true, cond_false, decide_true, decide_false, Bool.not_true, Bool.not_false, ite_true, ite_false, and_self, true_and, and_true, or_self, true_or, or_true, false_or, or_false, decide_eq_true_eq, Int.reduceAdd, Int.reduceSub, Int.reduceMul, Int.reduceNeg, Int.reduceEq, Int.reduceLT, Int.reduceLE, Int.reduceNe, lcmp_z, lcmp_le, lcmp_ge, lcmp_lt, lcmp_gt, gf_17, n1, r20, ra_1853]
        · refine ⟨R 2109 b, ?_, ?_⟩
          · simp (disch := omega) only [be_X6_bandTold_2, be_X6_bandTold_6, Option.bind_some, cond_true, cond_false, decide_true, decide_false, Bool.not_true, Bool.not_false, ite_true, ite_false, and_self, true_and, and_true, or_self, true_or, or_true, false_or, or_false, decide_eq_true_eq, Int.reduceAdd, Int.reduceSub, Int.reduceMul, Int.reduceNeg, Int.reduceEq, Int.reduceLT, Int.reduceLE, Int.reduceNe, lcmp_z, lcmp_le, lcmp_ge, lcmp_lt, lcmp_gt, gf_10, gf_30, z1, zl]
          · simp (disch := omega) only [be_X7_bandTold_3, be_X7_bandTold_16, be_X7_bandTold_17, be_X7_bandTold_19, Option.bind_some, cond_true, cond_false, decide_true, decide_false, Bool.not_true, Bool.not_false, ite_true, ite_false, and_self, true_and, and_true, or_self, true_or, or_true, false_or, or_false, decide_eq_true_eq, Int.reduceAdd, Int.reduceSub, Int.reduceMul, Int.reduceNeg, Int.reduceEq, Int.reduceLT, Int.reduceLE, Int.reduceNe, lcmp_z, lcmp_le, lcmp_ge, lcmp_lt, lcmp_gt, gf_17, n1, r21, ra_2109]
        · refine ⟨if R 1333 (R 61 b) = 3 then 1 else if R 1333 (R 61 b) = 4 then 2 else 0, ?_, ?_⟩
          rotate_left
          · simp (disch := omega) only [be_X7_bandTold_3, be_X7_bandTold_20, Option.bind_some, cond_true, cond_false, decide_true, decide_false, Bool.not_true, Bool.not_false, ite_true, ite_false, and_self, true_and, and_true, or_self, true_or, or_true, false_or, or_false, decide_eq_true_eq, Int.reduceAdd, Int.reduceSub, Int.reduceMul, Int.reduceNeg, Int.reduceEq, Int.reduceLT, Int.reduceLE, Int.reduceNe, lcmp_z, lcmp_le, lcmp_ge, lcmp_lt, lcmp_gt, cls_17, hen]
          · simp (disch := omega) only [be_X6_bandTold_2, be_X6_bandTold_7, Option.bind_some, cond_true, cond_false, decide_true, decide_false, Bool.not_true, Bool.not_false, ite_true, ite_false, and_self, true_and, and_true, or_self, true_or, or_true, false_or, or_false, decide_eq_true_eq, Int.reduceAdd, Int.reduceSub, Int.reduceMul, Int.reduceNeg, Int.reduceEq, Int.reduceLT, Int.reduceLE, Int.reduceNe, lcmp_z, lcmp_le, lcmp_ge, lcmp_lt, lcmp_gt, cls_10, pos_10, hce]
        · refine ⟨R 2365 b, ?_, ?_⟩
          · simp (disch := omega) only [be_X6_bandTold_2, be_X6_bandTold_8, Option.bind_some, cond_true, cond_false, decide_true, decide_false, Bool.not_true, Bool.not_false, ite_true, ite_false, and_self, true_and, and_true, or_self, true_or, or_true, false_or, or_false, decide_eq_true_eq, Int.reduceAdd, Int.reduceSub, Int.reduceMul, Int.reduceNeg, Int.reduceEq, Int.reduceLT, Int.reduceLE, Int.reduceNe, lcmp_z, lcmp_le, lcmp_ge, lcmp_lt, lcmp_gt, gf_10, z6]
          · simp (disch := omega) only [be_X7_bandTold_3, be_X7_bandTold_21, be_X7_bandTold_22, be_X7_bandTold_24, Option.bind_some, cond_true, cond_false, decide_true, decide_false, Bool.not_true, Bool.not_false, ite_true, ite_false, and_self, true_and, and_true, or_self, true_or, or_true, false_or, or_false, decide_eq_true_eq, Int.reduceAdd, Int.reduceSub, Int.reduceMul, Int.reduceNeg, Int.reduceEq, Int.reduceLT, Int.reduceLE, Int.reduceNe, lcmp_z, lcmp_le, lcmp_ge, lcmp_lt, lcmp_gt, gf_17, n1, r22, ra_2365]
        · refine ⟨R 61 b, ?_, ?_⟩
          · simp (disch := omega) only [be_X6_bandTold_2, be_X6_bandTold_9, Option.bind_some, cond_true, cond_false, decide_true, decide_false, Bool.not_true, Bool.not_false, ite_true, ite_false, and_self, true_and, and_true, or_self, true_or, or_true, false_or, or_false, decide_eq_true_eq, Int.reduceAdd, Int.reduceSub, Int.reduceMul, Int.reduceNeg, Int.reduceEq, Int.reduceLT, Int.reduceLE, Int.reduceNe, lcmp_z, lcmp_le, lcmp_ge, lcmp_lt, lcmp_gt, gf_10, gf_15, z2, nf]
          · simp (disch := omega) only [be_X7_bandTold_3, be_X7_bandTold_25, Option.bind_some, cond_true, cond_false, decide_true, decide_false, Bool.not_true, Bool.not_false, ite_true, ite_false, and_self, true_and, and_true, or_self, true_or, or_true, false_or, or_false, decide_eq_true_eq, Int.reduceAdd, Int.reduceSub, Int.reduceMul, Int.reduceNeg, Int.reduceEq, Int.reduceLT, Int.reduceLE, Int.reduceNe, lcmp_z, lcmp_le, lcmp_ge, lcmp_lt, lcmp_gt, gf_17, r12, ra_61]
        · refine ⟨R 317 b, ?_, ?_⟩
          · simp (disch := omega) only [be_X6_bandTold_2, be_X6_bandTold_10, Option.bind_some, cond_true, cond_false, decide_true, decide_false, Bool.not_true, Bool.not_false, ite_true, ite_false, and_self, true_and, and_true, or_self, true_or, or_true, false_or, or_false, decide_eq_true_eq, Int.reduceAdd, Int.reduceSub, Int.reduceMul, Int.reduceNeg, Int.reduceEq, Int.reduceLT, Int.reduceLE, Int.reduceNe, lcmp_z, lcmp_le, lcmp_ge, lcmp_lt, lcmp_gt, gf_10, gf_15, z3, nt]
          · simp (disch := omega) only [be_X7_bandTold_3, be_X7_bandTold_26, Option.bind_some, cond_true, cond_false, decide_true, decide_false, Bool.not_true, Bool.not_false, ite_true, ite_false, and_self, true_and, and_true, or_self, true_or, or_true, false_or, or_false, decide_eq_true_eq, Int.reduceAdd, Int.reduceSub, Int.reduceMul, Int.reduceNeg, Int.reduceEq, Int.reduceLT, Int.reduceLE, Int.reduceNe, lcmp_z, lcmp_le, lcmp_ge, lcmp_lt, lcmp_gt, gf_17, r13, ra_317]
    · rw [if_neg cx] at hin
      refine ⟨-1, ?_, ?_⟩
      · have d0 : ¬ x = 0 := by omega
        have d1 : ¬ x = 1 := by omega
        have d2 : ¬ x = 2 := by omega
        have d3 : ¬ x = 3 := by omega
        have d4 : ¬ x = 4 := by omega
        have d5 : ¬ x = 5 := by omega
        have d6 : ¬ x = 6 := by omega
        have d7 : ¬ x = 7 := by omega
        simp (disch := omega) only [be_X6_bandTold_m, be_X6_bandTold_0, be_X6_bandTold_2, be_X6_bandTold_11, Option.bind_some, cond_true, cond_false, decide_true, decide_false, Bool.not_true, Bool.not_false, ite_true, ite_false, and_self, true_and, and_true, or_self, true_or, or_true, false_or, or_false, decide_eq_true_eq, Int.reduceAdd, Int.reduceSub, Int.reduceMul, Int.reduceNeg, Int.reduceEq, Int.reduceLT, Int.reduceLE, Int.reduceNe, lcmp_z, lcmp_le, lcmp_ge, lcmp_lt, lcmp_gt, cls_16, hat, decide_eq_false d0, decide_eq_false d1, decide_eq_false d2, decide_eq_false d3, decide_eq_false d4, decide_eq_false d5, decide_eq_false d6, decide_eq_false d7, decide_eq_true, decide_eq_false, if_pos, if_neg]
      · simp (disch := omega) only [be_X7_bandTold_m, be_X7_bandTold_0, be_X7_bandTold_1, be_X7_bandTold_2, Option.bind_some, cond_true, cond_false, decide_true, decide_false, Bool.not_true, Bool.not_false, ite_true, ite_false, and_self, true_and, and_true, or_self, true_or, or_true, false_or, or_false, decide_eq_true_eq, Int.reduceAdd, Int.reduceSub, Int.reduceMul, Int.reduceNeg, Int.reduceEq, Int.reduceLT, Int.reduceLE, Int.reduceNe, lcmp_z, lcmp_le, lcmp_ge, lcmp_lt, lcmp_gt, decide_eq_true, decide_eq_false, if_pos, if_neg, cls_17, hiw, hin]
  · rw [if_neg cb] at hat hiw
    refine ⟨-1, ?_, ?_⟩
    · simp (disch := omega) only [be_X6_bandTold_m, be_X6_bandTold_0, be_X6_bandTold_1, Option.bind_some, cond_true, cond_false, decide_true, decide_false, Bool.not_true, Bool.not_false, ite_true, ite_false, and_self, true_and, and_true, or_self, true_or, or_true, false_or, or_false, decide_eq_true_eq, Int.reduceAdd, Int.reduceSub, Int.reduceMul, Int.reduceNeg, Int.reduceEq, Int.reduceLT, Int.reduceLE, Int.reduceNe, lcmp_z, lcmp_le, lcmp_ge, lcmp_lt, lcmp_gt, decide_eq_true, decide_eq_false, if_pos, if_neg, cls_16, hat]
    · simp (disch := omega) only [be_X7_bandTold_m, be_X7_bandTold_0, be_X7_bandTold_2, Option.bind_some, cond_true, cond_false, decide_true, decide_false, Bool.not_true, Bool.not_false, ite_true, ite_false, and_self, true_and, and_true, or_self, true_or, or_true, false_or, or_false, decide_eq_true_eq, Int.reduceAdd, Int.reduceSub, Int.reduceMul, Int.reduceNeg, Int.reduceEq, Int.reduceLT, Int.reduceLE, Int.reduceNe, lcmp_z, lcmp_le, lcmp_ge, lcmp_lt, lcmp_gt, decide_eq_true, decide_eq_false, if_pos, if_neg, cls_17, hiw]
