/-! what is told: patterns, digests, widenings, failures -/
theorem at_w {C R : am_M} (hh : hall C R) (hn : net C R) (w : Int) : am_evm am_PP nX6_weaverAt [(2, 16), (0, w)] C = some (if 0 ≤ w ∧ w < R 17 0 then 15 + 256 * w else 0, C) := by
  obtain ⟨g0, g1, g2, g3, g4, g5, g6, g7, g8, g9, g10, g11, g12, g13⟩ := hh
  exact cl_weaverAt g0 g7 g10 (fun u u0 u1 => (hn.1 u u0 u1).1)
theorem at_b {C R : am_M} (hh : hall C R) (hn : net C R) (b : Int) : am_evm am_PP nX6_bandAt [(2, 16), (0, b)] C = some (if 0 ≤ b ∧ b < R 17 11 then 10 + 256 * b else 0, C) := by
  obtain ⟨g0, g1, g2, g3, g4, g5, g6, g7, g8, g9, g10, g11, g12, g13⟩ := hh
  exact cl_bandAt g1 g8 g12 (fun u u0 u1 => (hn.2 u u0 u1).1)
theorem pat_loop {R : am_M} {b i t : Int} {h V : Int → Int} (hR : rs R) (q : rb R b h V t) (hc : R 17 29 ≤ 42000) (i1 : i < R 2109 b) (i2 : i < 300) : ∀ (n : Nat) (k : Int), 0 ≤ k → k + n = i → am_ev am_PP nX7_patternOf 1 [17, i, h k, k] [] R = some (V i, R) := by
  obtain ⟨r1, r2, r3, r4, r5, r6, r7, r8, r9, r10, r12, r13, r14, r15, r16, r18, r19, r20, r21, r22, r23, r24, r25, r26, r27, r28, r30, r31, r32, r33, r34, r35, r36, r37, r38, r39, r40, r41, r44, r49, r50, r51, r52, r54⟩ := hR
  obtain ⟨a1, a2, a3, a4, a5, a6, a7, a8, a9⟩ := q
  intro n
  induction n with
  | zero =>
    intro k k0 hk
    have e : k = i := by omega
    subst e
    obtain ⟨x1, x2, x3⟩ := a7 k k0 i1
    simp (disch := omega) only [be_X7_patternOf_1, be_X7_patternOf_3, Option.bind_some, cond_true, cond_false, decide_true, decide_false, Bool.not_true, Bool.not_false, ite_true, ite_false, and_self, true_and, and_true, or_self, true_or, or_true, false_or, or_false, decide_eq_true_eq, Int.reduceAdd, Int.reduceSub, Int.reduceMul, Int.reduceNeg, Int.reduceEq, Int.reduceLT, Int.reduceLE, Int.reduceNe, lcmp_z, lcmp_le, lcmp_ge, lcmp_lt, lcmp_gt, decide_eq_true, decide_eq_false, if_pos, if_neg, gf_17, r27, ra_69, x3]
  | succ n ih =>
    intro k k0 hk
    obtain ⟨x1, x2, x3⟩ := a7 k k0 (by omega)
    have y := a8 k k0 (by omega)
    rw [← ih (k + 1) (by omega) (by omega)]
    have e : am_ev am_PP nX7_patternOf 1 [17, i, h k, k] [] R = am_ev am_PP nX7_patternOf 2 [17, i, h k, k] [] R := by
      simp (disch := omega) only [be_X7_patternOf_1, Option.bind_some, cond_true, cond_false, decide_true, decide_false, Bool.not_true, Bool.not_false, ite_true, ite_false, and_self, true_and, and_true, or_self, true_or, or_true, false_or, or_false, decide_eq_true_eq, Int.reduceAdd, Int.reduceSub, Int.reduceMul, Int.reduceNeg, Int.reduceEq, Int.reduceLT, Int.reduceLE, Int.reduceNe, lcmp_z, lcmp_le, lcmp_ge, lcmp_lt, lcmp_gt, decide_eq_true, decide_eq_false, if_pos, if_neg]
    rw [e]
    simp (disch := omega) only [be_X7_patternOf_2, Option.bind_some, cond_true, cond_false, decide_true, decide_false, Bool.not_true, Bool.not_false, ite_true, ite_false, and_self, true_and, and_true, or_self, true_or, or_true, false_or, or_false, decide_eq_true_eq, Int.reduceAdd, Int.reduceSub, Int.reduceMul, Int.reduceNeg, Int.reduceEq, Int.reduceLT, Int.reduceLE, Int.reduceNe, lcmp_z, lcmp_le, lcmp_ge, lcmp_lt, lcmp_gt, decide_eq_true, decide_eq_false, if_pos, if_neg, gf_17, r28, ra_70, y, am_w32_ok]
theorem rf_pattern {R : am_M} {b i t : Int} {h V : Int → Int} (hR : rs R) (q : rb R b h V t) (b0 : 0 ≤ b) (b1 : b < 60) (hc : R 17 29 ≤ 42000) (i0 : 0 ≤ i) (i1 : i < R 2109 b) (i2 : i < 300) : am_evm am_PP nX7_patternOf [(2, 17), (0, b), (0, i)] R = some (V i, R) := by
  rw [← pat_loop hR q hc i1 i2 i.toNat 0 (by omega) (by omega)]
  obtain ⟨r1, r2, r3, r4, r5, r6, r7, r8, r9, r10, r12, r13, r14, r15, r16, r18, r19, r20, r21, r22, r23, r24, r25, r26, r27, r28, r30, r31, r32, r33, r34, r35, r36, r37, r38, r39, r40, r41, r44, r49, r50, r51, r52, r54⟩ := hR
  obtain ⟨a1, a2, a3, a4, a5, a6, a7, a8, a9⟩ := q
  have e := (a6 (by omega)).1
  simp (disch := omega) only [be_X7_patternOf_m, be_X7_patternOf_0, Option.bind_some, cond_true, cond_false, decide_true, decide_false, Bool.not_true, Bool.not_false, ite_true, ite_false, and_self, true_and, and_true, or_self, true_or, or_true, false_or, or_false, decide_eq_true_eq, Int.reduceAdd, Int.reduceSub, Int.reduceMul, Int.reduceNeg, Int.reduceEq, Int.reduceLT, Int.reduceLE, Int.reduceNe, lcmp_z, lcmp_le, lcmp_ge, lcmp_lt, lcmp_gt, gf_17, r24, ra_2621, e]
theorem api_woven (w i : Int) : API nX6_woven nX7_woven [(0, w), (0, i)] := by
  intro C R H
  obtain ⟨hR, hh, hn, ho⟩ := INV_hall H
  obtain ⟨g0, g1, g2, g3, g4, g5, g6, g7, g8, g9, g10, g11, g12, g13⟩ := id hh
  have hat := at_w hh hn w
  have hiw := rf_isWeaver w g9 g10
  have hin := rf_in R i 0 299
  suffices hs : ∃ v, am_evm am_PP nX6_woven [(2, 16), (0, w), (0, i)] C = some (v, C) ∧ am_evm am_PP nX7_woven [(2, 17), (0, w), (0, i)] R = some (v, R) by
    obtain ⟨v, a, b⟩ := hs
    exact ⟨v, C, R, a, b, H, cf2_refl C, rfr_refl R⟩
  obtain ⟨h6, H⟩ := H
  by_cases cw : 0 ≤ w ∧ w < R 17 0
  · obtain ⟨w0, w1⟩ := cw
    rw [if_pos ⟨w0, w1⟩] at hat hiw
    obtain ⟨x1, x2, x3⟩ := hn.1 w w0 w1
    obtain ⟨⟨-, -, -, c3, -, -, -⟩, hk, -, -, -, -, -, -, -, -, -, hrow⟩ := id x2
    by_cases k9 : R 309 w = 9
    · rcases H with ⟨_, _, _, _, n1, n2, n3, n4, n5, n6⟩ | ⟨h, V, t, ⟨_, _, _, _, hwh, r1', r2', r3', r4', r5', r6', r7', r8', r9', r10', r11', r12', r13', r14'⟩, hwd⟩
      · obtain ⟨_, _, _, _, z⟩ := n6 w w0 w1
        have z := z k9
        obtain ⟨n, f, hr⟩ := hrow
        have hl := row_len hr
        have hz := row_at (i := i) (rok_w w0 (by omega)) hr
        rw [if_neg (by omega)] at hz
        obtain ⟨r1, r2, r3, r4, r5, r6, r7, r8, r9, r10, r12, r13, r14, r15, r16, r18, r19, r20, r21, r22, r23, r24, r25, r26, r27, r28, r30, r31, r32, r33, r34, r35, r36, r37, r38, r39, r40, r41, r44, r49, r50, r51, r52, r54⟩ := hR
        refine ⟨0, ?_, ?_⟩
        · simp (disch := omega) only [be_X6_woven_m, be_X6_woven_0, be_X6_woven_1, be_X6_woven_3, be_X6_woven_4, Option.bind_some, cond_true, cond_false, decide_true, decide_false, Bool.not_true, Bool.not_false, ite_true, ite_false, and_self, true_and, and_true, or_self, true_or, or_true, false_or, or_false, decide_eq_true_eq, Int.reduceAdd, Int.reduceSub, Int.reduceMul, Int.reduceNeg, Int.reduceEq, Int.reduceLT, Int.reduceLE, Int.reduceNe, lcmp_z, lcmp_le, lcmp_ge, lcmp_lt, lcmp_gt, decide_eq_true, decide_eq_false, if_pos, if_neg, cls_16, gf_15, cls_20, pos_20, hat, hk, k9, c3, hz]
        · simp (disch := omega) only [be_X7_woven_m, be_X7_woven_0, be_X7_woven_6, be_X7_woven_7, be_X7_woven_9, be_X7_woven_10, Option.bind_some, cond_true, cond_false, decide_true, decide_false, Bool.not_true, Bool.not_false, ite_true, ite_false, and_self, true_and, and_true, or_self, true_or, or_true, false_or, or_false, decide_eq_true_eq, Int.reduceAdd, Int.reduceSub, Int.reduceMul, Int.reduceNeg, Int.reduceEq, Int.reduceLT, Int.reduceLE, Int.reduceNe, lcmp_z, lcmp_le, lcmp_ge, lcmp_lt, lcmp_gt, decide_eq_true, decide_eq_false, if_pos, if_neg, gf_17, n1]
      · obtain ⟨-, -, -, -, -, -, -, p8⟩ := r12' w w0 w1
        obtain ⟨q1, q2⟩ := p8 k9
        clear p8
        have hz := row_at (i := i) (rok_w w0 (by omega)) q1
        have hp := (x3.1 0 (by omega) (by omega)).2
        have hw0 := (hwh w w0 w1).1 0 (by omega) (by rw [k9]; decide)
        rw [Int.add_zero] at hp hw0
        obtain ⟨hp1, hp2⟩ := hp hw0
        obtain ⟨_, z2, _, _, _, _⟩ := r13' _ hw0 hp1
        obtain ⟨_, s2, _, s4, _⟩ := id z2
        by_cases ci : 0 ≤ i ∧ i ≤ 299
        · rw [if_pos ci] at hin
          by_cases cj : i < R 1845 w
          · rw [if_pos (by omega)] at hz
            have hpt := rf_pattern hR z2 hw0 (by omega) (by omega) ci.1 (by omega) (by omega)
            obtain ⟨r1, r2, r3, r4, r5, r6, r7, r8, r9, r10, r12, r13, r14, r15, r16, r18, r19, r20, r21, r22, r23, r24, r25, r26, r27, r28, r30, r31, r32, r33, r34, r35, r36, r37, r38, r39, r40, r41, r44, r49, r50, r51, r52, r54⟩ := hR
            refine ⟨V (R 63 (3 * w)) i, ?_, ?_⟩
            rotate_left
            · simp (disch := omega) only [be_X7_woven_m, be_X7_woven_0, be_X7_woven_1, be_X7_woven_2, be_X7_woven_3, be_X7_woven_4, be_X7_woven_5, be_X7_woven_7, be_X7_woven_8, be_X7_woven_10, Option.bind_some, cond_true, cond_false, decide_true, decide_false, Bool.not_true, Bool.not_false, ite_true, ite_false, and_self, true_and, and_true, or_self, true_or, or_true, false_or, or_false, decide_eq_true_eq, Int.reduceAdd, Int.reduceSub, Int.reduceMul, Int.reduceNeg, Int.reduceEq, Int.reduceLT, Int.reduceLE, Int.reduceNe, lcmp_z, lcmp_le, lcmp_ge, lcmp_lt, lcmp_gt, decide_eq_true, decide_eq_false, if_pos, if_neg, gf_17, cls_17, r1', hiw, r1, r34, r3, ra_309, k9, hin, ra_1845, ra_63, am_w32_ok, hpt]
            · simp (disch := omega) only [be_X6_woven_m, be_X6_woven_0, be_X6_woven_1, be_X6_woven_3, be_X6_woven_4, Option.bind_some, cond_true, cond_false, decide_true, decide_false, Bool.not_true, Bool.not_false, ite_true, ite_false, and_self, true_and, and_true, or_self, true_or, or_true, false_or, or_false, decide_eq_true_eq, Int.reduceAdd, Int.reduceSub, Int.reduceMul, Int.reduceNeg, Int.reduceEq, Int.reduceLT, Int.reduceLE, Int.reduceNe, lcmp_z, lcmp_le, lcmp_ge, lcmp_lt, lcmp_gt, decide_eq_true, decide_eq_false, if_pos, if_neg, cls_16, gf_15, cls_20, pos_20, hat, hk, k9, c3, hz]
          · rw [if_neg (by omega)] at hz
            obtain ⟨r1, r2, r3, r4, r5, r6, r7, r8, r9, r10, r12, r13, r14, r15, r16, r18, r19, r20, r21, r22, r23, r24, r25, r26, r27, r28, r30, r31, r32, r33, r34, r35, r36, r37, r38, r39, r40, r41, r44, r49, r50, r51, r52, r54⟩ := hR
            refine ⟨0, ?_, ?_⟩
            · simp (disch := omega) only [be_X6_woven_m, be_X6_woven_0, be_X6_woven_1, be_X6_woven_3, be_X6_woven_4, Option.bind_some, cond_true, cond_false, decide_true, decide_false, Bool.not_true, Bool.not_false, ite_true, ite_false, and_self, true_and, and_true, or_self, true_or, or_true, false_or, or_false, decide_eq_true_eq, Int.reduceAdd, Int.reduceSub, Int.reduceMul, Int.reduceNeg, Int.reduceEq, Int.reduceLT, Int.reduceLE, Int.reduceNe, lcmp_z, lcmp_le, lcmp_ge, lcmp_lt, lcmp_gt, decide_eq_true, decide_eq_false, if_pos, if_neg, cls_16, gf_15, cls_20, pos_20, hat, hk, k9, c3, hz]
            · simp (disch := omega) only [be_X7_woven_m, be_X7_woven_0, be_X7_woven_1, be_X7_woven_2, be_X7_woven_3, be_X7_woven_4, be_X7_woven_6, be_X7_woven_7, be_X7_woven_9, be_X7_woven_10, Option.bind_some, cond_true, cond_false, decide_true, decide_false, Bool.not_true, Bool.not_false, ite_true, ite_false, and_self, true_and, and_true, or_self, true_or, or_true, false_or, or_false, decide_eq_true_eq, Int.reduceAdd, Int.reduceSub, Int.reduceMul, Int.reduceNeg, Int.reduceEq, Int.reduceLT, Int.reduceLE, Int.reduceNe, lcmp_z, lcmp_le, lcmp_ge, lcmp_lt, lcmp_gt, decide_eq_true, decide_eq_false, if_pos, if_neg, gf_17, cls_17, r1', hiw, r1, r34, ra_309, k9, hin, ra_1845]
        · rw [if_neg ci] at hin
          rw [if_neg (by omega)] at hz
          obtain ⟨r1, r2, r3, r4, r5, r6, r7, r8, r9, r10, r12, r13, r14, r15, r16, r18, r19, r20, r21, r22, r23, r24, r25, r26, r27, r28, r30, r31, r32, r33, r34, r35, r36, r37, r38, r39, r40, r41, r44, r49, r50, r51, r52, r54⟩ := hR
          refine ⟨0, ?_, ?_⟩
          · simp (disch := omega) only [be_X6_woven_m, be_X6_woven_0, be_X6_woven_1, be_X6_woven_3, be_X6_woven_4, Option.bind_some, cond_true, cond_false, decide_true, decide_false, Bool.not_true, Bool.not_false, ite_true, ite_false, and_self, true_and, and_true, or_self, true_or, or_true, false_or, or_false, decide_eq_true_eq, Int.reduceAdd, Int.reduceSub, Int.reduceMul, Int.reduceNeg, Int.reduceEq, Int.reduceLT, Int.reduceLE, Int.reduceNe, lcmp_z, lcmp_le, lcmp_ge, lcmp_lt, lcmp_gt, decide_eq_true, decide_eq_false, if_pos, if_neg, cls_16, gf_15, cls_20, pos_20, hat, hk, k9, c3, hz]
          · simp (disch := omega) only [be_X7_woven_m, be_X7_woven_0, be_X7_woven_1, be_X7_woven_2, be_X7_woven_3, be_X7_woven_6, be_X7_woven_7, be_X7_woven_9, be_X7_woven_10, Option.bind_some, cond_true, cond_false, decide_true, decide_false, Bool.not_true, Bool.not_false, ite_true, ite_false, and_self, true_and, and_true, or_self, true_or, or_true, false_or, or_false, decide_eq_true_eq, Int.reduceAdd, Int.reduceSub, Int.reduceMul, Int.reduceNeg, Int.reduceEq, Int.reduceLT, Int.reduceLE, Int.reduceNe, lcmp_z, lcmp_le, lcmp_ge, lcmp_lt, lcmp_gt, decide_eq_true, decide_eq_false, if_pos, if_neg, gf_17, cls_17, r1', hiw, r1, ra_309, k9, hin]
    · refine ⟨0, ?_, ?_⟩
      · simp (disch := omega) only [be_X6_woven_m, be_X6_woven_0, be_X6_woven_1, be_X6_woven_2, be_X6_woven_4, Option.bind_some, cond_true, cond_false, decide_true, decide_false, Bool.not_true, Bool.not_false, ite_true, ite_false, and_self, true_and, and_true, or_self, true_or, or_true, false_or, or_false, decide_eq_true_eq, Int.reduceAdd, Int.reduceSub, Int.reduceMul, Int.reduceNeg, Int.reduceEq, Int.reduceLT, Int.reduceLE, Int.reduceNe, lcmp_z, lcmp_le, lcmp_ge, lcmp_lt, lcmp_gt, decide_eq_true, decide_eq_false, if_pos, if_neg, cls_16, gf_15, hat, hk]
      · obtain ⟨r1, r2, r3, r4, r5, r6, r7, r8, r9, r10, r12, r13, r14, r15, r16, r18, r19, r20, r21, r22, r23, r24, r25, r26, r27, r28, r30, r31, r32, r33, r34, r35, r36, r37, r38, r39, r40, r41, r44, r49, r50, r51, r52, r54⟩ := hR
        by_cases c17 : R 17 17 = 0
        · simp (disch := omega) only [be_X7_woven_m, be_X7_woven_0, be_X7_woven_6, be_X7_woven_7, be_X7_woven_9, be_X7_woven_10, Option.bind_some, cond_true, cond_false, decide_true, decide_false, Bool.not_true, Bool.not_false, ite_true, ite_false, and_self, true_and, and_true, or_self, true_or, or_true, false_or, or_false, decide_eq_true_eq, Int.reduceAdd, Int.reduceSub, Int.reduceMul, Int.reduceNeg, Int.reduceEq, Int.reduceLT, Int.reduceLE, Int.reduceNe, lcmp_z, lcmp_le, lcmp_ge, lcmp_lt, lcmp_gt, decide_eq_true, decide_eq_false, if_pos, if_neg, gf_17, c17]
        · simp (disch := omega) only [be_X7_woven_m, be_X7_woven_0, be_X7_woven_1, be_X7_woven_2, be_X7_woven_6, be_X7_woven_7, be_X7_woven_9, be_X7_woven_10, Option.bind_some, cond_true, cond_false, decide_true, decide_false, Bool.not_true, Bool.not_false, ite_true, ite_false, and_self, true_and, and_true, or_self, true_or, or_true, false_or, or_false, decide_eq_true_eq, Int.reduceAdd, Int.reduceSub, Int.reduceMul, Int.reduceNeg, Int.reduceEq, Int.reduceLT, Int.reduceLE, Int.reduceNe, lcmp_z, lcmp_le, lcmp_ge, lcmp_lt, lcmp_gt, decide_eq_true, decide_eq_false, if_pos, if_neg, gf_17, cls_17, hiw, r1, ra_309]
  · rw [if_neg cw] at hat hiw
    refine ⟨0, ?_, ?_⟩
    · simp (disch := omega) only [be_X6_woven_m, be_X6_woven_0, be_X6_woven_2, be_X6_woven_4, Option.bind_some, cond_true, cond_false, decide_true, decide_false, Bool.not_true, Bool.not_false, ite_true, ite_false, and_self, true_and, and_true, or_self, true_or, or_true, false_or, or_false, decide_eq_true_eq, Int.reduceAdd, Int.reduceSub, Int.reduceMul, Int.reduceNeg, Int.reduceEq, Int.reduceLT, Int.reduceLE, Int.reduceNe, lcmp_z, lcmp_le, lcmp_ge, lcmp_lt, lcmp_gt, decide_eq_true, decide_eq_false, if_pos, if_neg, cls_16, hat]
    · by_cases c17 : R 17 17 = 0
      · simp (disch := omega) only [be_X7_woven_m, be_X7_woven_0, be_X7_woven_6, be_X7_woven_7, be_X7_woven_9, be_X7_woven_10, Option.bind_some, cond_true, cond_false, decide_true, decide_false, Bool.not_true, Bool.not_false, ite_true, ite_false, and_self, true_and, and_true, or_self, true_or, or_true, false_or, or_false, decide_eq_true_eq, Int.reduceAdd, Int.reduceSub, Int.reduceMul, Int.reduceNeg, Int.reduceEq, Int.reduceLT, Int.reduceLE, Int.reduceNe, lcmp_z, lcmp_le, lcmp_ge, lcmp_lt, lcmp_gt, decide_eq_true, decide_eq_false, if_pos, if_neg, gf_17, c17]
      · simp (disch := omega) only [be_X7_woven_m, be_X7_woven_0, be_X7_woven_1, be_X7_woven_6, be_X7_woven_7, be_X7_woven_9, be_X7_woven_10, Option.bind_some, cond_true, cond_false, decide_true, decide_false, Bool.not_true, Bool.not_false, ite_true, ite_false, and_self, true_and, and_true, or_self, true_or, or_true, false_or, or_false, decide_eq_true_eq, Int.reduceAdd, Int.reduceSub, Int.reduceMul, Int.reduceNeg, Int.reduceEq, Int.reduceLT, Int.reduceLE, Int.reduceNe, lcmp_z, lcmp_le, lcmp_ge, lcmp_lt, lcmp_gt, decide_eq_true, decide_eq_false, if_pos, if_neg, gf_17, cls_17, hiw]
theorem api_history (b i : Int) : API nX6_history nX7_history [(0, b), (0, i)] := by
  intro C R H
  obtain ⟨hR, hh, hn, ho⟩ := INV_hall H
  obtain ⟨g0, g1, g2, g3, g4, g5, g6, g7, g8, g9, g10, g11, g12, g13⟩ := id hh
  have hat := at_b hh hn b
  have hiw := rf_isBand b g11 g12
  have hin := rf_in R i 0 299
  suffices hs : ∃ v, am_evm am_PP nX6_history [(2, 16), (0, b), (0, i)] C = some (v, C) ∧ am_evm am_PP nX7_history [(2, 17), (0, b), (0, i)] R = some (v, R) by
    obtain ⟨v, a, b⟩ := hs
    exact ⟨v, C, R, a, b, H, cf2_refl C, rfr_refl R⟩
  obtain ⟨h6, H⟩ := H
  by_cases cb : 0 ≤ b ∧ b < R 17 11
  · obtain ⟨b0, b1⟩ := cb
    rw [if_pos ⟨b0, b1⟩] at hat hiw
    rcases H with ⟨_, _, _, _, n1, n2, n3, n4, n5, n6⟩ | ⟨h, V, t, ⟨_, _, _, _, hwh, r1', r2', r3', r4', r5', r6', r7', r8', r9', r10', r11', r12', r13', r14'⟩, hwd⟩
    · obtain ⟨_, z1, _, _, _, _, _, _, _, hr, _⟩ := n5 b b0 b1 (fun _ => 0) 0
      have hz := row_at (i := i) (rok_b b0 (by omega)) hr
      rw [if_neg (by omega)] at hz
      refine ⟨0, ?_, ?_⟩
      · simp (disch := omega) only [be_X6_history_m, be_X6_history_0, be_X6_history_2, be_X6_history_3, Option.bind_some, cond_true, cond_false, decide_true, decide_false, Bool.not_true, Bool.not_false, ite_true, ite_false, and_self, true_and, and_true, or_self, true_or, or_true, false_or, or_false, decide_eq_true_eq, Int.reduceAdd, Int.reduceSub, Int.reduceMul, Int.reduceNeg, Int.reduceEq, Int.reduceLT, Int.reduceLE, Int.reduceNe, lcmp_z, lcmp_le, lcmp_ge, lcmp_lt, lcmp_gt, decide_eq_true, decide_eq_false, if_pos, if_neg, cls_16, gf_10, cls_30, pos_30, hat, z1, hz]
      · simp (disch := omega) only [be_X7_history_m, be_X7_history_0, be_X7_history_5, be_X7_history_6, be_X7_history_8, be_X7_history_9, Option.bind_some, cond_true, cond_false, decide_true, decide_false, Bool.not_true, Bool.not_false, ite_true, ite_false, and_self, true_and, and_true, or_self, true_or, or_true, false_or, or_false, decide_eq_true_eq, Int.reduceAdd, Int.reduceSub, Int.reduceMul, Int.reduceNeg, Int.reduceEq, Int.reduceLT, Int.reduceLE, Int.reduceNe, lcmp_z, lcmp_le, lcmp_ge, lcmp_lt, lcmp_gt, decide_eq_true, decide_eq_false, if_pos, if_neg, gf_17, n1]
    · obtain ⟨z1, z2, _, _, _, _⟩ := r13' b b0 b1
      obtain ⟨_, z1, _, _, _, _, _, _, _, hr, _⟩ := z1
      have hz := row_at (i := i) (rok_b b0 (by omega)) hr
      by_cases ci : 0 ≤ i ∧ i ≤ 299
      · rw [if_pos ci] at hin
        by_cases cj : i < R 2109 b
        · rw [if_pos (by omega)] at hz
          have hpt := rf_pattern hR z2 b0 (by omega) (by omega) ci.1 (by omega) (by omega)
          obtain ⟨r1, r2, r3, r4, r5, r6, r7, r8, r9, r10, r12, r13, r14, r15, r16, r18, r19, r20, r21, r22, r23, r24, r25, r26, r27, r28, r30, r31, r32, r33, r34, r35, r36, r37, r38, r39, r40, r41, r44, r49, r50, r51, r52, r54⟩ := hR
          refine ⟨V b i, ?_, ?_⟩
          rotate_left
          · simp (disch := omega) only [be_X7_history_m, be_X7_history_0, be_X7_history_1, be_X7_history_2, be_X7_history_3, be_X7_history_4, be_X7_history_6, be_X7_history_7, be_X7_history_9, Option.bind_some, cond_true, cond_false, decide_true, decide_false, Bool.not_true, Bool.not_false, ite_true, ite_false, and_self, true_and, and_true, or_self, true_or, or_true, false_or, or_false, decide_eq_true_eq, Int.reduceAdd, Int.reduceSub, Int.reduceMul, Int.reduceNeg, Int.reduceEq, Int.reduceLT, Int.reduceLE, Int.reduceNe, lcmp_z, lcmp_le, lcmp_ge, lcmp_lt, lcmp_gt, decide_eq_true, decide_eq_false, if_pos, if_neg, gf_17, cls_17, r1', hiw, hin, r21, ra_2109, hpt]
          · simp (disch := omega) only [be_X6_history_m, be_X6_history_0, be_X6_history_2, be_X6_history_3, Option.bind_some, cond_true, cond_false, decide_true, decide_false, Bool.not_true, Bool.not_false, ite_true, ite_false, and_self, true_and, and_true, or_self, true_or, or_true, false_or, or_false, decide_eq_true_eq, Int.reduceAdd, Int.reduceSub, Int.reduceMul, Int.reduceNeg, Int.reduceEq, Int.reduceLT, Int.reduceLE, Int.reduceNe, lcmp_z, lcmp_le, lcmp_ge, lcmp_lt, lcmp_gt, decide_eq_true, decide_eq_false, if_pos, if_neg, cls_16, gf_10, cls_30, pos_30, hat, z1, hz]
        · rw [if_neg (by omega)] at hz
          obtain ⟨r1, r2, r3, r4, r5, r6, r7, r8, r9, r10, r12, r13, r14, r15, r16, r18, r19, r20, r21, r22, r23, r24, r25, r26, r27, r28, r30, r31, r32, r33, r34, r35, r36, r37, r38, r39, r40, r41, r44, r49, r50, r51, r52, r54⟩ := hR
          refine ⟨0, ?_, ?_⟩
          · simp (disch := omega) only [be_X6_history_m, be_X6_history_0, be_X6_history_2, be_X6_history_3, Option.bind_some, cond_true, cond_false, decide_true, decide_false, Bool.not_true, Bool.not_false, ite_true, ite_false, and_self, true_and, and_true, or_self, true_or, or_true, false_or, or_false, decide_eq_true_eq, Int.reduceAdd, Int.reduceSub, Int.reduceMul, Int.reduceNeg, Int.reduceEq, Int.reduceLT, Int.reduceLE, Int.reduceNe, lcmp_z, lcmp_le, lcmp_ge, lcmp_lt, lcmp_gt, decide_eq_true, decide_eq_false, if_pos, if_neg, cls_16, gf_10, cls_30, pos_30, hat, z1, hz]
          · simp (disch := omega) only [be_X7_history_m, be_X7_history_0, be_X7_history_1, be_X7_history_2, be_X7_history_3, be_X7_history_5, be_X7_history_6, be_X7_history_8, be_X7_history_9, Option.bind_some, cond_true, cond_false, decide_true, decide_false, Bool.not_true, Bool.not_false, ite_true, ite_false, and_self, true_and, and_true, or_self, true_or, or_true, false_or, or_false, decide_eq_true_eq, Int.reduceAdd, Int.reduceSub, Int.reduceMul, Int.reduceNeg, Int.reduceEq, Int.reduceLT, Int.reduceLE, Int.reduceNe, lcmp_z, lcmp_le, lcmp_ge, lcmp_lt, lcmp_gt, decide_eq_true, decide_eq_false, if_pos, if_neg, gf_17, cls_17, r1', hiw, hin, r21, ra_2109]
      · rw [if_neg ci] at hin
        rw [if_neg (by omega)] at hz
        refine ⟨0, ?_, ?_⟩
        · simp (disch := omega) only [be_X6_history_m, be_X6_history_0, be_X6_history_2, be_X6_history_3, Option.bind_some, cond_true, cond_false, decide_true, decide_false, Bool.not_true, Bool.not_false, ite_true, ite_false, and_self, true_and, and_true, or_self, true_or, or_true, false_or, or_false, decide_eq_true_eq, Int.reduceAdd, Int.reduceSub, Int.reduceMul, Int.reduceNeg, Int.reduceEq, Int.reduceLT, Int.reduceLE, Int.reduceNe, lcmp_z, lcmp_le, lcmp_ge, lcmp_lt, lcmp_gt, decide_eq_true, decide_eq_false, if_pos, if_neg, cls_16, gf_10, cls_30, pos_30, hat, z1, hz]
        · simp (disch := omega) only [be_X7_history_m, be_X7_history_0, be_X7_history_1, be_X7_history_2, be_X7_history_5, be_X7_history_6, be_X7_history_8, be_X7_history_9, Option.bind_some, cond_true, cond_false, decide_true, decide_false, Bool.not_true, Bool.not_false, ite_true, ite_false, and_self, true_and, and_true, or_self, true_or, or_true, false_or, or_false, decide_eq_true_eq, Int.reduceAdd, Int.reduceSub, Int.reduceMul, Int.reduceNeg, Int.reduceEq, Int.reduceLT, Int.reduceLE, Int.reduceNe, lcmp_z, lcmp_le, lcmp_ge, lcmp_lt, lcmp_gt, decide_eq_true, decide_eq_false, if_pos, if_neg, gf_17, cls_17, r1', hiw, hin]
  · rw [if_neg cb] at hat hiw
    refine ⟨0, ?_, ?_⟩
    · simp (disch := omega) only [be_X6_history_m, be_X6_history_0, be_X6_history_1, be_X6_history_3, Option.bind_some, cond_true, cond_false, decide_true, decide_false, Bool.not_true, Bool.not_false, ite_true, ite_false, and_self, true_and, and_true, or_self, true_or, or_true, false_or, or_false, decide_eq_true_eq, Int.reduceAdd, Int.reduceSub, Int.reduceMul, Int.reduceNeg, Int.reduceEq, Int.reduceLT, Int.reduceLE, Int.reduceNe, lcmp_z, lcmp_le, lcmp_ge, lcmp_lt, lcmp_gt, decide_eq_true, decide_eq_false, if_pos, if_neg, cls_16, hat]
    · by_cases c17 : R 17 17 = 0
      · simp (disch := omega) only [be_X7_history_m, be_X7_history_0, be_X7_history_5, be_X7_history_6, be_X7_history_8, be_X7_history_9, Option.bind_some, cond_true, cond_false, decide_true, decide_false, Bool.not_true, Bool.not_false, ite_true, ite_false, and_self, true_and, and_true, or_self, true_or, or_true, false_or, or_false, decide_eq_true_eq, Int.reduceAdd, Int.reduceSub, Int.reduceMul, Int.reduceNeg, Int.reduceEq, Int.reduceLT, Int.reduceLE, Int.reduceNe, lcmp_z, lcmp_le, lcmp_ge, lcmp_lt, lcmp_gt, decide_eq_true, decide_eq_false, if_pos, if_neg, gf_17, c17]
      · simp (disch := omega) only [be_X7_history_m, be_X7_history_0, be_X7_history_1, be_X7_history_5, be_X7_history_6, be_X7_history_8, be_X7_history_9, Option.bind_some, cond_true, cond_false, decide_true, decide_false, Bool.not_true, Bool.not_false, ite_true, ite_false, and_self, true_and, and_true, or_self, true_or, or_true, false_or, or_false, decide_eq_true_eq, Int.reduceAdd, Int.reduceSub, Int.reduceMul, Int.reduceNeg, Int.reduceEq, Int.reduceLT, Int.reduceLE, Int.reduceNe, lcmp_z, lcmp_le, lcmp_ge, lcmp_lt, lcmp_gt, decide_eq_true, decide_eq_false, if_pos, if_neg, gf_17, cls_17, hiw]
theorem api_digest (b : Int) : API nX6_digest nX7_digest [(0, b)] := by
  intro C R H
  obtain ⟨hR, hh, hn, ho⟩ := INV_hall H
  obtain ⟨g0, g1, g2, g3, g4, g5, g6, g7, g8, g9, g10, g11, g12, g13⟩ := id hh
  have hat := at_b hh hn b
  have hiw := rf_isBand b g11 g12
  suffices hs : ∃ v, am_evm am_PP nX6_digest [(2, 16), (0, b)] C = some (v, C) ∧ am_evm am_PP nX7_digest [(2, 17), (0, b)] R = some (v, R) by
    obtain ⟨v, a, b⟩ := hs
    exact ⟨v, C, R, a, b, H, cf2_refl C, rfr_refl R⟩
  obtain ⟨h6, H⟩ := H
  by_cases cb : 0 ≤ b ∧ b < R 17 11
  · obtain ⟨b0, b1⟩ := cb
    rw [if_pos ⟨b0, b1⟩] at hat hiw
    obtain ⟨r1, r2, r3, r4, r5, r6, r7, r8, r9, r10, r12, r13, r14, r15, r16, r18, r19, r20, r21, r22, r23, r24, r25, r26, r27, r28, r30, r31, r32, r33, r34, r35, r36, r37, r38, r39, r40, r41, r44, r49, r50, r51, r52, r54⟩ := hR
    rcases H with ⟨_, _, _, _, n1, n2, n3, n4, n5, n6⟩ | ⟨h, V, t, ⟨_, _, _, _, hwh, r1', r2', r3', r4', r5', r6', r7', r8', r9', r10', r11', r12', r13', r14'⟩, hwd⟩
    · obtain ⟨_, _, _, _, _, _, _, _, z, _, _⟩ := n5 b b0 b1 (fun _ => 0) 0
      refine ⟨7, ?_, ?_⟩
      · simp (disch := omega) only [be_X6_digest_m, be_X6_digest_0, be_X6_digest_2, be_X6_digest_3, Option.bind_some, cond_true, cond_false, decide_true, decide_false, Bool.not_true, Bool.not_false, ite_true, ite_false, and_self, true_and, and_true, or_self, true_or, or_true, false_or, or_false, decide_eq_true_eq, Int.reduceAdd, Int.reduceSub, Int.reduceMul, Int.reduceNeg, Int.reduceEq, Int.reduceLT, Int.reduceLE, Int.reduceNe, lcmp_z, lcmp_le, lcmp_ge, lcmp_lt, lcmp_gt, decide_eq_true, decide_eq_false, if_pos, if_neg, cls_16, gf_10, hat, z]
      · simp (disch := omega) only [be_X7_digest_m, be_X7_digest_0, be_X7_digest_2, be_X7_digest_4, be_X7_digest_5, Option.bind_some, cond_true, cond_false, decide_true, decide_false, Bool.not_true, Bool.not_false, ite_true, ite_false, and_self, true_and, and_true, or_self, true_or, or_true, false_or, or_false, decide_eq_true_eq, Int.reduceAdd, Int.reduceSub, Int.reduceMul, Int.reduceNeg, Int.reduceEq, Int.reduceLT, Int.reduceLE, Int.reduceNe, lcmp_z, lcmp_le, lcmp_ge, lcmp_lt, lcmp_gt, decide_eq_true, decide_eq_false, if_pos, if_neg, gf_17, cls_17, hiw, n1]
    · obtain ⟨⟨_, _, _, _, _, _, _, _, z, _, _⟩, z2, _, _, _, _⟩ := r13' b b0 b1
      refine ⟨R 65 b, ?_, ?_⟩
      · simp (disch := omega) only [be_X6_digest_m, be_X6_digest_0, be_X6_digest_2, be_X6_digest_3, Option.bind_some, cond_true, cond_false, decide_true, decide_false, Bool.not_true, Bool.not_false, ite_true, ite_false, and_self, true_and, and_true, or_self, true_or, or_true, false_or, or_false, decide_eq_true_eq, Int.reduceAdd, Int.reduceSub, Int.reduceMul, Int.reduceNeg, Int.reduceEq, Int.reduceLT, Int.reduceLE, Int.reduceNe, lcmp_z, lcmp_le, lcmp_ge, lcmp_lt, lcmp_gt, decide_eq_true, decide_eq_false, if_pos, if_neg, cls_16, gf_10, hat, z]
      · simp (disch := omega) only [be_X7_digest_m, be_X7_digest_0, be_X7_digest_2, be_X7_digest_3, be_X7_digest_5, Option.bind_some, cond_true, cond_false, decide_true, decide_false, Bool.not_true, Bool.not_false, ite_true, ite_false, and_self, true_and, and_true, or_self, true_or, or_true, false_or, or_false, decide_eq_true_eq, Int.reduceAdd, Int.reduceSub, Int.reduceMul, Int.reduceNeg, Int.reduceEq, Int.reduceLT, Int.reduceLE, Int.reduceNe, lcmp_z, lcmp_le, lcmp_ge, lcmp_lt, lcmp_gt, decide_eq_true, decide_eq_false, if_pos, if_neg, gf_17, cls_17, hiw, r1', r23, ra_65]
  · rw [if_neg cb] at hat hiw
    refine ⟨0, ?_, ?_⟩
    · simp (disch := omega) only [be_X6_digest_m, be_X6_digest_0, be_X6_digest_1, be_X6_digest_3, Option.bind_some, cond_true, cond_false, decide_true, decide_false, Bool.not_true, Bool.not_false, ite_true, ite_false, and_self, true_and, and_true, or_self, true_or, or_true, false_or, or_false, decide_eq_true_eq, Int.reduceAdd, Int.reduceSub, Int.reduceMul, Int.reduceNeg, Int.reduceEq, Int.reduceLT, Int.reduceLE, Int.reduceNe, lcmp_z, lcmp_le, lcmp_ge, lcmp_lt, lcmp_gt, decide_eq_true, decide_eq_false, if_pos, if_neg, cls_16, hat]
    · simp (disch := omega) only [be_X7_digest_m, be_X7_digest_0, be_X7_digest_1, be_X7_digest_5, Option.bind_some, cond_true, cond_false, decide_true, decide_false, Bool.not_true, Bool.not_false, ite_true, ite_false, and_self, true_and, and_true, or_self, true_or, or_true, false_or, or_false, decide_eq_true_eq, Int.reduceAdd, Int.reduceSub, Int.reduceMul, Int.reduceNeg, Int.reduceEq, Int.reduceLT, Int.reduceLE, Int.reduceNe, lcmp_z, lcmp_le, lcmp_ge, lcmp_lt, lcmp_gt, decide_eq_true, decide_eq_false, if_pos, if_neg, gf_17, cls_17, hiw]
theorem api_widened (i : Int) : API nX6_widened nX7_widened [(0, i)] := by
  intro C R H
  obtain ⟨hR, hh, hn, ho⟩ := INV_hall H
  obtain ⟨g0, g1, g2, g3, g4, g5, g6, g7, g8, g9, g10, g11, g12, g13⟩ := id hh
  suffices hs : ∃ v, am_evm am_PP nX6_widened [(2, 16), (0, i)] C = some (v, C) ∧ am_evm am_PP nX7_widened [(2, 17), (0, i)] R = some (v, R) by
    obtain ⟨v, a, b⟩ := hs
    exact ⟨v, C, R, a, b, H, cf2_refl C, rfr_refl R⟩
  obtain ⟨h6, H⟩ := H
  obtain ⟨r1, r2, r3, r4, r5, r6, r7, r8, r9, r10, r12, r13, r14, r15, r16, r18, r19, r20, r21, r22, r23, r24, r25, r26, r27, r28, r30, r31, r32, r33, r34, r35, r36, r37, r38, r39, r40, r41, r44, r49, r50, r51, r52, r54⟩ := hR
  rcases H with ⟨_, _, _, _, n1, n2, n3, n4, n5, n6⟩ | ⟨h, V, t, ⟨_, _, _, _, hwh, r1', r2', r3', r4', r5', r6', r7', r8', r9', r10', r11', r12', r13', r14'⟩, hwd⟩
  · have hin := rf_in R i 0 (-1)
    rw [if_neg (by omega)] at hin
    refine ⟨-1, ?_, ?_⟩
    · by_cases c : i < 0
      · simp (disch := omega) only [be_X6_widened_m, be_X6_widened_0, be_X6_widened_3, be_X6_widened_5, Option.bind_some, cond_true, cond_false, decide_true, decide_false, Bool.not_true, Bool.not_false, ite_true, ite_false, and_self, true_and, and_true, or_self, true_or, or_true, false_or, or_false, decide_eq_true_eq, Int.reduceAdd, Int.reduceSub, Int.reduceMul, Int.reduceNeg, Int.reduceEq, Int.reduceLT, Int.reduceLE, Int.reduceNe, lcmp_z, lcmp_le, lcmp_ge, lcmp_lt, lcmp_gt, decide_eq_true, decide_eq_false, if_pos, if_neg]
      · simp (disch := omega) only [be_X6_widened_m, be_X6_widened_0, be_X6_widened_1, be_X6_widened_3, be_X6_widened_5, Option.bind_some, cond_true, cond_false, decide_true, decide_false, Bool.not_true, Bool.not_false, ite_true, ite_false, and_self, true_and, and_true, or_self, true_or, or_true, false_or, or_false, decide_eq_true_eq, Int.reduceAdd, Int.reduceSub, Int.reduceMul, Int.reduceNeg, Int.reduceEq, Int.reduceLT, Int.reduceLE, Int.reduceNe, lcmp_z, lcmp_le, lcmp_ge, lcmp_lt, lcmp_gt, decide_eq_true, decide_eq_false, if_pos, if_neg, gf_16, n3]
    · simp (disch := omega) only [be_X7_widened_m, be_X7_widened_0, be_X7_widened_1, be_X7_widened_5, be_X7_widened_7, be_X7_widened_8, Option.bind_some, cond_true, cond_false, decide_true, decide_false, Bool.not_true, Bool.not_false, ite_true, ite_false, and_self, true_and, and_true, or_self, true_or, or_true, false_or, or_false, decide_eq_true_eq, Int.reduceAdd, Int.reduceSub, Int.reduceMul, Int.reduceNeg, Int.reduceEq, Int.reduceLT, Int.reduceLE, Int.reduceNe, lcmp_z, lcmp_le, lcmp_ge, lcmp_lt, lcmp_gt, decide_eq_true, decide_eq_false, if_pos, if_neg, gf_17, n1, am_w32_ok, hin]
  · have hin := rf_in R i 0 ((if R 17 43 < 100 then R 17 43 else 100) - 1)
    have e7 : am_evm am_PP nX7_widened [(2, 17), (0, i)] R = am_ev am_PP nX7_widened 5 [17, i] [(0, (if R 17 43 < 100 then R 17 43 else 100))] R := by
      by_cases c : R 17 43 < 100
      · simp (disch := omega) only [be_X7_widened_m, be_X7_widened_0, be_X7_widened_2, be_X7_widened_3, Option.bind_some, cond_true, cond_false, decide_true, decide_false, Bool.not_true, Bool.not_false, ite_true, ite_false, and_self, true_and, and_true, or_self, true_or, or_true, false_or, or_false, decide_eq_true_eq, Int.reduceAdd, Int.reduceSub, Int.reduceMul, Int.reduceNeg, Int.reduceEq, Int.reduceLT, Int.reduceLE, Int.reduceNe, lcmp_z, lcmp_le, lcmp_ge, lcmp_lt, lcmp_gt, decide_eq_true, decide_eq_false, if_pos, if_neg, gf_17, r1']
      · simp (disch := omega) only [be_X7_widened_m, be_X7_widened_0, be_X7_widened_2, be_X7_widened_4, Option.bind_some, cond_true, cond_false, decide_true, decide_false, Bool.not_true, Bool.not_false, ite_true, ite_false, and_self, true_and, and_true, or_self, true_or, or_true, false_or, or_false, decide_eq_true_eq, Int.reduceAdd, Int.reduceSub, Int.reduceMul, Int.reduceNeg, Int.reduceEq, Int.reduceLT, Int.reduceLE, Int.reduceNe, lcmp_z, lcmp_le, lcmp_ge, lcmp_lt, lcmp_gt, decide_eq_true, decide_eq_false, if_pos, if_neg, gf_17, r1']
    generalize hm : (if R 17 43 < 100 then R 17 43 else 100) = m at hin e7
    have hmb : 0 ≤ m ∧ m ≤ 100 ∧ m ≤ R 17 43 ∧ (m = R 17 43 ∨ m = 100) := by
      rw [← hm]; split <;> omega
    by_cases c : 0 ≤ i ∧ i < m
    · rw [if_pos (by omega)] at hin
      have z := r9' i (by omega) (by omega) (by omega)
      refine ⟨R 308 i, ?_, ?_⟩
      · simp (disch := omega) only [be_X6_widened_m, be_X6_widened_0, be_X6_widened_1, be_X6_widened_2, be_X6_widened_4, be_X6_widened_5, Option.bind_some, cond_true, cond_false, decide_true, decide_false, Bool.not_true, Bool.not_false, ite_true, ite_false, and_self, true_and, and_true, or_self, true_or, or_true, false_or, or_false, decide_eq_true_eq, Int.reduceAdd, Int.reduceSub, Int.reduceMul, Int.reduceNeg, Int.reduceEq, Int.reduceLT, Int.reduceLE, Int.reduceNe, lcmp_z, lcmp_le, lcmp_ge, lcmp_lt, lcmp_gt, decide_eq_true, decide_eq_false, if_pos, if_neg, gf_16, g2, ra_52, r4', z]
      · rw [e7]
        simp (disch := omega) only [be_X7_widened_5, be_X7_widened_6, be_X7_widened_8, Option.bind_some, cond_true, cond_false, decide_true, decide_false, Bool.not_true, Bool.not_false, ite_true, ite_false, and_self, true_and, and_true, or_self, true_or, or_true, false_or, or_false, decide_eq_true_eq, Int.reduceAdd, Int.reduceSub, Int.reduceMul, Int.reduceNeg, Int.reduceEq, Int.reduceLT, Int.reduceLE, Int.reduceNe, lcmp_z, lcmp_le, lcmp_ge, lcmp_lt, lcmp_gt, decide_eq_true, decide_eq_false, if_pos, if_neg, gf_17, am_w32_ok, hin, r44, ra_308]
    · rw [if_neg (by omega)] at hin
      refine ⟨-1, ?_, ?_⟩
      · by_cases c1 : i < 0
        · simp (disch := omega) only [be_X6_widened_m, be_X6_widened_0, be_X6_widened_3, be_X6_widened_5, Option.bind_some, cond_true, cond_false, decide_true, decide_false, Bool.not_true, Bool.not_false, ite_true, ite_false, and_self, true_and, and_true, or_self, true_or, or_true, false_or, or_false, decide_eq_true_eq, Int.reduceAdd, Int.reduceSub, Int.reduceMul, Int.reduceNeg, Int.reduceEq, Int.reduceLT, Int.reduceLE, Int.reduceNe, lcmp_z, lcmp_le, lcmp_ge, lcmp_lt, lcmp_gt, decide_eq_true, decide_eq_false, if_pos, if_neg]
        · by_cases c2 : R 17 43 ≤ i
          · simp (disch := omega) only [be_X6_widened_m, be_X6_widened_0, be_X6_widened_1, be_X6_widened_3, be_X6_widened_5, Option.bind_some, cond_true, cond_false, decide_true, decide_false, Bool.not_true, Bool.not_false, ite_true, ite_false, and_self, true_and, and_true, or_self, true_or, or_true, false_or, or_false, decide_eq_true_eq, Int.reduceAdd, Int.reduceSub, Int.reduceMul, Int.reduceNeg, Int.reduceEq, Int.reduceLT, Int.reduceLE, Int.reduceNe, lcmp_z, lcmp_le, lcmp_ge, lcmp_lt, lcmp_gt, decide_eq_true, decide_eq_false, if_pos, if_neg, gf_16, r4']
          · simp (disch := omega) only [be_X6_widened_m, be_X6_widened_0, be_X6_widened_1, be_X6_widened_2, be_X6_widened_3, be_X6_widened_5, Option.bind_some, cond_true, cond_false, decide_true, decide_false, Bool.not_true, Bool.not_false, ite_true, ite_false, and_self, true_and, and_true, or_self, true_or, or_true, false_or, or_false, decide_eq_true_eq, Int.reduceAdd, Int.reduceSub, Int.reduceMul, Int.reduceNeg, Int.reduceEq, Int.reduceLT, Int.reduceLE, Int.reduceNe, lcmp_z, lcmp_le, lcmp_ge, lcmp_lt, lcmp_gt, decide_eq_true, decide_eq_false, if_pos, if_neg, gf_16, r4']
      · rw [e7]
        simp (disch := omega) only [be_X7_widened_5, be_X7_widened_7, be_X7_widened_8, Option.bind_some, cond_true, cond_false, decide_true, decide_false, Bool.not_true, Bool.not_false, ite_true, ite_false, and_self, true_and, and_true, or_self, true_or, or_true, false_or, or_false, decide_eq_true_eq, Int.reduceAdd, Int.reduceSub, Int.reduceMul, Int.reduceNeg, Int.reduceEq, Int.reduceLT, Int.reduceLE, Int.reduceNe, lcmp_z, lcmp_le, lcmp_ge, lcmp_lt, lcmp_gt, decide_eq_true, decide_eq_false, if_pos, if_neg, gf_17, am_w32_ok, hin]
theorem api_failure (w x : Int) : API nX6_failure nX7_failure [(0, w), (0, x)] := by
  intro C R H
  obtain ⟨hR, hh, hn, ho⟩ := INV_hall H
  obtain ⟨g0, g1, g2, g3, g4, g5, g6, g7, g8, g9, g10, g11, g12, g13⟩ := id hh
  have hat := at_w hh hn w
  have hiw := rf_isWeaver w g9 g10
  have hin := rf_in R x 0 1
  suffices hs : ∃ v, am_evm am_PP nX6_failure [(2, 16), (0, w), (0, x)] C = some (v, C) ∧ am_evm am_PP nX7_failure [(2, 17), (0, w), (0, x)] R = some (v, R) by
    obtain ⟨v, a, b⟩ := hs
    exact ⟨v, C, R, a, b, H, cf2_refl C, rfr_refl R⟩
  obtain ⟨h6, H⟩ := H
  by_cases cw : 0 ≤ w ∧ w < R 17 0
  · obtain ⟨w0, w1⟩ := cw
    rw [if_pos ⟨w0, w1⟩] at hat hiw
    by_cases cx : 0 ≤ x ∧ x ≤ 1
    · rw [if_pos cx] at hin
      rcases H with ⟨_, _, _, _, n1, n2, n3, n4, n5, n6⟩ | ⟨h, V, t, H, hwd⟩
      · obtain ⟨_, _, z4, z5, _⟩ := n6 w w0 w1
        refine ⟨-1, ?_, ?_⟩
        · simp (disch := omega) only [be_X6_failure_m, be_X6_failure_0, be_X6_failure_1, be_X6_failure_2, be_X6_failure_3, be_X6_failure_4, Option.bind_some, cond_true, cond_false, decide_true, decide_false, Bool.not_true, Bool.not_false, ite_true, ite_false, and_self, true_and, and_true, or_self, true_or, or_true, false_or, or_false, decide_eq_true_eq, Int.reduceAdd, Int.reduceSub, Int.reduceMul, Int.reduceNeg, Int.reduceEq, Int.reduceLT, Int.reduceLE, Int.reduceNe, lcmp_z, lcmp_le, lcmp_ge, lcmp_lt, lcmp_gt, decide_eq_true, decide_eq_false, if_pos, if_neg, cls_16, gf_15, hat]
        · simp (disch := omega) only [be_X7_failure_m, be_X7_failure_0, be_X7_failure_1, be_X7_failure_2, be_X7_failure_4, Option.bind_some, cond_true, cond_false, decide_true, decide_false, Bool.not_true, Bool.not_false, ite_true, ite_false, and_self, true_and, and_true, or_self, true_or, or_true, false_or, or_false, decide_eq_true_eq, Int.reduceAdd, Int.reduceSub, Int.reduceMul, Int.reduceNeg, Int.reduceEq, Int.reduceLT, Int.reduceLE, Int.reduceNe, lcmp_z, lcmp_le, lcmp_ge, lcmp_lt, lcmp_gt, decide_eq_true, decide_eq_false, if_pos, if_neg, gf_17, cls_17, hiw, hin, n1]
      · have hnx := (RR_next H w0 w1).2.2
        obtain ⟨_, _, _, _, hwh, r1', r2', r3', r4', r5', r6', r7', r8', r9', r10', r11', r12', r13', r14'⟩ := H
        obtain ⟨-, -, -, -, -, -, p7, -⟩ := r12' w w0 w1
        obtain ⟨r1, r2, r3, r4, r5, r6, r7, r8, r9, r10, r12, r13, r14, r15, r16, r18, r19, r20, r21, r22, r23, r24, r25, r26, r27, r28, r30, r31, r32, r33, r34, r35, r36, r37, r38, r39, r40, r41, r44, r49, r50, r51, r52, r54⟩ := hR
        by_cases c4 : R 1333 w = 4
        · clear hnx
          have e : C (15 + 256 * w) 8 = 5 ∧ C (15 + 256 * w) 14 = R 2357 w ∧ C (15 + 256 * w) 15 = R 2613 w := by
            rcases p7 with ⟨q, _⟩ | ⟨_, q⟩ | ⟨q, _⟩
            · omega
            · exact q
            · omega
          obtain ⟨e1, e2, e3⟩ := e
          by_cases cx0 : x = 0
          · refine ⟨R 2357 w, ?_, ?_⟩
            · simp (disch := omega) only [be_X6_failure_m, be_X6_failure_0, be_X6_failure_1, be_X6_failure_2, be_X6_failure_3, be_X6_failure_5, be_X6_failure_6, be_X6_failure_8, Option.bind_some, cond_true, cond_false, decide_true, decide_false, Bool.not_true, Bool.not_false, ite_true, ite_false, and_self, true_and, and_true, or_self, true_or, or_true, false_or, or_false, decide_eq_true_eq, Int.reduceAdd, Int.reduceSub, Int.reduceMul, Int.reduceNeg, Int.reduceEq, Int.reduceLT, Int.reduceLE, Int.reduceNe, lcmp_z, lcmp_le, lcmp_ge, lcmp_lt, lcmp_gt, decide_eq_true, decide_eq_false, if_pos, if_neg, cls_16, gf_15, hat, e1, e2]
            · simp (disch := omega) only [be_X7_failure_m, be_X7_failure_0, be_X7_failure_1, be_X7_failure_2, be_X7_failure_3, be_X7_failure_5, be_X7_failure_6, be_X7_failure_8, Option.bind_some, cond_true, cond_false, decide_true, decide_false, Bool.not_true, Bool.not_false, ite_true, ite_false, and_self, true_and, and_true, or_self, true_or, or_true, false_or, or_false, decide_eq_true_eq, Int.reduceAdd, Int.reduceSub, Int.reduceMul, Int.reduceNeg, Int.reduceEq, Int.reduceLT, Int.reduceLE, Int.reduceNe, lcmp_z, lcmp_le, lcmp_ge, lcmp_lt, lcmp_gt, decide_eq_true, decide_eq_false, if_pos, if_neg, gf_17, cls_17, hiw, hin, r1', r30, r36, ra_1333, ra_2357, c4]
          · refine ⟨R 2613 w, ?_, ?_⟩
            · simp (disch := omega) only [be_X6_failure_m, be_X6_failure_0, be_X6_failure_1, be_X6_failure_2, be_X6_failure_3, be_X6_failure_5, be_X6_failure_7, be_X6_failure_8, Option.bind_some, cond_true, cond_false, decide_true, decide_false, Bool.not_true, Bool.not_false, ite_true, ite_false, and_self, true_and, and_true, or_self, true_or, or_true, false_or, or_false, decide_eq_true_eq, Int.reduceAdd, Int.reduceSub, Int.reduceMul, Int.reduceNeg, Int.reduceEq, Int.reduceLT, Int.reduceLE, Int.reduceNe, lcmp_z, lcmp_le, lcmp_ge, lcmp_lt, lcmp_gt, decide_eq_true, decide_eq_false, if_pos, if_neg, cls_16, gf_15, hat, e1, e3]
            · simp (disch := omega) only [be_X7_failure_m, be_X7_failure_0, be_X7_failure_1, be_X7_failure_2, be_X7_failure_3, be_X7_failure_5, be_X7_failure_7, be_X7_failure_8, Option.bind_some, cond_true, cond_false, decide_true, decide_false, Bool.not_true, Bool.not_false, ite_true, ite_false, and_self, true_and, and_true, or_self, true_or, or_true, false_or, or_false, decide_eq_true_eq, Int.reduceAdd, Int.reduceSub, Int.reduceMul, Int.reduceNeg, Int.reduceEq, Int.reduceLT, Int.reduceLE, Int.reduceNe, lcmp_z, lcmp_le, lcmp_ge, lcmp_lt, lcmp_gt, decide_eq_true, decide_eq_false, if_pos, if_neg, gf_17, cls_17, hiw, hin, r1', r30, r37, ra_1333, ra_2613, c4]
        · refine ⟨-1, ?_, ?_⟩
          · have e1 : ¬ C (15 + 256 * w) 8 = 5 := by omega
            clear hnx
            simp (disch := omega) only [be_X6_failure_m, be_X6_failure_0, be_X6_failure_1, be_X6_failure_2, be_X6_failure_3, be_X6_failure_4, Option.bind_some, cond_true, cond_false, decide_true, decide_false, Bool.not_true, Bool.not_false, ite_true, ite_false, and_self, true_and, and_true, or_self, true_or, or_true, false_or, or_false, decide_eq_true_eq, Int.reduceAdd, Int.reduceSub, Int.reduceMul, Int.reduceNeg, Int.reduceEq, Int.reduceLT, Int.reduceLE, Int.reduceNe, lcmp_z, lcmp_le, lcmp_ge, lcmp_lt, lcmp_gt, decide_eq_true, decide_eq_false, if_pos, if_neg, cls_16, gf_15, hat, decide_eq_false e1]
          · simp (disch := omega) only [be_X7_failure_m, be_X7_failure_0, be_X7_failure_1, be_X7_failure_2, be_X7_failure_3, be_X7_failure_4, Option.bind_some, cond_true, cond_false, decide_true, decide_false, Bool.not_true, Bool.not_false, ite_true, ite_false, and_self, true_and, and_true, or_self, true_or, or_true, false_or, or_false, decide_eq_true_eq, Int.reduceAdd, Int.reduceSub, Int.reduceMul, Int.reduceNeg, Int.reduceEq, Int.reduceLT, Int.reduceLE, Int.reduceNe, lcmp_z, lcmp_le, lcmp_ge, lcmp_lt, lcmp_gt, decide_eq_true, decide_eq_false, if_pos, if_neg, gf_17, cls_17, hiw, hin, r1', r30, ra_1333, decide_eq_false c4]
    · rw [if_neg cx] at hin
      refine ⟨-1, ?_, ?_⟩
      · by_cases c : x < 0
        · simp (disch := omega) only [be_X6_failure_m, be_X6_failure_0, be_X6_failure_1, be_X6_failure_4, Option.bind_some, cond_true, cond_false, decide_true, decide_false, Bool.not_true, Bool.not_false, ite_true, ite_false, and_self, true_and, and_true, or_self, true_or, or_true, false_or, or_false, decide_eq_true_eq, Int.reduceAdd, Int.reduceSub, Int.reduceMul, Int.reduceNeg, Int.reduceEq, Int.reduceLT, Int.reduceLE, Int.reduceNe, lcmp_z, lcmp_le, lcmp_ge, lcmp_lt, lcmp_gt, decide_eq_true, decide_eq_false, if_pos, if_neg, cls_16, hat]
        · simp (disch := omega) only [be_X6_failure_m, be_X6_failure_0, be_X6_failure_1, be_X6_failure_2, be_X6_failure_4, Option.bind_some, cond_true, cond_false, decide_true, decide_false, Bool.not_true, Bool.not_false, ite_true, ite_false, and_self, true_and, and_true, or_self, true_or, or_true, false_or, or_false, decide_eq_true_eq, Int.reduceAdd, Int.reduceSub, Int.reduceMul, Int.reduceNeg, Int.reduceEq, Int.reduceLT, Int.reduceLE, Int.reduceNe, lcmp_z, lcmp_le, lcmp_ge, lcmp_lt, lcmp_gt, decide_eq_true, decide_eq_false, if_pos, if_neg, cls_16, hat]
      · simp (disch := omega) only [be_X7_failure_m, be_X7_failure_0, be_X7_failure_1, be_X7_failure_4, Option.bind_some, cond_true, cond_false, decide_true, decide_false, Bool.not_true, Bool.not_false, ite_true, ite_false, and_self, true_and, and_true, or_self, true_or, or_true, false_or, or_false, decide_eq_true_eq, Int.reduceAdd, Int.reduceSub, Int.reduceMul, Int.reduceNeg, Int.reduceEq, Int.reduceLT, Int.reduceLE, Int.reduceNe, lcmp_z, lcmp_le, lcmp_ge, lcmp_lt, lcmp_gt, decide_eq_true, decide_eq_false, if_pos, if_neg, gf_17, cls_17, hiw, hin]
  · rw [if_neg cw] at hat hiw
    refine ⟨-1, ?_, ?_⟩
    · simp (disch := omega) only [be_X6_failure_m, be_X6_failure_0, be_X6_failure_4, Option.bind_some, cond_true, cond_false, decide_true, decide_false, Bool.not_true, Bool.not_false, ite_true, ite_false, and_self, true_and, and_true, or_self, true_or, or_true, false_or, or_false, decide_eq_true_eq, Int.reduceAdd, Int.reduceSub, Int.reduceMul, Int.reduceNeg, Int.reduceEq, Int.reduceLT, Int.reduceLE, Int.reduceNe, lcmp_z, lcmp_le, lcmp_ge, lcmp_lt, lcmp_gt, decide_eq_true, decide_eq_false, if_pos, if_neg, cls_16, hat]
    · simp (disch := omega) only [be_X7_failure_m, be_X7_failure_0, be_X7_failure_4, Option.bind_some, cond_true, cond_false, decide_true, decide_false, Bool.not_true, Bool.not_false, ite_true, ite_false, and_self, true_and, and_true, or_self, true_or, or_true, false_or, or_false, decide_eq_true_eq, Int.reduceAdd, Int.reduceSub, Int.reduceMul, Int.reduceNeg, Int.reduceEq, Int.reduceLT, Int.reduceLE, Int.reduceNe, lcmp_z, lcmp_le, lcmp_ge, lcmp_lt, lcmp_gt, decide_eq_true, decide_eq_false, if_pos, if_neg, gf_17, cls_17, hiw]
