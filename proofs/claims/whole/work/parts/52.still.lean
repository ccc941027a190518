/-! the tightest band: the reference; standing still -/
theorem nar_loop {C : am_M} {h V : Int → Int → Int} {t : Int → Int} : ∀ (n : Nat) (R : am_M) (i s : Int), RR C R h V t → 0 ≤ i → i + n = R 17 0 → (s = -2 ∨ s = -1 ∨ (0 ≤ s ∧ s < R 17 11)) → ∃ R', am_ev am_PP nX7_narrow 1 [17, s, i] [] R = some (tgf C R n i s, R') ∧ RR C R' h V t ∧ rlk R R' := by
  intro n
  induction n with
  | zero =>
    intro R i s H i0 i1 hs
    simp (disch := omega) only [be_X7_narrow_1, be_X7_narrow_14, Option.bind_some, cond_true, cond_false, decide_true, decide_false, Bool.not_true, Bool.not_false, ite_true, ite_false, and_self, true_and, and_true, or_self, true_or, or_true, false_or, or_false, decide_eq_true_eq, Int.reduceAdd, Int.reduceSub, Int.reduceMul, Int.reduceNeg, Int.reduceEq, Int.reduceLT, Int.reduceLE, Int.reduceNe, lcmp_z, lcmp_le, lcmp_ge, lcmp_lt, lcmp_gt, gf_17, decide_eq_true (show R 17 0 ≤ i by omega)]
    exact ⟨R, rfl, H, rlk_refl _⟩
  | succ n ih =>
    intro R i s H i0 i1 hs
    obtain ⟨g0, g4, g9, g10, _⟩ := RR_hall H
    have hle : 0 ≤ R 17 42 ∧ R 17 42 ≤ 42000 := by
      obtain ⟨_, _, _, _, _, _, _, _, _, r5, r6, _⟩ := H
      exact ⟨r5, r6⟩
    obtain ⟨R1, e1, e2, e3, e4, _⟩ := rf_state H i0 (show i < R 17 0 by omega) (by omega)
    have k0 : R1 17 0 = R 17 0 := e3 _ _ (by unfold rtl; omega)
    have k11 : R1 17 11 = R 17 11 := e3 _ _ (by unfold rtl; omega)
    have beg : am_ev am_PP nX7_narrow 1 [17, s, i] [] R = am_ev am_PP nX7_narrow 2 [17, s, i] [] R := by
      simp (disch := omega) only [be_X7_narrow_1, Option.bind_some, cond_true, cond_false, decide_true, decide_false, Bool.not_true, Bool.not_false, ite_true, ite_false, and_self, true_and, and_true, or_self, true_or, or_true, false_or, or_false, decide_eq_true_eq, Int.reduceAdd, Int.reduceSub, Int.reduceMul, Int.reduceNeg, Int.reduceEq, Int.reduceLT, Int.reduceLE, Int.reduceNe, lcmp_z, lcmp_le, lcmp_ge, lcmp_lt, lcmp_gt, gf_17, decide_eq_false (show ¬ R 17 0 ≤ i by omega)]
    rw [beg]
    unfold tgf
    by_cases c : dgr C R i = 2
    · obtain ⟨h45, h46⟩ := e4 c
      rw [if_pos c]
      obtain ⟨q1, p0, p2, b0, b1, b3, _⟩ := RR_wait H i0 (show i < R 17 0 by omega) c
      have tb := tgs_b (R := R) b0 b1 hs
      have hb62 : R1 62 (2 * i + C (15 + 256 * i) 9) = R 62 (2 * i + C (15 + 256 * i) 9) := e3 _ _ (by unfold rtl; omega)
      revert b0 b1 b3 hb62 tb
      generalize R 62 (2 * i + C (15 + 256 * i) 9) = b
      intro b0 b1 b3 tb hb62
      obtain ⟨b60, _⟩ := RR_b H b0 b1
      have hR1 : rs R1 := e2.1
      have k1341 : ∀ x, R1 1341 x = R 1341 x := fun x => e3 _ _ (by unfold rtl; omega)
      obtain ⟨R2, f1, f2, f3⟩ := ih R1 (i + 1) (tgs R s b) e2 (by omega) (by omega) (by rw [k11]; exact Or.inr tb)
      rw [tgf_rlk (rlk_of e3)] at f1
      refine ⟨R2, ?_, f2, rlk_trans (rlk_of e3) f3⟩
      rw [← f1]
      rw [c] at e1
      obtain ⟨r1, r2, r3, r4, r5, r6, r7, r8, r9, r10, r12, r13, r14, r15, r16, r18, r19, r20, r21, r22, r23, r24, r25, r26, r27, r28, r30, r31, r32, r33, r34, r35, r36, r37, r38, r39, r40, r41, r44, r49, r50, r51, r52, r54⟩ := hR1
      have mid : am_ev am_PP nX7_narrow 2 [17, s, i] [] R = am_ev am_PP nX7_narrow 7 [17, i, b] [(0, if s = -2 then -1 else s)] R1 := by
        by_cases q : s = -2
        · simp (disch := omega) only [be_X7_narrow_2, be_X7_narrow_4, be_X7_narrow_5, be_X7_bandAt_m, be_X7_bandAt_0, be_X7_bandAt_1, be_X7_bandAt_2, be_X7_bandAt_3, Option.bind_some, cond_true, cond_false, decide_true, decide_false, Bool.not_true, Bool.not_false, ite_true, ite_false, and_self, true_and, and_true, or_self, true_or, or_true, false_or, or_false, decide_eq_true_eq, Int.reduceAdd, Int.reduceSub, Int.reduceMul, Int.reduceNeg, Int.reduceEq, Int.reduceLT, Int.reduceLE, Int.reduceNe, lcmp_z, lcmp_le, lcmp_ge, lcmp_lt, lcmp_gt, cls_17, gf_17, pf_17, cls_17, pb0_17, pb1_17, ra_50, sa_50, ra_51, sa_51, ra_52, sa_52, ra_53, sa_53, ra_54, sa_54, ra_310, sa_310, ra_309, sa_309, ra_565, sa_565, ra_63, sa_63, ra_62, sa_62, ra_821, sa_821, ra_68, sa_68, ra_1077, sa_1077, ra_64, sa_64, ra_320, sa_320, ra_576, sa_576, ra_61, sa_61, ra_317, sa_317, ra_573, sa_573, ra_829, sa_829, ra_1085, sa_1085, ra_1341, sa_1341, ra_1597, sa_1597, ra_1853, sa_1853, ra_2109, sa_2109, ra_2365, sa_2365, ra_65, sa_65, ra_2621, sa_2621, ra_2877, sa_2877, ra_3133, sa_3133, ra_69, sa_69, ra_70, sa_70, ra_1333, sa_1333, ra_1589, sa_1589, ra_566, sa_566, ra_822, sa_822, ra_1845, sa_1845, ra_2101, sa_2101, ra_2357, sa_2357, ra_2613, sa_2613, ra_66, sa_66, ra_67, sa_67, ra_2869, sa_2869, ra_3125, sa_3125, ra_308, sa_308, ra_71, sa_71, ra_1078, sa_1078, ra_1334, sa_1334, ra_3381, sa_3381, ra_1590, sa_1590, ra_2, ra_3, r1, r2, r3, r4, r5, r6, r7, r8, r9, r10, r12, r13, r14, r15, r16, r18, r19, r20, r21, r22, r23, r24, r25, r26, r27, r28, r30, r31, r32, r33, r34, r35, r36, r37, r38, r39, r40, r41, r44, r49, r50, r51, r52, r54, e1, h45, h46, hb62, am_w32_ok, q]
        · simp (disch := omega) only [be_X7_narrow_2, be_X7_narrow_4, be_X7_narrow_6, be_X7_bandAt_m, be_X7_bandAt_0, be_X7_bandAt_1, be_X7_bandAt_2, be_X7_bandAt_3, Option.bind_some, cond_true, cond_false, decide_true, decide_false, Bool.not_true, Bool.not_false, ite_true, ite_false, and_self, true_and, and_true, or_self, true_or, or_true, false_or, or_false, decide_eq_true_eq, Int.reduceAdd, Int.reduceSub, Int.reduceMul, Int.reduceNeg, Int.reduceEq, Int.reduceLT, Int.reduceLE, Int.reduceNe, lcmp_z, lcmp_le, lcmp_ge, lcmp_lt, lcmp_gt, cls_17, gf_17, pf_17, cls_17, pb0_17, pb1_17, ra_50, sa_50, ra_51, sa_51, ra_52, sa_52, ra_53, sa_53, ra_54, sa_54, ra_310, sa_310, ra_309, sa_309, ra_565, sa_565, ra_63, sa_63, ra_62, sa_62, ra_821, sa_821, ra_68, sa_68, ra_1077, sa_1077, ra_64, sa_64, ra_320, sa_320, ra_576, sa_576, ra_61, sa_61, ra_317, sa_317, ra_573, sa_573, ra_829, sa_829, ra_1085, sa_1085, ra_1341, sa_1341, ra_1597, sa_1597, ra_1853, sa_1853, ra_2109, sa_2109, ra_2365, sa_2365, ra_65, sa_65, ra_2621, sa_2621, ra_2877, sa_2877, ra_3133, sa_3133, ra_69, sa_69, ra_70, sa_70, ra_1333, sa_1333, ra_1589, sa_1589, ra_566, sa_566, ra_822, sa_822, ra_1845, sa_1845, ra_2101, sa_2101, ra_2357, sa_2357, ra_2613, sa_2613, ra_66, sa_66, ra_67, sa_67, ra_2869, sa_2869, ra_3125, sa_3125, ra_308, sa_308, ra_71, sa_71, ra_1078, sa_1078, ra_1334, sa_1334, ra_3381, sa_3381, ra_1590, sa_1590, ra_2, ra_3, r1, r2, r3, r4, r5, r6, r7, r8, r9, r10, r12, r13, r14, r15, r16, r18, r19, r20, r21, r22, r23, r24, r25, r26, r27, r28, r30, r31, r32, r33, r34, r35, r36, r37, r38, r39, r40, r41, r44, r49, r50, r51, r52, r54, e1, h45, h46, hb62, am_w32_ok, q]
      rw [mid]
      unfold tgs
      have hs' : (if s = -2 then (-1 : Int) else s) = -1 ∨ (0 ≤ (if s = -2 then (-1 : Int) else s) ∧ (if s = -2 then (-1 : Int) else s) < R 17 11) := by
        by_cases q : s = -2
        · rw [if_pos q]; exact Or.inl rfl
        · rw [if_neg q]; omega
      revert hs'
      generalize (if s = -2 then (-1 : Int) else s) = s'
      intro hs'
      by_cases d1 : R 1341 b < 1000
      · have d1' : ¬ 1000 ≤ R 1341 b := by omega
        by_cases d2 : s' < 0
        · rw [if_pos ⟨d1, Or.inl d2⟩]
          simp (disch := omega) only [be_X7_narrow_7, be_X7_narrow_8, be_X7_narrow_12, be_X7_narrow_13, Option.bind_some, cond_true, cond_false, decide_true, decide_false, Bool.not_true, Bool.not_false, ite_true, ite_false, and_self, true_and, and_true, or_self, true_or, or_true, false_or, or_false, decide_eq_true_eq, Int.reduceAdd, Int.reduceSub, Int.reduceMul, Int.reduceNeg, Int.reduceEq, Int.reduceLT, Int.reduceLE, Int.reduceNe, lcmp_z, lcmp_le, lcmp_ge, lcmp_lt, lcmp_gt, gf_17, pf_17, cls_17, pb0_17, pb1_17, ra_50, sa_50, ra_51, sa_51, ra_52, sa_52, ra_53, sa_53, ra_54, sa_54, ra_310, sa_310, ra_309, sa_309, ra_565, sa_565, ra_63, sa_63, ra_62, sa_62, ra_821, sa_821, ra_68, sa_68, ra_1077, sa_1077, ra_64, sa_64, ra_320, sa_320, ra_576, sa_576, ra_61, sa_61, ra_317, sa_317, ra_573, sa_573, ra_829, sa_829, ra_1085, sa_1085, ra_1341, sa_1341, ra_1597, sa_1597, ra_1853, sa_1853, ra_2109, sa_2109, ra_2365, sa_2365, ra_65, sa_65, ra_2621, sa_2621, ra_2877, sa_2877, ra_3133, sa_3133, ra_69, sa_69, ra_70, sa_70, ra_1333, sa_1333, ra_1589, sa_1589, ra_566, sa_566, ra_822, sa_822, ra_1845, sa_1845, ra_2101, sa_2101, ra_2357, sa_2357, ra_2613, sa_2613, ra_66, sa_66, ra_67, sa_67, ra_2869, sa_2869, ra_3125, sa_3125, ra_308, sa_308, ra_71, sa_71, ra_1078, sa_1078, ra_1334, sa_1334, ra_3381, sa_3381, ra_1590, sa_1590, ra_2, ra_3, r1, r2, r3, r4, r5, r6, r7, r8, r9, r10, r12, r13, r14, r15, r16, r18, r19, r20, r21, r22, r23, r24, r25, r26, r27, r28, r30, r31, r32, r33, r34, r35, r36, r37, r38, r39, r40, r41, r44, r49, r50, r51, r52, r54, k1341, decide_eq_false d1', decide_eq_true d2, am_w32_ok]
        · have s60 : s' < 60 := (RR_b H (show 0 ≤ s' by omega) (show s' < R 17 11 by omega)).1
          by_cases d3 : R 1341 b < R 1341 s'
          · rw [if_pos ⟨d1, Or.inr (Or.inl d3)⟩]
            simp (disch := omega) only [be_X7_narrow_7, be_X7_narrow_8, be_X7_narrow_9, be_X7_narrow_12, be_X7_narrow_13, Option.bind_some, cond_true, cond_false, decide_true, decide_false, Bool.not_true, Bool.not_false, ite_true, ite_false, and_self, true_and, and_true, or_self, true_or, or_true, false_or, or_false, decide_eq_true_eq, Int.reduceAdd, Int.reduceSub, Int.reduceMul, Int.reduceNeg, Int.reduceEq, Int.reduceLT, Int.reduceLE, Int.reduceNe, lcmp_z, lcmp_le, lcmp_ge, lcmp_lt, lcmp_gt, gf_17, pf_17, cls_17, pb0_17, pb1_17, ra_50, sa_50, ra_51, sa_51, ra_52, sa_52, ra_53, sa_53, ra_54, sa_54, ra_310, sa_310, ra_309, sa_309, ra_565, sa_565, ra_63, sa_63, ra_62, sa_62, ra_821, sa_821, ra_68, sa_68, ra_1077, sa_1077, ra_64, sa_64, ra_320, sa_320, ra_576, sa_576, ra_61, sa_61, ra_317, sa_317, ra_573, sa_573, ra_829, sa_829, ra_1085, sa_1085, ra_1341, sa_1341, ra_1597, sa_1597, ra_1853, sa_1853, ra_2109, sa_2109, ra_2365, sa_2365, ra_65, sa_65, ra_2621, sa_2621, ra_2877, sa_2877, ra_3133, sa_3133, ra_69, sa_69, ra_70, sa_70, ra_1333, sa_1333, ra_1589, sa_1589, ra_566, sa_566, ra_822, sa_822, ra_1845, sa_1845, ra_2101, sa_2101, ra_2357, sa_2357, ra_2613, sa_2613, ra_66, sa_66, ra_67, sa_67, ra_2869, sa_2869, ra_3125, sa_3125, ra_308, sa_308, ra_71, sa_71, ra_1078, sa_1078, ra_1334, sa_1334, ra_3381, sa_3381, ra_1590, sa_1590, ra_2, ra_3, r1, r2, r3, r4, r5, r6, r7, r8, r9, r10, r12, r13, r14, r15, r16, r18, r19, r20, r21, r22, r23, r24, r25, r26, r27, r28, r30, r31, r32, r33, r34, r35, r36, r37, r38, r39, r40, r41, r44, r49, r50, r51, r52, r54, k1341, decide_eq_false d1', decide_eq_false d2, decide_eq_true d3, am_w32_ok]
          · by_cases d4 : R 1341 b = R 1341 s'
            · by_cases d5 : b < s'
              · rw [if_pos ⟨d1, Or.inr (Or.inr ⟨d4, d5⟩)⟩]
                simp (disch := omega) only [be_X7_narrow_7, be_X7_narrow_8, be_X7_narrow_9, be_X7_narrow_10, be_X7_narrow_11, be_X7_narrow_12, be_X7_narrow_13, Option.bind_some, cond_true, cond_false, decide_true, decide_false, Bool.not_true, Bool.not_false, ite_true, ite_false, and_self, true_and, and_true, or_self, true_or, or_true, false_or, or_false, decide_eq_true_eq, Int.reduceAdd, Int.reduceSub, Int.reduceMul, Int.reduceNeg, Int.reduceEq, Int.reduceLT, Int.reduceLE, Int.reduceNe, lcmp_z, lcmp_le, lcmp_ge, lcmp_lt, lcmp_gt, gf_17, pf_17, cls_17, pb0_17, pb1_17, ra_50, sa_50, ra_51, sa_51, ra_52, sa_52, ra_53, sa_53, ra_54, sa_54, ra_310, sa_310, ra_309, sa_309, ra_565, sa_565, ra_63, sa_63, ra_62, sa_62, ra_821, sa_821, ra_68, sa_68, ra_1077, sa_1077, ra_64, sa_64, ra_320, sa_320, ra_576, sa_576, ra_61, sa_61, ra_317, sa_317, ra_573, sa_573, ra_829, sa_829, ra_1085, sa_1085, ra_1341, sa_1341, ra_1597, sa_1597, ra_1853, sa_1853, ra_2109, sa_2109, ra_2365, sa_2365, ra_65, sa_65, ra_2621, sa_2621, ra_2877, sa_2877, ra_3133, sa_3133, ra_69, sa_69, ra_70, sa_70, ra_1333, sa_1333, ra_1589, sa_1589, ra_566, sa_566, ra_822, sa_822, ra_1845, sa_1845, ra_2101, sa_2101, ra_2357, sa_2357, ra_2613, sa_2613, ra_66, sa_66, ra_67, sa_67, ra_2869, sa_2869, ra_3125, sa_3125, ra_308, sa_308, ra_71, sa_71, ra_1078, sa_1078, ra_1334, sa_1334, ra_3381, sa_3381, ra_1590, sa_1590, ra_2, ra_3, r1, r2, r3, r4, r5, r6, r7, r8, r9, r10, r12, r13, r14, r15, r16, r18, r19, r20, r21, r22, r23, r24, r25, r26, r27, r28, r30, r31, r32, r33, r34, r35, r36, r37, r38, r39, r40, r41, r44, r49, r50, r51, r52, r54, k1341, decide_eq_false d1', decide_eq_false d2, decide_eq_false d3, decide_eq_true d4, decide_eq_false (show ¬ s' ≤ b by omega), am_w32_ok]
              · rw [if_neg (by omega)]
                simp (disch := omega) only [be_X7_narrow_7, be_X7_narrow_8, be_X7_narrow_9, be_X7_narrow_10, be_X7_narrow_11, be_X7_narrow_13, Option.bind_some, cond_true, cond_false, decide_true, decide_false, Bool.not_true, Bool.not_false, ite_true, ite_false, and_self, true_and, and_true, or_self, true_or, or_true, false_or, or_false, decide_eq_true_eq, Int.reduceAdd, Int.reduceSub, Int.reduceMul, Int.reduceNeg, Int.reduceEq, Int.reduceLT, Int.reduceLE, Int.reduceNe, lcmp_z, lcmp_le, lcmp_ge, lcmp_lt, lcmp_gt, gf_17, pf_17, cls_17, pb0_17, pb1_17, ra_50, sa_50, ra_51, sa_51, ra_52, sa_52, ra_53, sa_53, ra_54, sa_54, ra_310, sa_310, ra_309, sa_309, ra_565, sa_565, ra_63, sa_63, ra_62, sa_62, ra_821, sa_821, ra_68, sa_68, ra_1077, sa_1077, ra_64, sa_64, ra_320, sa_320, ra_576, sa_576, ra_61, sa_61, ra_317, sa_317, ra_573, sa_573, ra_829, sa_829, ra_1085, sa_1085, ra_1341, sa_1341, ra_1597, sa_1597, ra_1853, sa_1853, ra_2109, sa_2109, ra_2365, sa_2365, ra_65, sa_65, ra_2621, sa_2621, ra_2877, sa_2877, ra_3133, sa_3133, ra_69, sa_69, ra_70, sa_70, ra_1333, sa_1333, ra_1589, sa_1589, ra_566, sa_566, ra_822, sa_822, ra_1845, sa_1845, ra_2101, sa_2101, ra_2357, sa_2357, ra_2613, sa_2613, ra_66, sa_66, ra_67, sa_67, ra_2869, sa_2869, ra_3125, sa_3125, ra_308, sa_308, ra_71, sa_71, ra_1078, sa_1078, ra_1334, sa_1334, ra_3381, sa_3381, ra_1590, sa_1590, ra_2, ra_3, r1, r2, r3, r4, r5, r6, r7, r8, r9, r10, r12, r13, r14, r15, r16, r18, r19, r20, r21, r22, r23, r24, r25, r26, r27, r28, r30, r31, r32, r33, r34, r35, r36, r37, r38, r39, r40, r41, r44, r49, r50, r51, r52, r54, k1341, decide_eq_false d1', decide_eq_false d2, decide_eq_false d3, decide_eq_true d4, decide_eq_true (show s' ≤ b by omega), am_w32_ok]
            · rw [if_neg (by omega)]
              simp (disch := omega) only [be_X7_narrow_7, be_X7_narrow_8, be_X7_narrow_9, be_X7_narrow_10, be_X7_narrow_13, Option.bind_some, cond_true, cond_false, decide_true, decide_false, Bool.not_true, Bool.not_false, ite_true, ite_false, and_self, true_and, and_true, or_self, true_or, or_true, false_or, or_false, decide_eq_true_eq, Int.reduceAdd, Int.reduceSub, Int.reduceMul, Int.reduceNeg, Int.reduceEq, Int.reduceLT, Int.reduceLE, Int.reduceNe, lcmp_z, lcmp_le, lcmp_ge, lcmp_lt, lcmp_gt, gf_17, pf_17, cls_17, pb0_17, pb1_17, ra_50, sa_50, ra_51, sa_51, ra_52, sa_52, ra_53, sa_53, ra_54, sa_54, ra_310, sa_310, ra_309, sa_309, ra_565, sa_565, ra_63, sa_63, ra_62, sa_62, ra_821, sa_821, ra_68, sa_68, ra_1077, sa_1077, ra_64, sa_64, ra_320, sa_320, ra_576, sa_576, ra_61, sa_61, ra_317, sa_317, ra_573, sa_573, ra_829, sa_829, ra_1085, sa_1085, ra_1341, sa_1341, ra_1597, sa_1597, ra_1853, sa_1853, ra_2109, sa_2109, ra_2365, sa_2365, ra_65, sa_65, ra_2621, sa_2621, ra_2877, sa_2877, ra_3133, sa_3133, ra_69, sa_69, ra_70, sa_70, ra_1333, sa_1333, ra_1589, sa_1589, ra_566, sa_566, ra_822, sa_822, ra_1845, sa_1845, ra_2101, sa_2101, ra_2357, sa_2357, ra_2613, sa_2613, ra_66, sa_66, ra_67, sa_67, ra_2869, sa_2869, ra_3125, sa_3125, ra_308, sa_308, ra_71, sa_71, ra_1078, sa_1078, ra_1334, sa_1334, ra_3381, sa_3381, ra_1590, sa_1590, ra_2, ra_3, r1, r2, r3, r4, r5, r6, r7, r8, r9, r10, r12, r13, r14, r15, r16, r18, r19, r20, r21, r22, r23, r24, r25, r26, r27, r28, r30, r31, r32, r33, r34, r35, r36, r37, r38, r39, r40, r41, r44, r49, r50, r51, r52, r54, k1341, decide_eq_false d1', decide_eq_false d2, decide_eq_false d3, decide_eq_false d4, am_w32_ok]
      · have d1' : 1000 ≤ R 1341 b := by omega
        rw [if_neg (fun q => d1 q.1)]
        simp (disch := omega) only [be_X7_narrow_7, be_X7_narrow_13, Option.bind_some, cond_true, cond_false, decide_true, decide_false, Bool.not_true, Bool.not_false, ite_true, ite_false, and_self, true_and, and_true, or_self, true_or, or_true, false_or, or_false, decide_eq_true_eq, Int.reduceAdd, Int.reduceSub, Int.reduceMul, Int.reduceNeg, Int.reduceEq, Int.reduceLT, Int.reduceLE, Int.reduceNe, lcmp_z, lcmp_le, lcmp_ge, lcmp_lt, lcmp_gt, gf_17, pf_17, cls_17, pb0_17, pb1_17, ra_50, sa_50, ra_51, sa_51, ra_52, sa_52, ra_53, sa_53, ra_54, sa_54, ra_310, sa_310, ra_309, sa_309, ra_565, sa_565, ra_63, sa_63, ra_62, sa_62, ra_821, sa_821, ra_68, sa_68, ra_1077, sa_1077, ra_64, sa_64, ra_320, sa_320, ra_576, sa_576, ra_61, sa_61, ra_317, sa_317, ra_573, sa_573, ra_829, sa_829, ra_1085, sa_1085, ra_1341, sa_1341, ra_1597, sa_1597, ra_1853, sa_1853, ra_2109, sa_2109, ra_2365, sa_2365, ra_65, sa_65, ra_2621, sa_2621, ra_2877, sa_2877, ra_3133, sa_3133, ra_69, sa_69, ra_70, sa_70, ra_1333, sa_1333, ra_1589, sa_1589, ra_566, sa_566, ra_822, sa_822, ra_1845, sa_1845, ra_2101, sa_2101, ra_2357, sa_2357, ra_2613, sa_2613, ra_66, sa_66, ra_67, sa_67, ra_2869, sa_2869, ra_3125, sa_3125, ra_308, sa_308, ra_71, sa_71, ra_1078, sa_1078, ra_1334, sa_1334, ra_3381, sa_3381, ra_1590, sa_1590, ra_2, ra_3, r1, r2, r3, r4, r5, r6, r7, r8, r9, r10, r12, r13, r14, r15, r16, r18, r19, r20, r21, r22, r23, r24, r25, r26, r27, r28, r30, r31, r32, r33, r34, r35, r36, r37, r38, r39, r40, r41, r44, r49, r50, r51, r52, r54, k1341, decide_eq_true d1', am_w32_ok]
    · rw [if_neg c]
      obtain ⟨R2, f1, f2, f3⟩ := ih R1 (i + 1) s e2 (by omega) (by omega) (by rw [k11]; exact hs)
      rw [tgf_rlk (rlk_of e3)] at f1
      refine ⟨R2, ?_, f2, rlk_trans (rlk_of e3) f3⟩
      rw [← f1]
      simp (disch := omega) only [be_X7_narrow_2, be_X7_narrow_3, be_X7_narrow_13, Option.bind_some, cond_true, cond_false, decide_true, decide_false, Bool.not_true, Bool.not_false, ite_true, ite_false, and_self, true_and, and_true, or_self, true_or, or_true, false_or, or_false, decide_eq_true_eq, Int.reduceAdd, Int.reduceSub, Int.reduceMul, Int.reduceNeg, Int.reduceEq, Int.reduceLT, Int.reduceLE, Int.reduceNe, lcmp_z, lcmp_le, lcmp_ge, lcmp_lt, lcmp_gt, cls_17, e1, eq_false c, am_w32_ok]
theorem tgs_ne {R : am_M} {s b : Int} (hb : 0 ≤ b) (hs : s = -2 ∨ s = -1 ∨ 0 ≤ s) : tgs R s b ≠ -2 ∧ -1 ≤ tgs R s b := by
  unfold tgs
  have e : -1 ≤ (if s = -2 then (-1 : Int) else s) := by split <;> omega
  revert e
  generalize (if s = -2 then (-1 : Int) else s) = s'
  intro e
  split <;> omega
/-- what the search comes to -/
theorem tgf_sp {C R : am_M} {h V : Int → Int → Int} {t : Int → Int} (H : RR C R h V t) : ∀ (n : Nat) (i s : Int), 0 ≤ i → i + n = R 17 0 → (s = -2 ∨ s = -1 ∨ 0 ≤ s) →
    ((∃ u, i ≤ u ∧ u < R 17 0 ∧ dgr C R u = 2) ∨ s ≠ -2 → -1 ≤ tgf C R n i s) ∧ ((∀ u, i ≤ u → u < R 17 0 → dgr C R u ≠ 2) → tgf C R n i s = s) ∧ (0 ≤ tgf C R n i s → tgf C R n i s = s ∨ ∃ u, i ≤ u ∧ u < R 17 0 ∧ dgr C R u = 2 ∧ R 62 (2 * u + C (15 + 256 * u) 9) = tgf C R n i s ∧ R 1341 (tgf C R n i s) < 1000) := by
  intro n
  induction n with
  | zero =>
    intro i s i0 i1 hs
    refine ⟨fun q => ?_, fun _ => rfl, fun _ => Or.inl rfl⟩
    show -1 ≤ s
    rcases q with ⟨u, a, b, _⟩ | q <;> omega
  | succ n ih =>
    intro i s i0 i1 hs
    unfold tgf
    by_cases c : dgr C R i = 2
    · rw [if_pos c]
      obtain ⟨q1, p0, p2, b0, b1, b3, _⟩ := RR_wait H i0 (show i < R 17 0 by omega) c
      obtain ⟨t1, t2⟩ := tgs_ne (R := R) b0 hs
      obtain ⟨a1, a2, a3⟩ := ih (i + 1) (tgs R s (R 62 (2 * i + C (15 + 256 * i) 9))) (by omega) (by omega) (by omega)
      refine ⟨fun _ => a1 (Or.inr t1), fun q => absurd c (q i (by omega) (by omega)), fun q => ?_⟩
      rcases a3 q with e | ⟨u, u0, u1, u2, u3, u4⟩
      · rw [e]
        rw [e] at q
        unfold tgs at q ⊢
        by_cases d : R 1341 (R 62 (2 * i + C (15 + 256 * i) 9)) < 1000 ∧ ((if s = -2 then -1 else s) < 0 ∨ R 1341 (R 62 (2 * i + C (15 + 256 * i) 9)) < R 1341 (if s = -2 then -1 else s) ∨ (R 1341 (R 62 (2 * i + C (15 + 256 * i) 9)) = R 1341 (if s = -2 then -1 else s) ∧ R 62 (2 * i + C (15 + 256 * i) 9) < (if s = -2 then -1 else s)))
        · rw [if_pos d]
          exact Or.inr ⟨i, by omega, by omega, c, rfl, d.1⟩
        · rw [if_neg d] at q ⊢
          by_cases e2 : s = -2
          · rw [if_pos e2] at q; omega
          · rw [if_neg e2]; exact Or.inl rfl
      · exact Or.inr ⟨u, by omega, u1, u2, u3, u4⟩
    · rw [if_neg c]
      obtain ⟨a1, a2, a3⟩ := ih (i + 1) s (by omega) (by omega) hs
      refine ⟨fun q => a1 ?_, fun q => a2 (fun u a b => q u (by omega) b), fun q => ?_⟩
      · rcases q with ⟨u, u0, u1, u2⟩ | q
        · by_cases e : u = i
          · rw [e] at u2; exact absurd u2 c
          · exact Or.inl ⟨u, by omega, u1, u2⟩
        · exact Or.inr q
      · rcases a3 q with e | ⟨u, u0, u1, u2⟩
        · exact Or.inl e
        · exact Or.inr ⟨u, by omega, u1, u2⟩
/-- the class: is it over, does it stick, or would a wider band help -/
theorem still_loop {C R : am_M} {h V : Int → Int → Int} {t : Int → Int} (H : RR C R h V t) : ∀ (n : Nat) (i : Int), 0 ≤ i → i + n = R 17 0 → ∃ c, am_ev am_PP nX6_stillness 3 [16, i] [] C = some (c, C) ∧ ((c = 2 ∧ ∃ u, i ≤ u ∧ u < R 17 0 ∧ dgr C R u = 2) ∨ (c = 0 ∧ ∀ u, i ≤ u → u < R 17 0 → dgr C R u ≠ 2)) := by
  obtain ⟨g0, g4, g9, g10, _⟩ := RR_hall H
  intro n
  induction n with
  | zero =>
    intro i i0 i1
    simp (disch := omega) only [be_X6_stillness_3, be_X6_stillness_7, Option.bind_some, cond_true, cond_false, decide_true, decide_false, Bool.not_true, Bool.not_false, ite_true, ite_false, and_self, true_and, and_true, or_self, true_or, or_true, false_or, or_false, decide_eq_true_eq, Int.reduceAdd, Int.reduceSub, Int.reduceMul, Int.reduceNeg, Int.reduceEq, Int.reduceLT, Int.reduceLE, Int.reduceNe, lcmp_z, lcmp_le, lcmp_ge, lcmp_lt, lcmp_gt, gf_16, g4, decide_eq_true (show R 17 0 ≤ i by omega)]
    exact ⟨0, rfl, Or.inr ⟨rfl, fun u a b => by omega⟩⟩
  | succ n ih =>
    intro i i0 i1
    have h50 := (RR_w H i0 (show i < R 17 0 by omega)).2.2.2.2.2.1
    have i40 := (RR_w H i0 (show i < R 17 0 by omega)).2.1
    have dv := cl_doing H i0 (show i < R 17 0 by omega)
    have beg : am_ev am_PP nX6_stillness 3 [16, i] [] C = am_ev am_PP nX6_stillness 4 [16, i] [] C := by
      simp (disch := omega) only [be_X6_stillness_3, Option.bind_some, cond_true, cond_false, decide_true, decide_false, Bool.not_true, Bool.not_false, ite_true, ite_false, and_self, true_and, and_true, or_self, true_or, or_true, false_or, or_false, decide_eq_true_eq, Int.reduceAdd, Int.reduceSub, Int.reduceMul, Int.reduceNeg, Int.reduceEq, Int.reduceLT, Int.reduceLE, Int.reduceNe, lcmp_z, lcmp_le, lcmp_ge, lcmp_lt, lcmp_gt, gf_16, g4, decide_eq_false (show ¬ R 17 0 ≤ i by omega)]
    rw [beg]
    by_cases c : dgr C R i = 2
    · rw [c] at dv
      simp (disch := omega) only [be_X6_stillness_4, be_X6_stillness_5, Option.bind_some, cond_true, cond_false, decide_true, decide_false, Bool.not_true, Bool.not_false, ite_true, ite_false, and_self, true_and, and_true, or_self, true_or, or_true, false_or, or_false, decide_eq_true_eq, Int.reduceAdd, Int.reduceSub, Int.reduceMul, Int.reduceNeg, Int.reduceEq, Int.reduceLT, Int.reduceLE, Int.reduceNe, lcmp_z, lcmp_le, lcmp_ge, lcmp_lt, lcmp_gt, gf_15, pf_15, cls_15, pos_15, gf_10, pf_10, cls_10, pos_10, gf_16, g0, ra_50, h50, dv]
      exact ⟨2, rfl, Or.inl ⟨rfl, i, by omega, by omega, c⟩⟩
    · obtain ⟨x, f1, f2⟩ := ih (i + 1) (by omega) (by omega)
      simp (disch := omega) only [be_X6_stillness_4, be_X6_stillness_6, Option.bind_some, cond_true, cond_false, decide_true, decide_false, Bool.not_true, Bool.not_false, ite_true, ite_false, and_self, true_and, and_true, or_self, true_or, or_true, false_or, or_false, decide_eq_true_eq, Int.reduceAdd, Int.reduceSub, Int.reduceMul, Int.reduceNeg, Int.reduceEq, Int.reduceLT, Int.reduceLE, Int.reduceNe, lcmp_z, lcmp_le, lcmp_ge, lcmp_lt, lcmp_gt, gf_15, pf_15, cls_15, pos_15, gf_10, pf_10, cls_10, pos_10, gf_16, g0, ra_50, h50, dv, eq_false c, am_w32_ok, f1]
      refine ⟨x, rfl, ?_⟩
      rcases f2 with ⟨p, u, u0, u1, u2⟩ | ⟨p, q⟩
      · exact Or.inl ⟨p, u, by omega, u1, u2⟩
      · refine Or.inr ⟨p, fun u a b => ?_⟩
        by_cases e : u = i
        · rw [e]; exact c
        · exact q u (by omega) b
theorem cl_stillness {C R : am_M} {h V : Int → Int → Int} {t : Int → Int} (H : RR C R h V t) : am_evm am_PP nX6_stillness [(2, 16)] C = some (if 0 ≤ tgf C R (R 17 0).toNat 0 (-2) then 1 else if tgf C R (R 17 0).toNat 0 (-2) = -1 then 2 else 0, C) := by
  obtain ⟨g0, g4, g9, g10, _⟩ := RR_hall H
  obtain ⟨a1, a2, a3⟩ := tgf_sp H (R 17 0).toNat 0 (-2) (by omega) (by omega) (Or.inl rfl)
  have ht := cl_tightest H
  by_cases c : 0 ≤ tgf C R (R 17 0).toNat 0 (-2)
  · rw [if_pos c]
    have nb : (bl (tgf C R (R 17 0).toNat 0 (-2)) = 0) = False := eq_false (by unfold bl; rw [if_neg (by omega)]; omega)
    simp (disch := omega) only [be_X6_stillness_m, be_X6_stillness_0, be_X6_stillness_1, Option.bind_some, cond_true, cond_false, decide_true, decide_false, Bool.not_true, Bool.not_false, ite_true, ite_false, and_self, true_and, and_true, or_self, true_or, or_true, false_or, or_false, decide_eq_true_eq, Int.reduceAdd, Int.reduceSub, Int.reduceMul, Int.reduceNeg, Int.reduceEq, Int.reduceLT, Int.reduceLE, Int.reduceNe, lcmp_z, lcmp_le, lcmp_ge, lcmp_lt, lcmp_gt, cls_16, ht, nb]
  · rw [if_neg c]
    have nb : bl (tgf C R (R 17 0).toNat 0 (-2)) = 0 := by unfold bl; rw [if_pos (by omega)]
    obtain ⟨x, f1, f2⟩ := still_loop H (R 17 0).toNat 0 (by omega) (by omega)
    simp (disch := omega) only [be_X6_stillness_m, be_X6_stillness_0, be_X6_stillness_2, Option.bind_some, cond_true, cond_false, decide_true, decide_false, Bool.not_true, Bool.not_false, ite_true, ite_false, and_self, true_and, and_true, or_self, true_or, or_true, false_or, or_false, decide_eq_true_eq, Int.reduceAdd, Int.reduceSub, Int.reduceMul, Int.reduceNeg, Int.reduceEq, Int.reduceLT, Int.reduceLE, Int.reduceNe, lcmp_z, lcmp_le, lcmp_ge, lcmp_lt, lcmp_gt, cls_16, ht, nb, f1]
    rcases f2 with ⟨p, q⟩ | ⟨p, q⟩
    · have := a1 (Or.inl q)
      rw [if_pos (by omega), p]
    · have := a2 q
      rw [if_neg (by omega), p]
