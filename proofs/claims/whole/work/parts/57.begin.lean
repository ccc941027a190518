/-! the reference begins a run -/
def bf (R : am_M) (d : Int) : Prop := R 1341 d = R 1085 d ∧ R 1597 d = 0 ∧ R 1853 d = 0 ∧ R 2109 d = 0 ∧ R 2365 d = 0 ∧ R 65 d = 7 ∧ R 2621 d = -1 ∧ R 2877 d = -1 ∧ R 3133 d = -1
def rbb (L i : Int) : Prop := L = 1341 ∨ L = 1597 ∨ L = 1853 ∨ L = 2109 ∨ L = 2365 ∨ L = 65 ∨ L = 2621 ∨ L = 2877 ∨ L = 3133
theorem bb_loop : ∀ (n : Nat) (R : am_M) (i : Int), rs R → 0 ≤ i → i + n = R 17 11 → R 17 11 ≤ 60 → (∀ d, 0 ≤ d → d < i → bf R d) → ∃ R', am_ev am_PP nX7_begin 1 [17, i] [] R = am_ev am_PP nX7_begin 4 [17, 0] [] R' ∧ (∀ d, 0 ≤ d → d < R 17 11 → bf R' d) ∧ fr2 rbb R R' := by
  intro n
  induction n with
  | zero =>
    intro R i hR i0 i1 i2 hd
    refine ⟨R, ?_, fun d a b => hd d a (by omega), fr2_refl _ _⟩
    simp (disch := omega) only [be_X7_begin_1, be_X7_begin_3, Option.bind_some, cond_true, cond_false, decide_true, decide_false, Bool.not_true, Bool.not_false, ite_true, ite_false, and_self, true_and, and_true, or_self, true_or, or_true, false_or, or_false, decide_eq_true_eq, Int.reduceAdd, Int.reduceSub, Int.reduceMul, Int.reduceNeg, Int.reduceEq, Int.reduceLT, Int.reduceLE, Int.reduceNe, lcmp_z, lcmp_le, lcmp_ge, lcmp_lt, lcmp_gt, gf_17, decide_eq_true (show R 17 11 ≤ i by omega)]
  | succ n ih =>
    intro R i hR i0 i1 i2 hd
    have hR0 := hR
    obtain ⟨r1, r2, r3, r4, r5, r6, r7, r8, r9, r10, r12, r13, r14, r15, r16, r18, r19, r20, r21, r22, r23, r24, r25, r26, r27, r28, r30, r31, r32, r33, r34, r35, r36, r37, r38, r39, r40, r41, r44, r49, r50, r51, r52, r54⟩ := hR
    have beg : am_ev am_PP nX7_begin 1 [17, i] [] R = am_ev am_PP nX7_begin 1 [17, i + 1] [] (am_up (am_up (am_up (am_up (am_up (am_up (am_up (am_up (am_up R 1341 i (R 1085 i)) 1597 i 0) 1853 i 0) 2109 i 0) 2365 i 0) 65 i 7) 2621 i (-1)) 2877 i (-1)) 3133 i (-1)) := by
      have b1 : am_ev am_PP nX7_begin 1 [17, i] [] R = am_ev am_PP nX7_begin 2 [17, i] [] R := by
        simp (disch := omega) only [be_X7_begin_1, Option.bind_some, cond_true, cond_false, decide_true, decide_false, Bool.not_true, Bool.not_false, ite_true, ite_false, and_self, true_and, and_true, or_self, true_or, or_true, false_or, or_false, decide_eq_true_eq, Int.reduceAdd, Int.reduceSub, Int.reduceMul, Int.reduceNeg, Int.reduceEq, Int.reduceLT, Int.reduceLE, Int.reduceNe, lcmp_z, lcmp_le, lcmp_ge, lcmp_lt, lcmp_gt, gf_17, decide_eq_false (show ¬ R 17 11 ≤ i by omega)]
      rw [b1]
      simp (disch := omega) only [be_X7_begin_2, Option.bind_some, cond_true, cond_false, decide_true, decide_false, Bool.not_true, Bool.not_false, ite_true, ite_false, and_self, true_and, and_true, or_self, true_or, or_true, false_or, or_false, decide_eq_true_eq, Int.reduceAdd, Int.reduceSub, Int.reduceMul, Int.reduceNeg, Int.reduceEq, Int.reduceLT, Int.reduceLE, Int.reduceNe, lcmp_z, lcmp_le, lcmp_ge, lcmp_lt, lcmp_gt, am_up_eq, am_up_nl, am_up_ni, gf_17, pf_17, cls_17, pb0_17, pb1_17, ra_50, sa_50, ra_51, sa_51, ra_52, sa_52, ra_53, sa_53, ra_54, sa_54, ra_310, sa_310, ra_309, sa_309, ra_565, sa_565, ra_63, sa_63, ra_62, sa_62, ra_821, sa_821, ra_68, sa_68, ra_1077, sa_1077, ra_64, sa_64, ra_320, sa_320, ra_576, sa_576, ra_61, sa_61, ra_317, sa_317, ra_573, sa_573, ra_829, sa_829, ra_1085, sa_1085, ra_1341, sa_1341, ra_1597, sa_1597, ra_1853, sa_1853, ra_2109, sa_2109, ra_2365, sa_2365, ra_65, sa_65, ra_2621, sa_2621, ra_2877, sa_2877, ra_3133, sa_3133, ra_69, sa_69, ra_70, sa_70, ra_1333, sa_1333, ra_1589, sa_1589, ra_566, sa_566, ra_822, sa_822, ra_1845, sa_1845, ra_2101, sa_2101, ra_2357, sa_2357, ra_2613, sa_2613, ra_66, sa_66, ra_67, sa_67, ra_2869, sa_2869, ra_3125, sa_3125, ra_308, sa_308, ra_71, sa_71, ra_1078, sa_1078, ra_1334, sa_1334, ra_3381, sa_3381, ra_1590, sa_1590, ra_2, ra_3, r1, r2, r3, r4, r5, r6, r7, r8, r9, r10, r12, r13, r14, r15, r16, r18, r19, r20, r21, r22, r23, r24, r25, r26, r27, r28, r30, r31, r32, r33, r34, r35, r36, r37, r38, r39, r40, r41, r44, r49, r50, r51, r52, r54, am_w32_ok]
    have f1 : fr2 rbb R (am_up (am_up (am_up (am_up (am_up (am_up (am_up (am_up (am_up R 1341 i (R 1085 i)) 1597 i 0) 1853 i 0) 2109 i 0) 2365 i 0) 65 i 7) 2621 i (-1)) 2877 i (-1)) 3133 i (-1)) := by
      (repeat' first | exact fr2_refl _ _ | refine fr2_up ?_ ?_) <;> (unfold rbb; omega)
    have hnew : ∀ d, 0 ≤ d → d < i + 1 → bf (am_up (am_up (am_up (am_up (am_up (am_up (am_up (am_up (am_up R 1341 i (R 1085 i)) 1597 i 0) 1853 i 0) 2109 i 0) 2365 i 0) 65 i 7) 2621 i (-1)) 2877 i (-1)) 3133 i (-1)) d := by
      intro d a b
      unfold bf
      by_cases e : d = i
      · subst e
        simp (disch := omega) only [am_up_eq, am_up_nl, am_up_ni, and_self]
      · have := hd d a (by omega)
        unfold bf at this
        simp (disch := omega) only [am_up_eq, am_up_nl, am_up_ni]
        exact this
    rw [beg]
    revert f1 hnew
    generalize am_up (am_up (am_up (am_up (am_up (am_up (am_up (am_up (am_up R 1341 i (R 1085 i)) 1597 i 0) 1853 i 0) 2109 i 0) 2365 i 0) 65 i 7) 2621 i (-1)) 2877 i (-1)) 3133 i (-1) = R1
    intro f1 hnew
    have k11 : R1 17 11 = R 17 11 := f1 _ _ (by unfold rbb; omega)
    obtain ⟨R2, a1, a2, a3⟩ := ih R1 (i + 1) (rs_fr hR0 f1 (fun i => by unfold rbb; omega)) (by omega) (by omega) (by omega) hnew
    exact ⟨R2, a1, fun d x y => a2 d x (by omega), fr2_trans f1 a3⟩
def wf (R : am_M) (u : Int) : Prop := R 1333 u = 0 ∧ R 2101 u = 0 ∧ R 1589 u = (if R 309 u = 3 then 2 else 0) ∧ R 566 u = (if R 309 u = 3 then R 565 u else 0) ∧ R 822 u = 0 ∧ R 1845 u = 0 ∧ R 2869 u = 0 ∧ R 3125 u = 0 ∧ ∀ k, 0 ≤ k → k ≤ 3 → R 66 (4 * u + k) = 0
def rww (L i : Int) : Prop := L = 1333 ∨ L = 2101 ∨ L = 1589 ∨ L = 566 ∨ L = 822 ∨ L = 1845 ∨ L = 2869 ∨ L = 3125 ∨ L = 66
set_option maxHeartbeats 2000000 in
theorem bw_step {R : am_M} {i : Int} (hR : rs R) (i0 : 0 ≤ i) (i1 : i < 40) : ∃ R', am_ev am_PP nX7_begin 5 [17, i] [] R = am_ev am_PP nX7_begin 4 [17, i + 1] [] R' ∧ wf R' i ∧ fr2 (fun L j => rww L j ∧ (L ≠ 66 → j = i) ∧ (L = 66 → 4 * i ≤ j ∧ j < 4 * i + 4)) R R' := by
  obtain ⟨r1, r2, r3, r4, r5, r6, r7, r8, r9, r10, r12, r13, r14, r15, r16, r18, r19, r20, r21, r22, r23, r24, r25, r26, r27, r28, r30, r31, r32, r33, r34, r35, r36, r37, r38, r39, r40, r41, r44, r49, r50, r51, r52, r54⟩ := hR
  by_cases c : R 309 i = 3
  · simp (disch := omega) only [be_X7_begin_5, be_X7_begin_6, be_X7_begin_8, be_X7_begin_9, be_X7_begin_11, Option.bind_some, cond_true, cond_false, decide_true, decide_false, Bool.not_true, Bool.not_false, ite_true, ite_false, and_self, true_and, and_true, or_self, true_or, or_true, false_or, or_false, decide_eq_true_eq, Int.reduceAdd, Int.reduceSub, Int.reduceMul, Int.reduceNeg, Int.reduceEq, Int.reduceLT, Int.reduceLE, Int.reduceNe, lcmp_z, lcmp_le, lcmp_ge, lcmp_lt, lcmp_gt, am_up_eq, am_up_nl, am_up_ni, gf_17, pf_17, cls_17, pb0_17, pb1_17, ra_50, sa_50, ra_51, sa_51, ra_52, sa_52, ra_53, sa_53, ra_54, sa_54, ra_310, sa_310, ra_309, sa_309, ra_565, sa_565, ra_63, sa_63, ra_62, sa_62, ra_821, sa_821, ra_68, sa_68, ra_1077, sa_1077, ra_64, sa_64, ra_320, sa_320, ra_576, sa_576, ra_61, sa_61, ra_317, sa_317, ra_573, sa_573, ra_829, sa_829, ra_1085, sa_1085, ra_1341, sa_1341, ra_1597, sa_1597, ra_1853, sa_1853, ra_2109, sa_2109, ra_2365, sa_2365, ra_65, sa_65, ra_2621, sa_2621, ra_2877, sa_2877, ra_3133, sa_3133, ra_69, sa_69, ra_70, sa_70, ra_1333, sa_1333, ra_1589, sa_1589, ra_566, sa_566, ra_822, sa_822, ra_1845, sa_1845, ra_2101, sa_2101, ra_2357, sa_2357, ra_2613, sa_2613, ra_66, sa_66, ra_67, sa_67, ra_2869, sa_2869, ra_3125, sa_3125, ra_308, sa_308, ra_71, sa_71, ra_1078, sa_1078, ra_1334, sa_1334, ra_3381, sa_3381, ra_1590, sa_1590, ra_2, ra_3, r1, r2, r3, r4, r5, r6, r7, r8, r9, r10, r12, r13, r14, r15, r16, r18, r19, r20, r21, r22, r23, r24, r25, r26, r27, r28, r30, r31, r32, r33, r34, r35, r36, r37, r38, r39, r40, r41, r44, r49, r50, r51, r52, r54, c]
    simp (disch := omega) only [↓bpos, ↓bneg, be_X7_begin_12, be_X7_begin_13, be_X7_begin_14, Option.bind_some, cond_true, cond_false, decide_true, decide_false, Bool.not_true, Bool.not_false, ite_true, ite_false, and_self, true_and, and_true, or_self, true_or, or_true, false_or, or_false, decide_eq_true_eq, Int.reduceAdd, Int.reduceSub, Int.reduceMul, Int.reduceNeg, Int.reduceEq, Int.reduceLT, Int.reduceLE, Int.reduceNe, lcmp_z, lcmp_le, lcmp_ge, lcmp_lt, lcmp_gt, am_up_eq, am_up_nl, am_up_ni, gf_17, pf_17, cls_17, pb0_17, pb1_17, ra_50, sa_50, ra_51, sa_51, ra_52, sa_52, ra_53, sa_53, ra_54, sa_54, ra_310, sa_310, ra_309, sa_309, ra_565, sa_565, ra_63, sa_63, ra_62, sa_62, ra_821, sa_821, ra_68, sa_68, ra_1077, sa_1077, ra_64, sa_64, ra_320, sa_320, ra_576, sa_576, ra_61, sa_61, ra_317, sa_317, ra_573, sa_573, ra_829, sa_829, ra_1085, sa_1085, ra_1341, sa_1341, ra_1597, sa_1597, ra_1853, sa_1853, ra_2109, sa_2109, ra_2365, sa_2365, ra_65, sa_65, ra_2621, sa_2621, ra_2877, sa_2877, ra_3133, sa_3133, ra_69, sa_69, ra_70, sa_70, ra_1333, sa_1333, ra_1589, sa_1589, ra_566, sa_566, ra_822, sa_822, ra_1845, sa_1845, ra_2101, sa_2101, ra_2357, sa_2357, ra_2613, sa_2613, ra_66, sa_66, ra_67, sa_67, ra_2869, sa_2869, ra_3125, sa_3125, ra_308, sa_308, ra_71, sa_71, ra_1078, sa_1078, ra_1334, sa_1334, ra_3381, sa_3381, ra_1590, sa_1590, ra_2, ra_3, r1, r2, r3, r4, r5, r6, r7, r8, r9, r10, r12, r13, r14, r15, r16, r18, r19, r20, r21, r22, r23, r24, r25, r26, r27, r28, r30, r31, r32, r33, r34, r35, r36, r37, r38, r39, r40, r41, r44, r49, r50, r51, r52, r54, am_w32_ok]
    refine ⟨_, rfl, ?_, ?_⟩
    · unfold wf
      simp (disch := omega) only [am_up_eq, am_up_nl, am_up_ni, c, ite_true, and_self, true_and, and_true]
      intro k a b
      rcases (show k = 0 ∨ k = 1 ∨ k = 2 ∨ k = 3 by omega) with e | e | e | e <;> subst e <;> simp (disch := omega) only [am_up_eq, am_up_nl, am_up_ni, am_up_at]
    · (repeat' first | exact fr2_refl _ _ | refine fr2_up ?_ ?_) <;> (unfold rww; omega)
  · simp (disch := omega) only [be_X7_begin_5, be_X7_begin_7, be_X7_begin_8, be_X7_begin_10, be_X7_begin_11, Option.bind_some, cond_true, cond_false, decide_true, decide_false, Bool.not_true, Bool.not_false, ite_true, ite_false, and_self, true_and, and_true, or_self, true_or, or_true, false_or, or_false, decide_eq_true_eq, Int.reduceAdd, Int.reduceSub, Int.reduceMul, Int.reduceNeg, Int.reduceEq, Int.reduceLT, Int.reduceLE, Int.reduceNe, lcmp_z, lcmp_le, lcmp_ge, lcmp_lt, lcmp_gt, am_up_eq, am_up_nl, am_up_ni, gf_17, pf_17, cls_17, pb0_17, pb1_17, ra_50, sa_50, ra_51, sa_51, ra_52, sa_52, ra_53, sa_53, ra_54, sa_54, ra_310, sa_310, ra_309, sa_309, ra_565, sa_565, ra_63, sa_63, ra_62, sa_62, ra_821, sa_821, ra_68, sa_68, ra_1077, sa_1077, ra_64, sa_64, ra_320, sa_320, ra_576, sa_576, ra_61, sa_61, ra_317, sa_317, ra_573, sa_573, ra_829, sa_829, ra_1085, sa_1085, ra_1341, sa_1341, ra_1597, sa_1597, ra_1853, sa_1853, ra_2109, sa_2109, ra_2365, sa_2365, ra_65, sa_65, ra_2621, sa_2621, ra_2877, sa_2877, ra_3133, sa_3133, ra_69, sa_69, ra_70, sa_70, ra_1333, sa_1333, ra_1589, sa_1589, ra_566, sa_566, ra_822, sa_822, ra_1845, sa_1845, ra_2101, sa_2101, ra_2357, sa_2357, ra_2613, sa_2613, ra_66, sa_66, ra_67, sa_67, ra_2869, sa_2869, ra_3125, sa_3125, ra_308, sa_308, ra_71, sa_71, ra_1078, sa_1078, ra_1334, sa_1334, ra_3381, sa_3381, ra_1590, sa_1590, ra_2, ra_3, r1, r2, r3, r4, r5, r6, r7, r8, r9, r10, r12, r13, r14, r15, r16, r18, r19, r20, r21, r22, r23, r24, r25, r26, r27, r28, r30, r31, r32, r33, r34, r35, r36, r37, r38, r39, r40, r41, r44, r49, r50, r51, r52, r54, eq_false c]
    simp (disch := omega) only [↓bpos, ↓bneg, be_X7_begin_12, be_X7_begin_13, be_X7_begin_14, Option.bind_some, cond_true, cond_false, decide_true, decide_false, Bool.not_true, Bool.not_false, ite_true, ite_false, and_self, true_and, and_true, or_self, true_or, or_true, false_or, or_false, decide_eq_true_eq, Int.reduceAdd, Int.reduceSub, Int.reduceMul, Int.reduceNeg, Int.reduceEq, Int.reduceLT, Int.reduceLE, Int.reduceNe, lcmp_z, lcmp_le, lcmp_ge, lcmp_lt, lcmp_gt, am_up_eq, am_up_nl, am_up_ni, gf_17, pf_17, cls_17, pb0_17, pb1_17, ra_50, sa_50, ra_51, sa_51, ra_52, sa_52, ra_53, sa_53, ra_54, sa_54, ra_310, sa_310, ra_309, sa_309, ra_565, sa_565, ra_63, sa_63, ra_62, sa_62, ra_821, sa_821, ra_68, sa_68, ra_1077, sa_1077, ra_64, sa_64, ra_320, sa_320, ra_576, sa_576, ra_61, sa_61, ra_317, sa_317, ra_573, sa_573, ra_829, sa_829, ra_1085, sa_1085, ra_1341, sa_1341, ra_1597, sa_1597, ra_1853, sa_1853, ra_2109, sa_2109, ra_2365, sa_2365, ra_65, sa_65, ra_2621, sa_2621, ra_2877, sa_2877, ra_3133, sa_3133, ra_69, sa_69, ra_70, sa_70, ra_1333, sa_1333, ra_1589, sa_1589, ra_566, sa_566, ra_822, sa_822, ra_1845, sa_1845, ra_2101, sa_2101, ra_2357, sa_2357, ra_2613, sa_2613, ra_66, sa_66, ra_67, sa_67, ra_2869, sa_2869, ra_3125, sa_3125, ra_308, sa_308, ra_71, sa_71, ra_1078, sa_1078, ra_1334, sa_1334, ra_3381, sa_3381, ra_1590, sa_1590, ra_2, ra_3, r1, r2, r3, r4, r5, r6, r7, r8, r9, r10, r12, r13, r14, r15, r16, r18, r19, r20, r21, r22, r23, r24, r25, r26, r27, r28, r30, r31, r32, r33, r34, r35, r36, r37, r38, r39, r40, r41, r44, r49, r50, r51, r52, r54, am_w32_ok]
    refine ⟨_, rfl, ?_, ?_⟩
    · unfold wf
      simp (disch := omega) only [am_up_eq, am_up_nl, am_up_ni, eq_false c, ite_false, and_self, true_and, and_true]
      intro k a b
      rcases (show k = 0 ∨ k = 1 ∨ k = 2 ∨ k = 3 by omega) with e | e | e | e <;> subst e <;> simp (disch := omega) only [am_up_eq, am_up_nl, am_up_ni, am_up_at]
    · (repeat' first | exact fr2_refl _ _ | refine fr2_up ?_ ?_) <;> (unfold rww; omega)
theorem bw_loop : ∀ (n : Nat) (R : am_M) (i : Int), rs R → 0 ≤ i → i + n = R 17 0 → R 17 0 ≤ 40 → (∀ d, 0 ≤ d → d < i → wf R d) → ∃ R', am_ev am_PP nX7_begin 4 [17, i] [] R = some (0, R') ∧ (∀ d, 0 ≤ d → d < R 17 0 → wf R' d) ∧ fr2 rww R R' := by
  intro n
  induction n with
  | zero =>
    intro R i hR i0 i1 i2 hd
    refine ⟨R, ?_, fun d a b => hd d a (by omega), fr2_refl _ _⟩
    simp (disch := omega) only [be_X7_begin_4, be_X7_begin_15, Option.bind_some, cond_true, cond_false, decide_true, decide_false, Bool.not_true, Bool.not_false, ite_true, ite_false, and_self, true_and, and_true, or_self, true_or, or_true, false_or, or_false, decide_eq_true_eq, Int.reduceAdd, Int.reduceSub, Int.reduceMul, Int.reduceNeg, Int.reduceEq, Int.reduceLT, Int.reduceLE, Int.reduceNe, lcmp_z, lcmp_le, lcmp_ge, lcmp_lt, lcmp_gt, gf_17, decide_eq_true (show R 17 0 ≤ i by omega)]
  | succ n ih =>
    intro R i hR i0 i1 i2 hd
    obtain ⟨R1, e1, e2, e3⟩ := bw_step (i := i) hR i0 (by omega)
    have f1 : fr2 rww R R1 := fr2_mono (fun L j q => q.1) e3
    have k0 : R1 17 0 = R 17 0 := f1 _ _ (by unfold rww; omega)
    have b1 : am_ev am_PP nX7_begin 4 [17, i] [] R = am_ev am_PP nX7_begin 5 [17, i] [] R := by
      simp (disch := omega) only [be_X7_begin_4, Option.bind_some, cond_true, cond_false, decide_true, decide_false, Bool.not_true, Bool.not_false, ite_true, ite_false, and_self, true_and, and_true, or_self, true_or, or_true, false_or, or_false, decide_eq_true_eq, Int.reduceAdd, Int.reduceSub, Int.reduceMul, Int.reduceNeg, Int.reduceEq, Int.reduceLT, Int.reduceLE, Int.reduceNe, lcmp_z, lcmp_le, lcmp_ge, lcmp_lt, lcmp_gt, gf_17, decide_eq_false (show ¬ R 17 0 ≤ i by omega)]
    obtain ⟨R2, a1, a2, a3⟩ := ih R1 (i + 1) (rs_fr hR f1 (fun i => by unfold rww; omega)) (by omega) (by omega) (by omega) (fun d x y => by
      by_cases e : d = i
      · subst e; exact e2
      · have hw := hd d x (by omega)
        unfold wf at hw ⊢
        have s : ∀ L, L ≠ 66 → R1 L d = R L d := fun L q => e3 _ _ (fun a => e (a.2.1 q))
        rw [s 1333 (by decide), s 2101 (by decide), s 1589 (by decide), s 566 (by decide), s 822 (by decide), s 1845 (by decide), s 2869 (by decide), s 3125 (by decide), s 309 (by decide), s 565 (by decide)]
        refine ⟨hw.1, hw.2.1, hw.2.2.1, hw.2.2.2.1, hw.2.2.2.2.1, hw.2.2.2.2.2.1, hw.2.2.2.2.2.2.1, hw.2.2.2.2.2.2.2.1, fun k p q => ?_⟩
        rw [e3 66 _ (fun a => by have := a.2.2 rfl; omega)]
        exact hw.2.2.2.2.2.2.2.2 k p q)
    exact ⟨R2, by rw [b1, e1]; exact a1, fun d x y => a2 d x (by omega), fr2_trans f1 a3⟩
