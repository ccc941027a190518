/-! a run that has begun -/
theorem run_on {C R : am_M} {h V : Int → Int → Int} {t : Int → Int} (H : RR C R h V t) {way many x : Int} (wy0 : 0 ≤ way) (wy1 : way ≤ 3) (my0 : 1 ≤ many) (my1 : many ≤ 2000) (hac : R 17 42 < 40000) (hwd : R 17 43 ≤ R 17 42) :
    ∃ ans C' R' h' V' t', am_evm am_PP nX6_doActs [(2, 16), (0, way), (0, many), (0, x)] C = some (ans, C') ∧ am_ev am_PP nX7_run 11 [17, way, many, x] [] R = some (ans, R') ∧ RR C' R' h' V' t' ∧ R' 17 43 ≤ R' 17 42 ∧ R' 17 42 ≤ 42000 ∧ R' 17 0 = R 17 0 ∧ R' 17 11 = R 17 11 ∧ cfr C C' ∧ rfr R R' := by
  obtain ⟨g0, g4, g9, g10, _⟩ := RR_hall H
  have hm := main_loop wy0 wy1 my1 many.toNat C R h V t (if way = 1 then R 17 0 - 1 else 0) (if way = 1 then R 17 0 - 1 else 0) x 0 H (by omega) (by omega) (by omega) hwd (by split <;> omega) (by split <;> omega) (fun q1 q2 => by
    unfold nrm
    by_cases q : way = 1
    · rw [if_pos q, if_neg (by omega), if_neg (by omega)]
    · rw [if_neg q, if_neg (by omega), if_neg (by omega)])
  obtain ⟨ans, C', R', h', V', t', a1, a2, a3, a4, a5, a6, a7, a8, a9⟩ := hm
  refine ⟨ans, C', R', h', V', t', ?_, ?_, a3, a4, by omega, a6, a7, a8, a9⟩
  · rw [← a1]
    unfold dw
    by_cases q : way = 1
    · simp (disch := omega) only [be_X6_doActs_m, be_X6_doActs_0, be_X6_doActs_1, be_X6_doActs_3, be_X6_doActs_4, be_X6_doActs_6, Option.bind_some, cond_true, cond_false, decide_true, decide_false, Bool.not_true, Bool.not_false, ite_true, ite_false, and_self, true_and, and_true, or_self, true_or, or_true, false_or, or_false, decide_eq_true_eq, Int.reduceAdd, Int.reduceSub, Int.reduceMul, Int.reduceNeg, Int.reduceEq, Int.reduceLT, Int.reduceLE, Int.reduceNe, lcmp_z, lcmp_le, lcmp_ge, lcmp_lt, lcmp_gt, gf_16, g4, q, am_w32_ok]
    · simp (disch := omega) only [be_X6_doActs_m, be_X6_doActs_0, be_X6_doActs_2, be_X6_doActs_3, be_X6_doActs_5, be_X6_doActs_6, Option.bind_some, cond_true, cond_false, decide_true, decide_false, Bool.not_true, Bool.not_false, ite_true, ite_false, and_self, true_and, and_true, or_self, true_or, or_true, false_or, or_false, decide_eq_true_eq, Int.reduceAdd, Int.reduceSub, Int.reduceMul, Int.reduceNeg, Int.reduceEq, Int.reduceLT, Int.reduceLE, Int.reduceNe, lcmp_z, lcmp_le, lcmp_ge, lcmp_lt, lcmp_gt, eq_false q]
  · rw [← a2]
    by_cases q : way = 1
    · simp (disch := omega) only [be_X7_run_11, be_X7_run_12, be_X7_run_14, Option.bind_some, cond_true, cond_false, decide_true, decide_false, Bool.not_true, Bool.not_false, ite_true, ite_false, and_self, true_and, and_true, or_self, true_or, or_true, false_or, or_false, decide_eq_true_eq, Int.reduceAdd, Int.reduceSub, Int.reduceMul, Int.reduceNeg, Int.reduceEq, Int.reduceLT, Int.reduceLE, Int.reduceNe, lcmp_z, lcmp_le, lcmp_ge, lcmp_lt, lcmp_gt, gf_17, q, am_w32_ok]
    · simp (disch := omega) only [be_X7_run_11, be_X7_run_13, be_X7_run_14, Option.bind_some, cond_true, cond_false, decide_true, decide_false, Bool.not_true, Bool.not_false, ite_true, ite_false, and_self, true_and, and_true, or_self, true_or, or_true, false_or, or_false, decide_eq_true_eq, Int.reduceAdd, Int.reduceSub, Int.reduceMul, Int.reduceNeg, Int.reduceEq, Int.reduceLT, Int.reduceLE, Int.reduceNe, lcmp_z, lcmp_le, lcmp_ge, lcmp_lt, lcmp_gt, eq_false q]
