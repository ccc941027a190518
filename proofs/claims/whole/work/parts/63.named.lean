/-! what may be named -/
theorem rf_in (M : am_M) (v lo hi : Int) : am_evm am_PP nX7_in [(1, v), (1, lo), (1, hi)] M = some (if lo ≤ v ∧ v ≤ hi then 1 else 0, M) := by
  by_cases c1 : lo ≤ v
  · by_cases c2 : v ≤ hi
    · rw [if_pos ⟨c1, c2⟩]
      simp (disch := omega) only [be_X7_in_m, be_X7_in_0, be_X7_in_1, be_X7_in_2, be_X7_in_3, be_X7_in_4, Option.bind_some, cond_true, cond_false, decide_true, decide_false, Bool.not_true, Bool.not_false, ite_true, ite_false, and_self, true_and, and_true, or_self, true_or, or_true, false_or, or_false, decide_eq_true_eq, Int.reduceAdd, Int.reduceSub, Int.reduceMul, Int.reduceNeg, Int.reduceEq, Int.reduceLT, Int.reduceLE, Int.reduceNe, lcmp_z, lcmp_le, lcmp_ge, lcmp_lt, lcmp_gt, decide_eq_true, decide_eq_false, if_pos, if_neg]
    · rw [if_neg (fun q => c2 q.2)]
      simp (disch := omega) only [be_X7_in_m, be_X7_in_0, be_X7_in_1, be_X7_in_2, be_X7_in_3, be_X7_in_4, Option.bind_some, cond_true, cond_false, decide_true, decide_false, Bool.not_true, Bool.not_false, ite_true, ite_false, and_self, true_and, and_true, or_self, true_or, or_true, false_or, or_false, decide_eq_true_eq, Int.reduceAdd, Int.reduceSub, Int.reduceMul, Int.reduceNeg, Int.reduceEq, Int.reduceLT, Int.reduceLE, Int.reduceNe, lcmp_z, lcmp_le, lcmp_ge, lcmp_lt, lcmp_gt, decide_eq_true, decide_eq_false, if_pos, if_neg]
  · rw [if_neg (fun q => c1 q.1)]
    simp (disch := omega) only [be_X7_in_m, be_X7_in_0, be_X7_in_1, be_X7_in_2, be_X7_in_3, be_X7_in_4, Option.bind_some, cond_true, cond_false, decide_true, decide_false, Bool.not_true, Bool.not_false, ite_true, ite_false, and_self, true_and, and_true, or_self, true_or, or_true, false_or, or_false, decide_eq_true_eq, Int.reduceAdd, Int.reduceSub, Int.reduceMul, Int.reduceNeg, Int.reduceEq, Int.reduceLT, Int.reduceLE, Int.reduceNe, lcmp_z, lcmp_le, lcmp_ge, lcmp_lt, lcmp_gt, decide_eq_true, decide_eq_false, if_pos, if_neg]
theorem rf_isWeaver {R : am_M} (w : Int) (h0 : 0 ≤ R 17 0) (h1 : R 17 0 ≤ 40) : am_evm am_PP nX7_isWeaver [(2, 17), (0, w)] R = some (if 0 ≤ w ∧ w < R 17 0 then 1 else 0, R) := by
  have e : (0 ≤ w ∧ w ≤ R 17 0 - 1) ↔ (0 ≤ w ∧ w < R 17 0) := by omega
  by_cases c : 0 ≤ w ∧ w < R 17 0
  · have hi := rf_in R w 0 (R 17 0 - 1)
    rw [if_pos (e.mpr c)] at hi
    rw [if_pos c]
    simp (disch := omega) only [be_X7_isWeaver_m, be_X7_isWeaver_0, Option.bind_some, cond_true, cond_false, decide_true, decide_false, Bool.not_true, Bool.not_false, ite_true, ite_false, and_self, true_and, and_true, or_self, true_or, or_true, false_or, or_false, decide_eq_true_eq, Int.reduceAdd, Int.reduceSub, Int.reduceMul, Int.reduceNeg, Int.reduceEq, Int.reduceLT, Int.reduceLE, Int.reduceNe, lcmp_z, lcmp_le, lcmp_ge, lcmp_lt, lcmp_gt, gf_17, am_w32_ok, hi]
  · have hi := rf_in R w 0 (R 17 0 - 1)
    rw [if_neg (fun q => c (e.mp q))] at hi
    rw [if_neg c]
    simp (disch := omega) only [be_X7_isWeaver_m, be_X7_isWeaver_0, Option.bind_some, cond_true, cond_false, decide_true, decide_false, Bool.not_true, Bool.not_false, ite_true, ite_false, and_self, true_and, and_true, or_self, true_or, or_true, false_or, or_false, decide_eq_true_eq, Int.reduceAdd, Int.reduceSub, Int.reduceMul, Int.reduceNeg, Int.reduceEq, Int.reduceLT, Int.reduceLE, Int.reduceNe, lcmp_z, lcmp_le, lcmp_ge, lcmp_lt, lcmp_gt, gf_17, am_w32_ok, hi]
theorem rf_isBand {R : am_M} (w : Int) (h0 : 0 ≤ R 17 11) (h1 : R 17 11 ≤ 60) : am_evm am_PP nX7_isBand [(2, 17), (0, w)] R = some (if 0 ≤ w ∧ w < R 17 11 then 1 else 0, R) := by
  have e : (0 ≤ w ∧ w ≤ R 17 11 - 1) ↔ (0 ≤ w ∧ w < R 17 11) := by omega
  by_cases c : 0 ≤ w ∧ w < R 17 11
  · have hi := rf_in R w 0 (R 17 11 - 1)
    rw [if_pos (e.mpr c)] at hi
    rw [if_pos c]
    simp (disch := omega) only [be_X7_isBand_m, be_X7_isBand_0, Option.bind_some, cond_true, cond_false, decide_true, decide_false, Bool.not_true, Bool.not_false, ite_true, ite_false, and_self, true_and, and_true, or_self, true_or, or_true, false_or, or_false, decide_eq_true_eq, Int.reduceAdd, Int.reduceSub, Int.reduceMul, Int.reduceNeg, Int.reduceEq, Int.reduceLT, Int.reduceLE, Int.reduceNe, lcmp_z, lcmp_le, lcmp_ge, lcmp_lt, lcmp_gt, gf_17, am_w32_ok, hi]
  · have hi := rf_in R w 0 (R 17 11 - 1)
    rw [if_neg (fun q => c (e.mp q))] at hi
    rw [if_neg c]
    simp (disch := omega) only [be_X7_isBand_m, be_X7_isBand_0, Option.bind_some, cond_true, cond_false, decide_true, decide_false, Bool.not_true, Bool.not_false, ite_true, ite_false, and_self, true_and, and_true, or_self, true_or, or_true, false_or, or_false, decide_eq_true_eq, Int.reduceAdd, Int.reduceSub, Int.reduceMul, Int.reduceNeg, Int.reduceEq, Int.reduceLT, Int.reduceLE, Int.reduceNe, lcmp_z, lcmp_le, lcmp_ge, lcmp_lt, lcmp_gt, gf_17, am_w32_ok, hi]
theorem cl_weaverAt {C : am_M} {W w : Int} (g0 : C 16 0 = 50) (g4 : C 16 4 = W) (hW : W ≤ 40) (h : ∀ u, 0 ≤ u → u < W → C 50 u = 15 + 256 * u) : am_evm am_PP nX6_weaverAt [(2, 16), (0, w)] C = some (if 0 ≤ w ∧ w < W then 15 + 256 * w else 0, C) := by
  by_cases c1 : 0 ≤ w
  · by_cases c2 : w < W
    · rw [if_pos ⟨c1, c2⟩]
      have := h w c1 c2
      simp (disch := omega) only [be_X6_weaverAt_m, be_X6_weaverAt_0, be_X6_weaverAt_1, be_X6_weaverAt_2, be_X6_weaverAt_3, be_X6_weaverAt_4, Option.bind_some, cond_true, cond_false, decide_true, decide_false, Bool.not_true, Bool.not_false, ite_true, ite_false, and_self, true_and, and_true, or_self, true_or, or_true, false_or, or_false, decide_eq_true_eq, Int.reduceAdd, Int.reduceSub, Int.reduceMul, Int.reduceNeg, Int.reduceEq, Int.reduceLT, Int.reduceLE, Int.reduceNe, lcmp_z, lcmp_le, lcmp_ge, lcmp_lt, lcmp_gt, decide_eq_true, decide_eq_false, if_pos, if_neg, gf_16, g0, g4, ra_50, this]
    · rw [if_neg (fun q => c2 q.2)]
      simp (disch := omega) only [be_X6_weaverAt_m, be_X6_weaverAt_0, be_X6_weaverAt_1, be_X6_weaverAt_2, be_X6_weaverAt_3, be_X6_weaverAt_4, Option.bind_some, cond_true, cond_false, decide_true, decide_false, Bool.not_true, Bool.not_false, ite_true, ite_false, and_self, true_and, and_true, or_self, true_or, or_true, false_or, or_false, decide_eq_true_eq, Int.reduceAdd, Int.reduceSub, Int.reduceMul, Int.reduceNeg, Int.reduceEq, Int.reduceLT, Int.reduceLE, Int.reduceNe, lcmp_z, lcmp_le, lcmp_ge, lcmp_lt, lcmp_gt, decide_eq_true, decide_eq_false, if_pos, if_neg, gf_16, g0, g4]
  · rw [if_neg (fun q => c1 q.1)]
    simp (disch := omega) only [be_X6_weaverAt_m, be_X6_weaverAt_0, be_X6_weaverAt_1, be_X6_weaverAt_2, be_X6_weaverAt_3, be_X6_weaverAt_4, Option.bind_some, cond_true, cond_false, decide_true, decide_false, Bool.not_true, Bool.not_false, ite_true, ite_false, and_self, true_and, and_true, or_self, true_or, or_true, false_or, or_false, decide_eq_true_eq, Int.reduceAdd, Int.reduceSub, Int.reduceMul, Int.reduceNeg, Int.reduceEq, Int.reduceLT, Int.reduceLE, Int.reduceNe, lcmp_z, lcmp_le, lcmp_ge, lcmp_lt, lcmp_gt, decide_eq_true, decide_eq_false, if_pos, if_neg, gf_16, g0, g4]
theorem cl_bandAt {C : am_M} {B w : Int} (g0 : C 16 1 = 51) (g4 : C 16 5 = B) (hW : B ≤ 60) (h : ∀ u, 0 ≤ u → u < B → C 51 u = 10 + 256 * u) : am_evm am_PP nX6_bandAt [(2, 16), (0, w)] C = some (if 0 ≤ w ∧ w < B then 10 + 256 * w else 0, C) := by
  by_cases c1 : 0 ≤ w
  · by_cases c2 : w < B
    · rw [if_pos ⟨c1, c2⟩]
      have := h w c1 c2
      simp (disch := omega) only [be_X6_bandAt_m, be_X6_bandAt_0, be_X6_bandAt_1, be_X6_bandAt_2, be_X6_bandAt_3, be_X6_bandAt_4, Option.bind_some, cond_true, cond_false, decide_true, decide_false, Bool.not_true, Bool.not_false, ite_true, ite_false, and_self, true_and, and_true, or_self, true_or, or_true, false_or, or_false, decide_eq_true_eq, Int.reduceAdd, Int.reduceSub, Int.reduceMul, Int.reduceNeg, Int.reduceEq, Int.reduceLT, Int.reduceLE, Int.reduceNe, lcmp_z, lcmp_le, lcmp_ge, lcmp_lt, lcmp_gt, decide_eq_true, decide_eq_false, if_pos, if_neg, gf_16, g0, g4, ra_51, this]
    · rw [if_neg (fun q => c2 q.2)]
      simp (disch := omega) only [be_X6_bandAt_m, be_X6_bandAt_0, be_X6_bandAt_1, be_X6_bandAt_2, be_X6_bandAt_3, be_X6_bandAt_4, Option.bind_some, cond_true, cond_false, decide_true, decide_false, Bool.not_true, Bool.not_false, ite_true, ite_false, and_self, true_and, and_true, or_self, true_or, or_true, false_or, or_false, decide_eq_true_eq, Int.reduceAdd, Int.reduceSub, Int.reduceMul, Int.reduceNeg, Int.reduceEq, Int.reduceLT, Int.reduceLE, Int.reduceNe, lcmp_z, lcmp_le, lcmp_ge, lcmp_lt, lcmp_gt, decide_eq_true, decide_eq_false, if_pos, if_neg, gf_16, g0, g4]
  · rw [if_neg (fun q => c1 q.1)]
    simp (disch := omega) only [be_X6_bandAt_m, be_X6_bandAt_0, be_X6_bandAt_1, be_X6_bandAt_2, be_X6_bandAt_3, be_X6_bandAt_4, Option.bind_some, cond_true, cond_false, decide_true, decide_false, Bool.not_true, Bool.not_false, ite_true, ite_false, and_self, true_and, and_true, or_self, true_or, or_true, false_or, or_false, decide_eq_true_eq, Int.reduceAdd, Int.reduceSub, Int.reduceMul, Int.reduceNeg, Int.reduceEq, Int.reduceLT, Int.reduceLE, Int.reduceNe, lcmp_z, lcmp_le, lcmp_ge, lcmp_lt, lcmp_gt, decide_eq_true, decide_eq_false, if_pos, if_neg, gf_16, g0, g4]
