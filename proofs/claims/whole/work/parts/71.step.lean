/-! step, width -/
theorem cl_isRegister (M : am_M) (r : Int) : am_evm am_PP nX6_isRegister [(0, r)] M = some (if 0 ≤ r ∧ r ≤ 3 then 1 else 0, M) := by
  by_cases c1 : r < 0
  · rw [if_neg (by omega)]
    simp (disch := omega) only [be_X6_isRegister_m, be_X6_isRegister_0, be_X6_isRegister_1, be_X6_isRegister_2, be_X6_isRegister_3, be_X6_isRegister_4, Option.bind_some, cond_true, cond_false, decide_true, decide_false, Bool.not_true, Bool.not_false, ite_true, ite_false, and_self, true_and, and_true, or_self, true_or, or_true, false_or, or_false, decide_eq_true_eq, Int.reduceAdd, Int.reduceSub, Int.reduceMul, Int.reduceNeg, Int.reduceEq, Int.reduceLT, Int.reduceLE, Int.reduceNe, lcmp_z, lcmp_le, lcmp_ge, lcmp_lt, lcmp_gt, decide_eq_true, decide_eq_false, if_pos, if_neg]
  · by_cases c2 : 4 ≤ r
    · rw [if_neg (by omega)]
      simp (disch := omega) only [be_X6_isRegister_m, be_X6_isRegister_0, be_X6_isRegister_1, be_X6_isRegister_2, be_X6_isRegister_3, be_X6_isRegister_4, Option.bind_some, cond_true, cond_false, decide_true, decide_false, Bool.not_true, Bool.not_false, ite_true, ite_false, and_self, true_and, and_true, or_self, true_or, or_true, false_or, or_false, decide_eq_true_eq, Int.reduceAdd, Int.reduceSub, Int.reduceMul, Int.reduceNeg, Int.reduceEq, Int.reduceLT, Int.reduceLE, Int.reduceNe, lcmp_z, lcmp_le, lcmp_ge, lcmp_lt, lcmp_gt, decide_eq_true, decide_eq_false, if_pos, if_neg]
    · rw [if_pos (by omega)]
      simp (disch := omega) only [be_X6_isRegister_m, be_X6_isRegister_0, be_X6_isRegister_1, be_X6_isRegister_2, be_X6_isRegister_3, be_X6_isRegister_4, Option.bind_some, cond_true, cond_false, decide_true, decide_false, Bool.not_true, Bool.not_false, ite_true, ite_false, and_self, true_and, and_true, or_self, true_or, or_true, false_or, or_false, decide_eq_true_eq, Int.reduceAdd, Int.reduceSub, Int.reduceMul, Int.reduceNeg, Int.reduceEq, Int.reduceLT, Int.reduceLE, Int.reduceNe, lcmp_z, lcmp_le, lcmp_ge, lcmp_lt, lcmp_gt, decide_eq_true, decide_eq_false, if_pos, if_neg]
theorem cl_isToldWidth (M : am_M) (r : Int) : am_evm am_PP nX6_isToldWidth [(0, r)] M = some (if 1 ≤ r ∧ r ≤ 50 then 1 else 0, M) := by
  by_cases c1 : r < 1
  · rw [if_neg (by omega)]
    simp (disch := omega) only [be_X6_isToldWidth_m, be_X6_isToldWidth_0, be_X6_isToldWidth_1, be_X6_isToldWidth_2, be_X6_isToldWidth_3, be_X6_isToldWidth_4, Option.bind_some, cond_true, cond_false, decide_true, decide_false, Bool.not_true, Bool.not_false, ite_true, ite_false, and_self, true_and, and_true, or_self, true_or, or_true, false_or, or_false, decide_eq_true_eq, Int.reduceAdd, Int.reduceSub, Int.reduceMul, Int.reduceNeg, Int.reduceEq, Int.reduceLT, Int.reduceLE, Int.reduceNe, lcmp_z, lcmp_le, lcmp_ge, lcmp_lt, lcmp_gt, decide_eq_true, decide_eq_false, if_pos, if_neg]
  · by_cases c2 : 50 < r
    · rw [if_neg (by omega)]
      simp (disch := omega) only [be_X6_isToldWidth_m, be_X6_isToldWidth_0, be_X6_isToldWidth_1, be_X6_isToldWidth_2, be_X6_isToldWidth_3, be_X6_isToldWidth_4, Option.bind_some, cond_true, cond_false, decide_true, decide_false, Bool.not_true, Bool.not_false, ite_true, ite_false, and_self, true_and, and_true, or_self, true_or, or_true, false_or, or_false, decide_eq_true_eq, Int.reduceAdd, Int.reduceSub, Int.reduceMul, Int.reduceNeg, Int.reduceEq, Int.reduceLT, Int.reduceLE, Int.reduceNe, lcmp_z, lcmp_le, lcmp_ge, lcmp_lt, lcmp_gt, decide_eq_true, decide_eq_false, if_pos, if_neg]
    · rw [if_pos (by omega)]
      simp (disch := omega) only [be_X6_isToldWidth_m, be_X6_isToldWidth_0, be_X6_isToldWidth_1, be_X6_isToldWidth_2, be_X6_isToldWidth_3, be_X6_isToldWidth_4, Option.bind_some, cond_true, cond_false, decide_true, decide_false, Bool.not_true, Bool.not_false, ite_true, ite_false, and_self, true_and, and_true, or_self, true_or, or_true, false_or, or_false, decide_eq_true_eq, Int.reduceAdd, Int.reduceSub, Int.reduceMul, Int.reduceNeg, Int.reduceEq, Int.reduceLT, Int.reduceLE, Int.reduceNe, lcmp_z, lcmp_le, lcmp_ge, lcmp_lt, lcmp_gt, decide_eq_true, decide_eq_false, if_pos, if_neg]
theorem isStep_both (M N : am_M) (s a b : Int) : ∃ c, (c = 0 ∨ c = 1) ∧ am_evm am_PP nX6_isStep [(0, s), (0, a), (0, b)] M = some (c, M) ∧ am_evm am_PP nX7_isStep [(0, s), (0, a), (0, b)] N = some (c, N) ∧ (c = 1 → sv s a b) := by
  have ra := cl_isRegister M a
  have rb := cl_isRegister M b
  have i1 := rf_in N a 0 1
  have i3 := rf_in N a 0 3
  have i11 := rf_in N a 0 11
  have j3 := rf_in N b 0 3
  have hb : (∃ cb, (cb = 0 ∨ cb = 1) ∧ am_evm am_PP nX6_isRegister [(0, b)] M = some (cb, M) ∧ am_evm am_PP nX7_in [(1, b), (1, 0), (1, 3)] N = some (cb, N) ∧ (cb = 1 → 0 ≤ b ∧ b ≤ 3)) := by
    by_cases z : 0 ≤ b ∧ b ≤ 3
    · rw [if_pos z] at rb j3; exact ⟨1, Or.inr rfl, rb, j3, fun _ => z⟩
    · rw [if_neg z] at rb j3; exact ⟨0, Or.inl rfl, rb, j3, fun q => by omega⟩
  have ha : (∃ cb, (cb = 0 ∨ cb = 1) ∧ am_evm am_PP nX6_isRegister [(0, a)] M = some (cb, M) ∧ am_evm am_PP nX7_in [(1, a), (1, 0), (1, 3)] N = some (cb, N) ∧ (cb = 1 → 0 ≤ a ∧ a ≤ 3)) := by
    by_cases z : 0 ≤ a ∧ a ≤ 3
    · rw [if_pos z] at ra i3; exact ⟨1, Or.inr rfl, ra, i3, fun _ => z⟩
    · rw [if_neg z] at ra i3; exact ⟨0, Or.inl rfl, ra, i3, fun q => by omega⟩
  clear ra rb i3 j3
  obtain ⟨ca, ca1, ca2, ca3, ca4⟩ := ha
  obtain ⟨cb, cb1, cb2, cb3, cb4⟩ := hb
  have two : ∀ (t : Int), (t = 0 ∨ t = 1 ∨ t = 6) → s = t → ∃ c, (c = 0 ∨ c = 1) ∧ am_evm am_PP nX6_isStep [(0, s), (0, a), (0, b)] M = some (c, M) ∧ am_evm am_PP nX7_isStep [(0, s), (0, a), (0, b)] N = some (c, N) ∧ (c = 1 → sv s a b) := by
    intro t ht hs
    have eC : am_evm am_PP nX6_isStep [(0, s), (0, a), (0, b)] M = am_ev am_PP nX6_isStep 1 [a, b] [] M := by
      rcases ht with rfl | rfl | rfl <;> subst hs <;> simp (disch := omega) only [be_X6_isStep_m, be_X6_isStep_0, Option.bind_some, cond_true, cond_false, decide_true, decide_false, Bool.not_true, Bool.not_false, ite_true, ite_false, and_self, true_and, and_true, or_self, true_or, or_true, false_or, or_false, decide_eq_true_eq, Int.reduceAdd, Int.reduceSub, Int.reduceMul, Int.reduceNeg, Int.reduceEq, Int.reduceLT, Int.reduceLE, Int.reduceNe, lcmp_z, lcmp_le, lcmp_ge, lcmp_lt, lcmp_gt]
    have eR : am_evm am_PP nX7_isStep [(0, s), (0, a), (0, b)] N = am_ev am_PP nX7_isStep 1 [a, b] [] N := by
      rcases ht with rfl | rfl | rfl <;> subst hs <;> simp (disch := omega) only [be_X7_isStep_m, be_X7_isStep_0, Option.bind_some, cond_true, cond_false, decide_true, decide_false, Bool.not_true, Bool.not_false, ite_true, ite_false, and_self, true_and, and_true, or_self, true_or, or_true, false_or, or_false, decide_eq_true_eq, Int.reduceAdd, Int.reduceSub, Int.reduceMul, Int.reduceNeg, Int.reduceEq, Int.reduceLT, Int.reduceLE, Int.reduceNe, lcmp_z, lcmp_le, lcmp_ge, lcmp_lt, lcmp_gt]
    rw [eC, eR]
    by_cases z : 0 ≤ a ∧ a ≤ 1
    · rw [if_pos z] at i1
      rcases cb1 with q | q
      · subst q
        refine ⟨0, Or.inl rfl, ?_, ?_, fun q => by omega⟩
        · simp (disch := omega) only [be_X6_isStep_1, be_X6_isStep_2, be_X6_isStep_3, be_X6_isStep_5, be_X6_isStep_6, Option.bind_some, cond_true, cond_false, decide_true, decide_false, Bool.not_true, Bool.not_false, ite_true, ite_false, and_self, true_and, and_true, or_self, true_or, or_true, false_or, or_false, decide_eq_true_eq, Int.reduceAdd, Int.reduceSub, Int.reduceMul, Int.reduceNeg, Int.reduceEq, Int.reduceLT, Int.reduceLE, Int.reduceNe, lcmp_z, lcmp_le, lcmp_ge, lcmp_lt, lcmp_gt, decide_eq_true, decide_eq_false, if_pos, if_neg, cb2]
        · simp (disch := omega) only [be_X7_isStep_1, be_X7_isStep_2, be_X7_isStep_4, be_X7_isStep_5, Option.bind_some, cond_true, cond_false, decide_true, decide_false, Bool.not_true, Bool.not_false, ite_true, ite_false, and_self, true_and, and_true, or_self, true_or, or_true, false_or, or_false, decide_eq_true_eq, Int.reduceAdd, Int.reduceSub, Int.reduceMul, Int.reduceNeg, Int.reduceEq, Int.reduceLT, Int.reduceLE, Int.reduceNe, lcmp_z, lcmp_le, lcmp_ge, lcmp_lt, lcmp_gt, i1, cb3]
      · subst q
        refine ⟨1, Or.inr rfl, ?_, ?_, fun _ => Or.inl ⟨by omega, z.1, z.2, cb4 rfl⟩⟩
        · simp (disch := omega) only [be_X6_isStep_1, be_X6_isStep_2, be_X6_isStep_3, be_X6_isStep_4, be_X6_isStep_6, Option.bind_some, cond_true, cond_false, decide_true, decide_false, Bool.not_true, Bool.not_false, ite_true, ite_false, and_self, true_and, and_true, or_self, true_or, or_true, false_or, or_false, decide_eq_true_eq, Int.reduceAdd, Int.reduceSub, Int.reduceMul, Int.reduceNeg, Int.reduceEq, Int.reduceLT, Int.reduceLE, Int.reduceNe, lcmp_z, lcmp_le, lcmp_ge, lcmp_lt, lcmp_gt, decide_eq_true, decide_eq_false, if_pos, if_neg, cb2]
        · simp (disch := omega) only [be_X7_isStep_1, be_X7_isStep_2, be_X7_isStep_3, be_X7_isStep_5, Option.bind_some, cond_true, cond_false, decide_true, decide_false, Bool.not_true, Bool.not_false, ite_true, ite_false, and_self, true_and, and_true, or_self, true_or, or_true, false_or, or_false, decide_eq_true_eq, Int.reduceAdd, Int.reduceSub, Int.reduceMul, Int.reduceNeg, Int.reduceEq, Int.reduceLT, Int.reduceLE, Int.reduceNe, lcmp_z, lcmp_le, lcmp_ge, lcmp_lt, lcmp_gt, i1, cb3]
    · rw [if_neg z] at i1
      refine ⟨0, Or.inl rfl, ?_, ?_, fun q => by omega⟩
      · by_cases y : a < 0
        · simp (disch := omega) only [be_X6_isStep_1, be_X6_isStep_5, be_X6_isStep_6, Option.bind_some, cond_true, cond_false, decide_true, decide_false, Bool.not_true, Bool.not_false, ite_true, ite_false, and_self, true_and, and_true, or_self, true_or, or_true, false_or, or_false, decide_eq_true_eq, Int.reduceAdd, Int.reduceSub, Int.reduceMul, Int.reduceNeg, Int.reduceEq, Int.reduceLT, Int.reduceLE, Int.reduceNe, lcmp_z, lcmp_le, lcmp_ge, lcmp_lt, lcmp_gt, decide_eq_true, decide_eq_false, if_pos, if_neg]
        · simp (disch := omega) only [be_X6_isStep_1, be_X6_isStep_2, be_X6_isStep_5, be_X6_isStep_6, Option.bind_some, cond_true, cond_false, decide_true, decide_false, Bool.not_true, Bool.not_false, ite_true, ite_false, and_self, true_and, and_true, or_self, true_or, or_true, false_or, or_false, decide_eq_true_eq, Int.reduceAdd, Int.reduceSub, Int.reduceMul, Int.reduceNeg, Int.reduceEq, Int.reduceLT, Int.reduceLE, Int.reduceNe, lcmp_z, lcmp_le, lcmp_ge, lcmp_lt, lcmp_gt, decide_eq_true, decide_eq_false, if_pos, if_neg]
      · simp (disch := omega) only [be_X7_isStep_1, be_X7_isStep_4, be_X7_isStep_5, Option.bind_some, cond_true, cond_false, decide_true, decide_false, Bool.not_true, Bool.not_false, ite_true, ite_false, and_self, true_and, and_true, or_self, true_or, or_true, false_or, or_false, decide_eq_true_eq, Int.reduceAdd, Int.reduceSub, Int.reduceMul, Int.reduceNeg, Int.reduceEq, Int.reduceLT, Int.reduceLE, Int.reduceNe, lcmp_z, lcmp_le, lcmp_ge, lcmp_lt, lcmp_gt, i1]
  have thr : ∀ (t : Int), (t = 3 ∨ t = 4) → s = t → ∃ c, (c = 0 ∨ c = 1) ∧ am_evm am_PP nX6_isStep [(0, s), (0, a), (0, b)] M = some (c, M) ∧ am_evm am_PP nX7_isStep [(0, s), (0, a), (0, b)] N = some (c, N) ∧ (c = 1 → sv s a b) := by
    intro t ht hs
    have eC : am_evm am_PP nX6_isStep [(0, s), (0, a), (0, b)] M = am_ev am_PP nX6_isStep 8 [a, b] [] M := by
      rcases ht with rfl | rfl <;> subst hs <;> simp (disch := omega) only [be_X6_isStep_m, be_X6_isStep_0, Option.bind_some, cond_true, cond_false, decide_true, decide_false, Bool.not_true, Bool.not_false, ite_true, ite_false, and_self, true_and, and_true, or_self, true_or, or_true, false_or, or_false, decide_eq_true_eq, Int.reduceAdd, Int.reduceSub, Int.reduceMul, Int.reduceNeg, Int.reduceEq, Int.reduceLT, Int.reduceLE, Int.reduceNe, lcmp_z, lcmp_le, lcmp_ge, lcmp_lt, lcmp_gt]
    have eR : am_evm am_PP nX7_isStep [(0, s), (0, a), (0, b)] N = am_ev am_PP nX7_isStep 7 [a, b] [] N := by
      rcases ht with rfl | rfl <;> subst hs <;> simp (disch := omega) only [be_X7_isStep_m, be_X7_isStep_0, Option.bind_some, cond_true, cond_false, decide_true, decide_false, Bool.not_true, Bool.not_false, ite_true, ite_false, and_self, true_and, and_true, or_self, true_or, or_true, false_or, or_false, decide_eq_true_eq, Int.reduceAdd, Int.reduceSub, Int.reduceMul, Int.reduceNeg, Int.reduceEq, Int.reduceLT, Int.reduceLE, Int.reduceNe, lcmp_z, lcmp_le, lcmp_ge, lcmp_lt, lcmp_gt]
    rw [eC, eR]
    rcases ca1 with p | p
    · subst p
      refine ⟨0, Or.inl rfl, ?_, ?_, fun q => by omega⟩
      · simp (disch := omega) only [be_X6_isStep_8, be_X6_isStep_11, be_X6_isStep_12, Option.bind_some, cond_true, cond_false, decide_true, decide_false, Bool.not_true, Bool.not_false, ite_true, ite_false, and_self, true_and, and_true, or_self, true_or, or_true, false_or, or_false, decide_eq_true_eq, Int.reduceAdd, Int.reduceSub, Int.reduceMul, Int.reduceNeg, Int.reduceEq, Int.reduceLT, Int.reduceLE, Int.reduceNe, lcmp_z, lcmp_le, lcmp_ge, lcmp_lt, lcmp_gt, ca2]
      · simp (disch := omega) only [be_X7_isStep_7, be_X7_isStep_10, be_X7_isStep_11, Option.bind_some, cond_true, cond_false, decide_true, decide_false, Bool.not_true, Bool.not_false, ite_true, ite_false, and_self, true_and, and_true, or_self, true_or, or_true, false_or, or_false, decide_eq_true_eq, Int.reduceAdd, Int.reduceSub, Int.reduceMul, Int.reduceNeg, Int.reduceEq, Int.reduceLT, Int.reduceLE, Int.reduceNe, lcmp_z, lcmp_le, lcmp_ge, lcmp_lt, lcmp_gt, ca3]
    · subst p
      rcases cb1 with q | q
      · subst q
        refine ⟨0, Or.inl rfl, ?_, ?_, fun q => by omega⟩
        · simp (disch := omega) only [be_X6_isStep_8, be_X6_isStep_9, be_X6_isStep_11, be_X6_isStep_12, Option.bind_some, cond_true, cond_false, decide_true, decide_false, Bool.not_true, Bool.not_false, ite_true, ite_false, and_self, true_and, and_true, or_self, true_or, or_true, false_or, or_false, decide_eq_true_eq, Int.reduceAdd, Int.reduceSub, Int.reduceMul, Int.reduceNeg, Int.reduceEq, Int.reduceLT, Int.reduceLE, Int.reduceNe, lcmp_z, lcmp_le, lcmp_ge, lcmp_lt, lcmp_gt, ca2, cb2]
        · simp (disch := omega) only [be_X7_isStep_7, be_X7_isStep_8, be_X7_isStep_10, be_X7_isStep_11, Option.bind_some, cond_true, cond_false, decide_true, decide_false, Bool.not_true, Bool.not_false, ite_true, ite_false, and_self, true_and, and_true, or_self, true_or, or_true, false_or, or_false, decide_eq_true_eq, Int.reduceAdd, Int.reduceSub, Int.reduceMul, Int.reduceNeg, Int.reduceEq, Int.reduceLT, Int.reduceLE, Int.reduceNe, lcmp_z, lcmp_le, lcmp_ge, lcmp_lt, lcmp_gt, ca3, cb3]
      · subst q
        refine ⟨1, Or.inr rfl, ?_, ?_, fun _ => Or.inr (Or.inr (Or.inl ⟨by omega, (ca4 rfl).1, (ca4 rfl).2, cb4 rfl⟩))⟩
        · simp (disch := omega) only [be_X6_isStep_8, be_X6_isStep_9, be_X6_isStep_10, be_X6_isStep_12, Option.bind_some, cond_true, cond_false, decide_true, decide_false, Bool.not_true, Bool.not_false, ite_true, ite_false, and_self, true_and, and_true, or_self, true_or, or_true, false_or, or_false, decide_eq_true_eq, Int.reduceAdd, Int.reduceSub, Int.reduceMul, Int.reduceNeg, Int.reduceEq, Int.reduceLT, Int.reduceLE, Int.reduceNe, lcmp_z, lcmp_le, lcmp_ge, lcmp_lt, lcmp_gt, ca2, cb2]
        · simp (disch := omega) only [be_X7_isStep_7, be_X7_isStep_8, be_X7_isStep_9, be_X7_isStep_11, Option.bind_some, cond_true, cond_false, decide_true, decide_false, Bool.not_true, Bool.not_false, ite_true, ite_false, and_self, true_and, and_true, or_self, true_or, or_true, false_or, or_false, decide_eq_true_eq, Int.reduceAdd, Int.reduceSub, Int.reduceMul, Int.reduceNeg, Int.reduceEq, Int.reduceLT, Int.reduceLE, Int.reduceNe, lcmp_z, lcmp_le, lcmp_ge, lcmp_lt, lcmp_gt, ca3, cb3]
  by_cases s0 : s = 0
  · exact two 0 (by omega) s0
  by_cases s1 : s = 1
  · exact two 1 (by omega) s1
  by_cases s6 : s = 6
  · exact two 6 (by omega) s6
  by_cases s3 : s = 3
  · exact thr 3 (by omega) s3
  by_cases s4 : s = 4
  · exact thr 4 (by omega) s4
  clear two thr
  by_cases s2 : s = 2
  · subst s2
    refine ⟨ca, ca1, ?_, ?_, fun q => Or.inr (Or.inl ⟨rfl, ca4 q⟩)⟩
    · rcases ca1 with p | p <;> subst p <;> simp (disch := omega) only [be_X6_isStep_m, be_X6_isStep_0, be_X6_isStep_7, Option.bind_some, cond_true, cond_false, decide_true, decide_false, Bool.not_true, Bool.not_false, ite_true, ite_false, and_self, true_and, and_true, or_self, true_or, or_true, false_or, or_false, decide_eq_true_eq, Int.reduceAdd, Int.reduceSub, Int.reduceMul, Int.reduceNeg, Int.reduceEq, Int.reduceLT, Int.reduceLE, Int.reduceNe, lcmp_z, lcmp_le, lcmp_ge, lcmp_lt, lcmp_gt, ca2]
    · rcases ca1 with p | p <;> subst p <;> simp (disch := omega) only [be_X7_isStep_m, be_X7_isStep_0, be_X7_isStep_6, Option.bind_some, cond_true, cond_false, decide_true, decide_false, Bool.not_true, Bool.not_false, ite_true, ite_false, and_self, true_and, and_true, or_self, true_or, or_true, false_or, or_false, decide_eq_true_eq, Int.reduceAdd, Int.reduceSub, Int.reduceMul, Int.reduceNeg, Int.reduceEq, Int.reduceLT, Int.reduceLE, Int.reduceNe, lcmp_z, lcmp_le, lcmp_ge, lcmp_lt, lcmp_gt, ca3]
  by_cases s5 : s = 5
  · subst s5
    by_cases z : 0 ≤ a ∧ a ≤ 11
    · rw [if_pos z] at i11
      rcases cb1 with q | q
      · subst q
        refine ⟨0, Or.inl rfl, ?_, ?_, fun q => by omega⟩
        · simp (disch := omega) only [be_X6_isStep_m, be_X6_isStep_0, be_X6_isStep_13, be_X6_isStep_14, be_X6_isStep_15, be_X6_isStep_17, be_X6_isStep_18, Option.bind_some, cond_true, cond_false, decide_true, decide_false, Bool.not_true, Bool.not_false, ite_true, ite_false, and_self, true_and, and_true, or_self, true_or, or_true, false_or, or_false, decide_eq_true_eq, Int.reduceAdd, Int.reduceSub, Int.reduceMul, Int.reduceNeg, Int.reduceEq, Int.reduceLT, Int.reduceLE, Int.reduceNe, lcmp_z, lcmp_le, lcmp_ge, lcmp_lt, lcmp_gt, decide_eq_true, decide_eq_false, if_pos, if_neg, cb2]
        · simp (disch := omega) only [be_X7_isStep_m, be_X7_isStep_0, be_X7_isStep_12, be_X7_isStep_13, be_X7_isStep_15, be_X7_isStep_16, Option.bind_some, cond_true, cond_false, decide_true, decide_false, Bool.not_true, Bool.not_false, ite_true, ite_false, and_self, true_and, and_true, or_self, true_or, or_true, false_or, or_false, decide_eq_true_eq, Int.reduceAdd, Int.reduceSub, Int.reduceMul, Int.reduceNeg, Int.reduceEq, Int.reduceLT, Int.reduceLE, Int.reduceNe, lcmp_z, lcmp_le, lcmp_ge, lcmp_lt, lcmp_gt, i11, cb3]
      · subst q
        refine ⟨1, Or.inr rfl, ?_, ?_, fun _ => Or.inr (Or.inr (Or.inr (Or.inl ⟨rfl, z.1, z.2, cb4 rfl⟩)))⟩
        · simp (disch := omega) only [be_X6_isStep_m, be_X6_isStep_0, be_X6_isStep_13, be_X6_isStep_14, be_X6_isStep_15, be_X6_isStep_16, be_X6_isStep_18, Option.bind_some, cond_true, cond_false, decide_true, decide_false, Bool.not_true, Bool.not_false, ite_true, ite_false, and_self, true_and, and_true, or_self, true_or, or_true, false_or, or_false, decide_eq_true_eq, Int.reduceAdd, Int.reduceSub, Int.reduceMul, Int.reduceNeg, Int.reduceEq, Int.reduceLT, Int.reduceLE, Int.reduceNe, lcmp_z, lcmp_le, lcmp_ge, lcmp_lt, lcmp_gt, decide_eq_true, decide_eq_false, if_pos, if_neg, cb2]
        · simp (disch := omega) only [be_X7_isStep_m, be_X7_isStep_0, be_X7_isStep_12, be_X7_isStep_13, be_X7_isStep_14, be_X7_isStep_16, Option.bind_some, cond_true, cond_false, decide_true, decide_false, Bool.not_true, Bool.not_false, ite_true, ite_false, and_self, true_and, and_true, or_self, true_or, or_true, false_or, or_false, decide_eq_true_eq, Int.reduceAdd, Int.reduceSub, Int.reduceMul, Int.reduceNeg, Int.reduceEq, Int.reduceLT, Int.reduceLE, Int.reduceNe, lcmp_z, lcmp_le, lcmp_ge, lcmp_lt, lcmp_gt, i11, cb3]
    · rw [if_neg z] at i11
      refine ⟨0, Or.inl rfl, ?_, ?_, fun q => by omega⟩
      · by_cases y : a < 0
        · simp (disch := omega) only [be_X6_isStep_m, be_X6_isStep_0, be_X6_isStep_13, be_X6_isStep_17, be_X6_isStep_18, Option.bind_some, cond_true, cond_false, decide_true, decide_false, Bool.not_true, Bool.not_false, ite_true, ite_false, and_self, true_and, and_true, or_self, true_or, or_true, false_or, or_false, decide_eq_true_eq, Int.reduceAdd, Int.reduceSub, Int.reduceMul, Int.reduceNeg, Int.reduceEq, Int.reduceLT, Int.reduceLE, Int.reduceNe, lcmp_z, lcmp_le, lcmp_ge, lcmp_lt, lcmp_gt, decide_eq_true, decide_eq_false, if_pos, if_neg]
        · simp (disch := omega) only [be_X6_isStep_m, be_X6_isStep_0, be_X6_isStep_13, be_X6_isStep_14, be_X6_isStep_17, be_X6_isStep_18, Option.bind_some, cond_true, cond_false, decide_true, decide_false, Bool.not_true, Bool.not_false, ite_true, ite_false, and_self, true_and, and_true, or_self, true_or, or_true, false_or, or_false, decide_eq_true_eq, Int.reduceAdd, Int.reduceSub, Int.reduceMul, Int.reduceNeg, Int.reduceEq, Int.reduceLT, Int.reduceLE, Int.reduceNe, lcmp_z, lcmp_le, lcmp_ge, lcmp_lt, lcmp_gt, decide_eq_true, decide_eq_false, if_pos, if_neg]
      · simp (disch := omega) only [be_X7_isStep_m, be_X7_isStep_0, be_X7_isStep_12, be_X7_isStep_15, be_X7_isStep_16, Option.bind_some, cond_true, cond_false, decide_true, decide_false, Bool.not_true, Bool.not_false, ite_true, ite_false, and_self, true_and, and_true, or_self, true_or, or_true, false_or, or_false, decide_eq_true_eq, Int.reduceAdd, Int.reduceSub, Int.reduceMul, Int.reduceNeg, Int.reduceEq, Int.reduceLT, Int.reduceLE, Int.reduceNe, lcmp_z, lcmp_le, lcmp_ge, lcmp_lt, lcmp_gt, i11]
  by_cases s7 : s = 7
  · subst s7
    refine ⟨1, Or.inr rfl, ?_, ?_, fun q => Or.inr (Or.inr (Or.inr (Or.inr rfl)))⟩
    · simp (disch := omega) only [be_X6_isStep_m, be_X6_isStep_0, be_X6_isStep_19, Option.bind_some, cond_true, cond_false, decide_true, decide_false, Bool.not_true, Bool.not_false, ite_true, ite_false, and_self, true_and, and_true, or_self, true_or, or_true, false_or, or_false, decide_eq_true_eq, Int.reduceAdd, Int.reduceSub, Int.reduceMul, Int.reduceNeg, Int.reduceEq, Int.reduceLT, Int.reduceLE, Int.reduceNe, lcmp_z, lcmp_le, lcmp_ge, lcmp_lt, lcmp_gt]
    · simp (disch := omega) only [be_X7_isStep_m, be_X7_isStep_0, be_X7_isStep_17, be_X7_isStep_18, be_X7_isStep_20, Option.bind_some, cond_true, cond_false, decide_true, decide_false, Bool.not_true, Bool.not_false, ite_true, ite_false, and_self, true_and, and_true, or_self, true_or, or_true, false_or, or_false, decide_eq_true_eq, Int.reduceAdd, Int.reduceSub, Int.reduceMul, Int.reduceNeg, Int.reduceEq, Int.reduceLT, Int.reduceLE, Int.reduceNe, lcmp_z, lcmp_le, lcmp_ge, lcmp_lt, lcmp_gt]
  · refine ⟨0, Or.inl rfl, ?_, ?_, fun q => by omega⟩
    · simp (disch := omega) only [be_X6_isStep_m, be_X6_isStep_0, be_X6_isStep_20, Option.bind_some, cond_true, cond_false, decide_true, decide_false, Bool.not_true, Bool.not_false, ite_true, ite_false, and_self, true_and, and_true, or_self, true_or, or_true, false_or, or_false, decide_eq_true_eq, Int.reduceAdd, Int.reduceSub, Int.reduceMul, Int.reduceNeg, Int.reduceEq, Int.reduceLT, Int.reduceLE, Int.reduceNe, lcmp_z, lcmp_le, lcmp_ge, lcmp_lt, lcmp_gt, decide_eq_false s0, decide_eq_false s1, decide_eq_false s2, decide_eq_false s3, decide_eq_false s4, decide_eq_false s5, decide_eq_false s6, decide_eq_false s7]
    · simp (disch := omega) only [be_X7_isStep_m, be_X7_isStep_0, be_X7_isStep_17, be_X7_isStep_19, be_X7_isStep_20, Option.bind_some, cond_true, cond_false, decide_true, decide_false, Bool.not_true, Bool.not_false, ite_true, ite_false, and_self, true_and, and_true, or_self, true_or, or_true, false_or, or_false, decide_eq_true_eq, Int.reduceAdd, Int.reduceSub, Int.reduceMul, Int.reduceNeg, Int.reduceEq, Int.reduceLT, Int.reduceLE, Int.reduceNe, lcmp_z, lcmp_le, lcmp_ge, lcmp_lt, lcmp_gt, decide_eq_false s0, decide_eq_false s1, decide_eq_false s2, decide_eq_false s3, decide_eq_false s4, decide_eq_false s5, decide_eq_false s6, decide_eq_false s7]
theorem st13_add {C R : am_M} {w s a b : Int} (w0 : 0 ≤ w) (h : st13 C R w) (hv : sv s a b) (h12 : R 1077 w < 12) : st13 (am_up (am_up (am_up (am_up C (59 + 256 * w) (R 1077 w) s) (73 + 256 * w) (R 1077 w) a) (74 + 256 * w) (R 1077 w) b) (14 + 256 * w) 4 (R 1077 w + 1)) (am_up (am_up (am_up (am_up R 64 (12 * w + R 1077 w) s) 320 (12 * w + R 1077 w) a) 576 (12 * w + R 1077 w) b) 1077 w (R 1077 w + 1)) w := by
  obtain ⟨b1, b2, b3, b4⟩ := h
  have u : (am_up (am_up (am_up (am_up R 64 (12 * w + R 1077 w) s) 320 (12 * w + R 1077 w) a) 576 (12 * w + R 1077 w) b) 1077 w (R 1077 w + 1)) 1077 w = R 1077 w + 1 := am_up_eq _ _ _ _
  unfold st13
  rw [u]
  refine ⟨by omega, by omega, am_up_eq _ _ _ _, fun i i0 i1 => ?_⟩
  by_cases e : i = R 1077 w
  · subst e
    have e1 : (am_up (am_up (am_up (am_up C (59 + 256 * w) (R 1077 w) s) (73 + 256 * w) (R 1077 w) a) (74 + 256 * w) (R 1077 w) b) (14 + 256 * w) 4 (R 1077 w + 1)) (59 + 256 * w) (R 1077 w) = s := by simp (disch := omega) only [am_up_eq, am_up_nl, am_up_ni]
    have e2 : (am_up (am_up (am_up (am_up C (59 + 256 * w) (R 1077 w) s) (73 + 256 * w) (R 1077 w) a) (74 + 256 * w) (R 1077 w) b) (14 + 256 * w) 4 (R 1077 w + 1)) (73 + 256 * w) (R 1077 w) = a := by simp (disch := omega) only [am_up_eq, am_up_nl, am_up_ni]
    have e3 : (am_up (am_up (am_up (am_up C (59 + 256 * w) (R 1077 w) s) (73 + 256 * w) (R 1077 w) a) (74 + 256 * w) (R 1077 w) b) (14 + 256 * w) 4 (R 1077 w + 1)) (74 + 256 * w) (R 1077 w) = b := by simp (disch := omega) only [am_up_eq, am_up_nl, am_up_ni]
    have f1 : (am_up (am_up (am_up (am_up R 64 (12 * w + R 1077 w) s) 320 (12 * w + R 1077 w) a) 576 (12 * w + R 1077 w) b) 1077 w (R 1077 w + 1)) 64 (12 * w + R 1077 w) = s := by simp (disch := omega) only [am_up_eq, am_up_nl, am_up_ni]
    have f2 : (am_up (am_up (am_up (am_up R 64 (12 * w + R 1077 w) s) 320 (12 * w + R 1077 w) a) 576 (12 * w + R 1077 w) b) 1077 w (R 1077 w + 1)) 320 (12 * w + R 1077 w) = a := by simp (disch := omega) only [am_up_eq, am_up_nl, am_up_ni]
    have f3 : (am_up (am_up (am_up (am_up R 64 (12 * w + R 1077 w) s) 320 (12 * w + R 1077 w) a) 576 (12 * w + R 1077 w) b) 1077 w (R 1077 w + 1)) 576 (12 * w + R 1077 w) = b := by simp (disch := omega) only [am_up_eq, am_up_nl, am_up_ni]
    rw [e1, e2, e3, f1, f2, f3]
    exact ⟨rfl, rfl, rfl, hv⟩
  · have e1 : (am_up (am_up (am_up (am_up C (59 + 256 * w) (R 1077 w) s) (73 + 256 * w) (R 1077 w) a) (74 + 256 * w) (R 1077 w) b) (14 + 256 * w) 4 (R 1077 w + 1)) (59 + 256 * w) i = C (59 + 256 * w) i := by simp (disch := omega) only [am_up_or]
    have e2 : (am_up (am_up (am_up (am_up C (59 + 256 * w) (R 1077 w) s) (73 + 256 * w) (R 1077 w) a) (74 + 256 * w) (R 1077 w) b) (14 + 256 * w) 4 (R 1077 w + 1)) (73 + 256 * w) i = C (73 + 256 * w) i := by simp (disch := omega) only [am_up_or]
    have e3 : (am_up (am_up (am_up (am_up C (59 + 256 * w) (R 1077 w) s) (73 + 256 * w) (R 1077 w) a) (74 + 256 * w) (R 1077 w) b) (14 + 256 * w) 4 (R 1077 w + 1)) (74 + 256 * w) i = C (74 + 256 * w) i := by simp (disch := omega) only [am_up_or]
    have f1 : (am_up (am_up (am_up (am_up R 64 (12 * w + R 1077 w) s) 320 (12 * w + R 1077 w) a) 576 (12 * w + R 1077 w) b) 1077 w (R 1077 w + 1)) 64 (12 * w + i) = R 64 (12 * w + i) := by simp (disch := omega) only [am_up_or]
    have f2 : (am_up (am_up (am_up (am_up R 64 (12 * w + R 1077 w) s) 320 (12 * w + R 1077 w) a) 576 (12 * w + R 1077 w) b) 1077 w (R 1077 w + 1)) 320 (12 * w + i) = R 320 (12 * w + i) := by simp (disch := omega) only [am_up_or]
    have f3 : (am_up (am_up (am_up (am_up R 64 (12 * w + R 1077 w) s) 320 (12 * w + R 1077 w) a) 576 (12 * w + R 1077 w) b) 1077 w (R 1077 w + 1)) 576 (12 * w + i) = R 576 (12 * w + i) := by simp (disch := omega) only [am_up_or]
    rw [e1, e2, e3, f1, f2, f3]
    exact b4 i i0 (by omega)
theorem api_step (w s a b : Int) : API nX6_step nX7_step [(0, w), (0, s), (0, a), (0, b)] := by
  intro C R H
  obtain ⟨hR, hh, hn, ho⟩ := INV_hall H
  obtain ⟨g0, g1, g2, g3, g4, g5, g6, g7, g8, g9, g10, g11, g12, g13⟩ := id hh
  have hat := at_w hh hn w
  have hiw := rf_isWeaver w g9 g10
  obtain ⟨c, c01, st1, st2, csv⟩ := isStep_both C R s a b
  by_cases cw : 0 ≤ w ∧ w < R 17 0
  · obtain ⟨w0, w1⟩ := cw
    rw [if_pos ⟨w0, w1⟩] at hat hiw
    obtain ⟨x1, x2, x3⟩ := hn.1 w w0 w1
    obtain ⟨hC, hk, ha, k0, k1, a2, a5, a11, a12, a0, a13, ar⟩ := id x2
    have c5 := hC.2.2.2.2.2.1
    by_cases k : R 309 w = 13
    · have hst := a13 k
      clear a2 a5 a11 a12 a0 a13
      rcases c01 with c0 | c1
      · subst c0
        refine ⟨-1, C, R, ?_, ?_, H, cf2_refl C, rfr_refl R⟩
        · show am_evm am_PP nX6_step [(2, 16), (0, w), (0, s), (0, a), (0, b)] C = _
          simp (disch := omega) only [be_X6_step_m, be_X6_step_0, be_X6_step_1, be_X6_step_2, be_X6_step_3, Option.bind_some, cond_true, cond_false, decide_true, decide_false, Bool.not_true, Bool.not_false, ite_true, ite_false, and_self, true_and, and_true, or_self, true_or, or_true, false_or, or_false, decide_eq_true_eq, Int.reduceAdd, Int.reduceSub, Int.reduceMul, Int.reduceNeg, Int.reduceEq, Int.reduceLT, Int.reduceLE, Int.reduceNe, lcmp_z, lcmp_le, lcmp_ge, lcmp_lt, lcmp_gt, decide_eq_true, decide_eq_false, if_pos, if_neg, cls_16, gf_15, hat, hk, k, st1]
        · show am_evm am_PP nX7_step [(2, 17), (0, w), (0, s), (0, a), (0, b)] R = _
          obtain ⟨r1, r2, r3, r4, r5, r6, r7, r8, r9, r10, r12, r13, r14, r15, r16, r18, r19, r20, r21, r22, r23, r24, r25, r26, r27, r28, r30, r31, r32, r33, r34, r35, r36, r37, r38, r39, r40, r41, r44, r49, r50, r51, r52, r54⟩ := hR
          simp (disch := omega) only [be_X7_step_m, be_X7_step_0, be_X7_step_1, be_X7_step_2, be_X7_step_3, Option.bind_some, cond_true, cond_false, decide_true, decide_false, Bool.not_true, Bool.not_false, ite_true, ite_false, and_self, true_and, and_true, or_self, true_or, or_true, false_or, or_false, decide_eq_true_eq, Int.reduceAdd, Int.reduceSub, Int.reduceMul, Int.reduceNeg, Int.reduceEq, Int.reduceLT, Int.reduceLE, Int.reduceNe, lcmp_z, lcmp_le, lcmp_ge, lcmp_lt, lcmp_gt, decide_eq_true, decide_eq_false, if_pos, if_neg, cls_17, gf_17, hiw, r1, ra_309, k, st2]
      · subst c1
        have hv := csv rfl
        clear csv
        rcases INV_run H with ⟨q1, q2, N⟩ | ⟨q1, q2⟩
        · obtain ⟨b1, b2, b3, b4⟩ := id hst
          by_cases cf : R 1077 w = 12
          · refine ⟨-3, C, R, ?_, ?_, H, cf2_refl C, rfr_refl R⟩
            · show am_evm am_PP nX6_step [(2, 16), (0, w), (0, s), (0, a), (0, b)] C = _
              simp (disch := omega) only [be_X6_step_m, be_X6_step_0, be_X6_step_1, be_X6_step_2, be_X6_step_4, be_X6_step_6, be_X6_step_7, Option.bind_some, cond_true, cond_false, decide_true, decide_false, Bool.not_true, Bool.not_false, ite_true, ite_false, and_self, true_and, and_true, or_self, true_or, or_true, false_or, or_false, decide_eq_true_eq, Int.reduceAdd, Int.reduceSub, Int.reduceMul, Int.reduceNeg, Int.reduceEq, Int.reduceLT, Int.reduceLE, Int.reduceNe, lcmp_z, lcmp_le, lcmp_ge, lcmp_lt, lcmp_gt, decide_eq_true, decide_eq_false, if_pos, if_neg, cls_16, gf_15, gf_16, gf_14, hat, hk, k, st1, q2, c5, b3]
            · show am_evm am_PP nX7_step [(2, 17), (0, w), (0, s), (0, a), (0, b)] R = _
              obtain ⟨r1, r2, r3, r4, r5, r6, r7, r8, r9, r10, r12, r13, r14, r15, r16, r18, r19, r20, r21, r22, r23, r24, r25, r26, r27, r28, r30, r31, r32, r33, r34, r35, r36, r37, r38, r39, r40, r41, r44, r49, r50, r51, r52, r54⟩ := hR
              simp (disch := omega) only [be_X7_step_m, be_X7_step_0, be_X7_step_1, be_X7_step_2, be_X7_step_4, be_X7_step_6, be_X7_step_7, Option.bind_some, cond_true, cond_false, decide_true, decide_false, Bool.not_true, Bool.not_false, ite_true, ite_false, and_self, true_and, and_true, or_self, true_or, or_true, false_or, or_false, decide_eq_true_eq, Int.reduceAdd, Int.reduceSub, Int.reduceMul, Int.reduceNeg, Int.reduceEq, Int.reduceLT, Int.reduceLE, Int.reduceNe, lcmp_z, lcmp_le, lcmp_ge, lcmp_lt, lcmp_gt, decide_eq_true, decide_eq_false, if_pos, if_neg, cls_17, gf_17, hiw, r1, r7, ra_309, ra_1077, k, st2, q1, cf]
          · obtain ⟨i1, i2, i3⟩ := INV_fs (C' := am_up (am_up (am_up (am_up C (59 + 256 * w) (R 1077 w) s) (73 + 256 * w) (R 1077 w) a) (74 + 256 * w) (R 1077 w) b) (14 + 256 * w) 4 (R 1077 w + 1)) (R' := am_up (am_up (am_up (am_up R 64 (12 * w + R 1077 w) s) 320 (12 * w + R 1077 w) a) 576 (12 * w + R 1077 w) b) 1077 w (R 1077 w + 1)) H.1 N w0 w1 (fun L i q => by unfold tfs at q; simp (disch := omega) only [am_up_or]) (fun L i q => by unfold rfs at q; simp (disch := omega) only [am_up_or]) (by
              have u9 : (am_up (am_up (am_up (am_up R 64 (12 * w + R 1077 w) s) 320 (12 * w + R 1077 w) a) 576 (12 * w + R 1077 w) b) 1077 w (R 1077 w + 1)) 309 w = R 309 w := by simp (disch := omega) only [am_up_eq, am_up_nl, am_up_ni]
              have u5 : (am_up (am_up (am_up (am_up R 64 (12 * w + R 1077 w) s) 320 (12 * w + R 1077 w) a) 576 (12 * w + R 1077 w) b) 1077 w (R 1077 w + 1)) 565 w = R 565 w := by simp (disch := omega) only [am_up_eq, am_up_nl, am_up_ni]
              unfold sw
              rw [u9, u5, am_up_or _ _ _ _ _ _ (by omega), am_up_or _ _ _ _ _ _ (by omega), am_up_or _ _ _ _ _ _ (by omega), am_up_or _ _ _ _ _ _ (by omega), am_up_or _ _ _ _ _ _ (by omega), am_up_or _ _ _ _ _ _ (by omega), am_up_or _ _ _ _ _ _ (by omega), am_up_or _ _ _ _ _ _ (by omega)]
              refine ⟨?_, hk, ha, k0, k1, fun z => by omega, fun z => by omega, fun z => by omega, fun z => by omega, fun z => by omega, fun _ => st13_add w0 hst hv (by omega), ?_⟩
              · obtain ⟨d0, d1, d2, d3, d4, d5, d6, d7, d8, d9, d10, d11, d12⟩ := hC
                unfold cshape
                simp (disch := omega) only [am_up_or]
                exact ⟨d0, d1, d2, d3, d4, d5, d6, d7, d8, d9, d10, d11, d12⟩
              · obtain ⟨n, f, z⟩ := ar
                exact ⟨n, f, row_other w0 (by omega) (fun L i p => by unfold rt at p; simp (disch := omega) only [am_up_or]) (fun L p => by simp (disch := omega) only [am_up_or]) z⟩) (by omega)
            obtain ⟨d0, d1, d2, d3, d4, d5, d6, d7, d8, d9, d10, d11, d12⟩ := hC
            refine ⟨R 1077 w + 1, _, _, ?_, ?_, i1, i2, i3⟩
            · show am_evm am_PP nX6_step [(2, 16), (0, w), (0, s), (0, a), (0, b)] C = _
              clear i1 i2 i3
              simp (disch := omega) only [be_X6_step_m, be_X6_step_0, be_X6_step_1, be_X6_step_2, be_X6_step_4, be_X6_step_6, be_X6_step_8, be_X4_append_m, be_X4_append_0, be_X4_append_1, be_X4_append_2, Option.bind_some, cond_true, cond_false, decide_true, decide_false, Bool.not_true, Bool.not_false, ite_true, ite_false, and_self, true_and, and_true, or_self, true_or, or_true, false_or, or_false, decide_eq_true_eq, Int.reduceAdd, Int.reduceSub, Int.reduceMul, Int.reduceNeg, Int.reduceEq, Int.reduceLT, Int.reduceLE, Int.reduceNe, lcmp_z, lcmp_le, lcmp_ge, lcmp_lt, lcmp_gt, decide_eq_true, decide_eq_false, if_pos, if_neg, am_up_eq, am_up_nl, am_up_ni, cls_16, cls_14, pos_14, gf_15, gf_16, gf_14, pf_14, sa_59, sa_73, sa_74, hat, hk, k, st1, q2, c5, b3, d9, d10, d11, am_w32_ok]
            · show am_evm am_PP nX7_step [(2, 17), (0, w), (0, s), (0, a), (0, b)] R = _
              clear i1 i2 i3
              obtain ⟨r1, r2, r3, r4, r5, r6, r7, r8, r9, r10, r12, r13, r14, r15, r16, r18, r19, r20, r21, r22, r23, r24, r25, r26, r27, r28, r30, r31, r32, r33, r34, r35, r36, r37, r38, r39, r40, r41, r44, r49, r50, r51, r52, r54⟩ := hR
              simp (disch := omega) only [be_X7_step_m, be_X7_step_0, be_X7_step_1, be_X7_step_2, be_X7_step_4, be_X7_step_6, be_X7_step_8, Option.bind_some, cond_true, cond_false, decide_true, decide_false, Bool.not_true, Bool.not_false, ite_true, ite_false, and_self, true_and, and_true, or_self, true_or, or_true, false_or, or_false, decide_eq_true_eq, Int.reduceAdd, Int.reduceSub, Int.reduceMul, Int.reduceNeg, Int.reduceEq, Int.reduceLT, Int.reduceLE, Int.reduceNe, lcmp_z, lcmp_le, lcmp_ge, lcmp_lt, lcmp_gt, decide_eq_true, decide_eq_false, if_pos, if_neg, am_up_eq, am_up_nl, am_up_ni, cls_17, gf_17, hiw, r1, r7, r8, r9, r10, ra_309, ra_1077, sa_1077, sa_64, sa_320, sa_576, k, st2, q1, am_w32_ok]
        · refine ⟨-2, C, R, ?_, ?_, H, cf2_refl C, rfr_refl R⟩
          · show am_evm am_PP nX6_step [(2, 16), (0, w), (0, s), (0, a), (0, b)] C = _
            simp (disch := omega) only [be_X6_step_m, be_X6_step_0, be_X6_step_1, be_X6_step_2, be_X6_step_4, be_X6_step_5, Option.bind_some, cond_true, cond_false, decide_true, decide_false, Bool.not_true, Bool.not_false, ite_true, ite_false, and_self, true_and, and_true, or_self, true_or, or_true, false_or, or_false, decide_eq_true_eq, Int.reduceAdd, Int.reduceSub, Int.reduceMul, Int.reduceNeg, Int.reduceEq, Int.reduceLT, Int.reduceLE, Int.reduceNe, lcmp_z, lcmp_le, lcmp_ge, lcmp_lt, lcmp_gt, decide_eq_true, decide_eq_false, if_pos, if_neg, cls_16, gf_15, gf_16, hat, hk, k, st1, q2]
          · show am_evm am_PP nX7_step [(2, 17), (0, w), (0, s), (0, a), (0, b)] R = _
            obtain ⟨r1, r2, r3, r4, r5, r6, r7, r8, r9, r10, r12, r13, r14, r15, r16, r18, r19, r20, r21, r22, r23, r24, r25, r26, r27, r28, r30, r31, r32, r33, r34, r35, r36, r37, r38, r39, r40, r41, r44, r49, r50, r51, r52, r54⟩ := hR
            simp (disch := omega) only [be_X7_step_m, be_X7_step_0, be_X7_step_1, be_X7_step_2, be_X7_step_4, be_X7_step_5, Option.bind_some, cond_true, cond_false, decide_true, decide_false, Bool.not_true, Bool.not_false, ite_true, ite_false, and_self, true_and, and_true, or_self, true_or, or_true, false_or, or_false, decide_eq_true_eq, Int.reduceAdd, Int.reduceSub, Int.reduceMul, Int.reduceNeg, Int.reduceEq, Int.reduceLT, Int.reduceLE, Int.reduceNe, lcmp_z, lcmp_le, lcmp_ge, lcmp_lt, lcmp_gt, decide_eq_true, decide_eq_false, if_pos, if_neg, cls_17, gf_17, hiw, r1, ra_309, k, st2, q1]
    · clear a2 a5 a11 a12 a0 a13 csv c01
      refine ⟨-1, C, R, ?_, ?_, H, cf2_refl C, rfr_refl R⟩
      · show am_evm am_PP nX6_step [(2, 16), (0, w), (0, s), (0, a), (0, b)] C = _
        simp (disch := omega) only [be_X6_step_m, be_X6_step_0, be_X6_step_1, be_X6_step_3, Option.bind_some, cond_true, cond_false, decide_true, decide_false, Bool.not_true, Bool.not_false, ite_true, ite_false, and_self, true_and, and_true, or_self, true_or, or_true, false_or, or_false, decide_eq_true_eq, Int.reduceAdd, Int.reduceSub, Int.reduceMul, Int.reduceNeg, Int.reduceEq, Int.reduceLT, Int.reduceLE, Int.reduceNe, lcmp_z, lcmp_le, lcmp_ge, lcmp_lt, lcmp_gt, decide_eq_true, decide_eq_false, if_pos, if_neg, cls_16, gf_15, hat, hk]
      · show am_evm am_PP nX7_step [(2, 17), (0, w), (0, s), (0, a), (0, b)] R = _
        obtain ⟨r1, r2, r3, r4, r5, r6, r7, r8, r9, r10, r12, r13, r14, r15, r16, r18, r19, r20, r21, r22, r23, r24, r25, r26, r27, r28, r30, r31, r32, r33, r34, r35, r36, r37, r38, r39, r40, r41, r44, r49, r50, r51, r52, r54⟩ := hR
        simp (disch := omega) only [be_X7_step_m, be_X7_step_0, be_X7_step_1, be_X7_step_3, Option.bind_some, cond_true, cond_false, decide_true, decide_false, Bool.not_true, Bool.not_false, ite_true, ite_false, and_self, true_and, and_true, or_self, true_or, or_true, false_or, or_false, decide_eq_true_eq, Int.reduceAdd, Int.reduceSub, Int.reduceMul, Int.reduceNeg, Int.reduceEq, Int.reduceLT, Int.reduceLE, Int.reduceNe, lcmp_z, lcmp_le, lcmp_ge, lcmp_lt, lcmp_gt, decide_eq_true, decide_eq_false, if_pos, if_neg, cls_17, gf_17, hiw, r1, ra_309]
  · rw [if_neg cw] at hat hiw
    clear csv c01
    refine ⟨-1, C, R, ?_, ?_, H, cf2_refl C, rfr_refl R⟩
    · show am_evm am_PP nX6_step [(2, 16), (0, w), (0, s), (0, a), (0, b)] C = _
      simp (disch := omega) only [be_X6_step_m, be_X6_step_0, be_X6_step_3, Option.bind_some, cond_true, cond_false, decide_true, decide_false, Bool.not_true, Bool.not_false, ite_true, ite_false, and_self, true_and, and_true, or_self, true_or, or_true, false_or, or_false, decide_eq_true_eq, Int.reduceAdd, Int.reduceSub, Int.reduceMul, Int.reduceNeg, Int.reduceEq, Int.reduceLT, Int.reduceLE, Int.reduceNe, lcmp_z, lcmp_le, lcmp_ge, lcmp_lt, lcmp_gt, decide_eq_true, decide_eq_false, if_pos, if_neg, cls_16, hat]
    · show am_evm am_PP nX7_step [(2, 17), (0, w), (0, s), (0, a), (0, b)] R = _
      simp (disch := omega) only [be_X7_step_m, be_X7_step_0, be_X7_step_3, Option.bind_some, cond_true, cond_false, decide_true, decide_false, Bool.not_true, Bool.not_false, ite_true, ite_false, and_self, true_and, and_true, or_self, true_or, or_true, false_or, or_false, decide_eq_true_eq, Int.reduceAdd, Int.reduceSub, Int.reduceMul, Int.reduceNeg, Int.reduceEq, Int.reduceLT, Int.reduceLE, Int.reduceNe, lcmp_z, lcmp_le, lcmp_ge, lcmp_lt, lcmp_gt, decide_eq_true, decide_eq_false, if_pos, if_neg, cls_17, hiw]
theorem api_width (b n : Int) : API nX6_width nX7_width [(0, b), (0, n)] := by
  intro C R H
  obtain ⟨hR, hh, hn, ho⟩ := INV_hall H
  obtain ⟨g0, g1, g2, g3, g4, g5, g6, g7, g8, g9, g10, g11, g12, g13⟩ := id hh
  have hat := at_b hh hn b
  have hiw := rf_isBand b g11 g12
  have htw := cl_isToldWidth C n
  have hin := rf_in R n 1 50
  by_cases cb : 0 ≤ b ∧ b < R 17 11
  · obtain ⟨b0, b1⟩ := cb
    rw [if_pos ⟨b0, b1⟩] at hat hiw
    by_cases cn : 1 ≤ n ∧ n ≤ 50
    · rw [if_pos cn] at htw hin
      rcases INV_run H with ⟨q1, q2, N⟩ | ⟨q1, q2⟩
      · obtain ⟨z0, z1, z2, z3, z4, z5, z6, z7, z8, z9, z10⟩ := N.2.2.2.2.2.2.2.2.1 b b0 b1 (fun _ => 0) 0
        have hb1 : bcl (am_up C (10 + 256 * b) 4 n) b (R 61 b) (R 317 b) n (R 1085 b) 0 0 0 7 0 (fun _ => 0) 0 := by
          refine ⟨(am_up_or _ _ _ _ _ _ (by omega)).trans z0, (am_up_or _ _ _ _ _ _ (by omega)).trans z1, (am_up_or _ _ _ _ _ _ (by omega)).trans z2, (am_up_or _ _ _ _ _ _ (by omega)).trans z3, am_up_eq _ _ _ _, (am_up_or _ _ _ _ _ _ (by omega)).trans z5, (am_up_or _ _ _ _ _ _ (by omega)).trans z6, (am_up_or _ _ _ _ _ _ (by omega)).trans z7, (am_up_or _ _ _ _ _ _ (by omega)).trans z8, ?_, ?_⟩
          · exact row_ext (rok_b b0 (by omega)) z9 (fun L i p => am_up_or _ _ _ _ _ _ (by unfold rt at p; omega)) (fun L p => am_up_or _ _ _ _ _ _ (by omega)) (fun _ _ _ _ => rfl)
          · exact ring_ext z10 (fun L i p1 p2 => am_up_or _ _ _ _ _ _ (by omega)) (fun L p1 p2 => am_up_or _ _ _ _ _ _ (by omega)) (fun i p1 p2 => am_up_or _ _ _ _ _ _ (by omega)) (fun _ _ _ => rfl)
        obtain ⟨C', e1, e2, e3⟩ := bcl_restart (V' := fun _ => 0) (t' := 0) b0 (by omega) hb1
        have hfr : fr (bt b) C C' := fun L i p1 p2 p3 => (e2 L i p1 p2 p3).trans (am_up_or _ _ _ _ _ _ (by unfold bt at p1; omega))
        obtain ⟨i1, i2, i3⟩ := INV_bd (C' := C') (R' := am_up R 1085 b n) H.1 N b0 b1 hfr (fun L i q => am_up_or _ _ _ _ _ _ (by have q : ¬ (L = 1085 ∧ i = b) := q; omega)) (by rw [am_up_eq]; exact cn) (by
          have u1 : am_up R 1085 b n 61 b = R 61 b := by simp (disch := omega) only [am_up_eq, am_up_nl, am_up_ni]
          have u2 : am_up R 1085 b n 317 b = R 317 b := by simp (disch := omega) only [am_up_eq, am_up_nl, am_up_ni]
          have u3 : am_up R 1085 b n 1085 b = n := by simp (disch := omega) only [am_up_eq, am_up_nl, am_up_ni]
          refine bnew_of (V := fun _ => 0) (t := 0) b0 (by omega) ?_
          rw [u1, u2, u3]
          exact e3)
        refine ⟨R 1085 b, C', _, ?_, ?_, i1, i2, i3⟩
        · show am_evm am_PP nX6_width [(2, 16), (0, b), (0, n)] C = _
          clear i1 i2 i3
          simp (disch := omega) only [be_X6_width_m, be_X6_width_0, be_X6_width_1, be_X6_width_3, be_X6_width_5, Option.bind_some, cond_true, cond_false, decide_true, decide_false, Bool.not_true, Bool.not_false, ite_true, ite_false, and_self, true_and, and_true, or_self, true_or, or_true, false_or, or_false, decide_eq_true_eq, Int.reduceAdd, Int.reduceSub, Int.reduceMul, Int.reduceNeg, Int.reduceEq, Int.reduceLT, Int.reduceLE, Int.reduceNe, lcmp_z, lcmp_le, lcmp_ge, lcmp_lt, lcmp_gt, decide_eq_true, decide_eq_false, if_pos, if_neg, cls_16, gf_16, gf_10, pf_10, cls_10, pos_10, hat, htw, q2, z4, e1]
        · show am_evm am_PP nX7_width [(2, 17), (0, b), (0, n)] R = _
          clear i1 i2 i3
          obtain ⟨r1, r2, r3, r4, r5, r6, r7, r8, r9, r10, r12, r13, r14, r15, r16, r18, r19, r20, r21, r22, r23, r24, r25, r26, r27, r28, r30, r31, r32, r33, r34, r35, r36, r37, r38, r39, r40, r41, r44, r49, r50, r51, r52, r54⟩ := hR
          simp (disch := omega) only [be_X7_width_m, be_X7_width_0, be_X7_width_1, be_X7_width_3, be_X7_width_5, Option.bind_some, cond_true, cond_false, decide_true, decide_false, Bool.not_true, Bool.not_false, ite_true, ite_false, and_self, true_and, and_true, or_self, true_or, or_true, false_or, or_false, decide_eq_true_eq, Int.reduceAdd, Int.reduceSub, Int.reduceMul, Int.reduceNeg, Int.reduceEq, Int.reduceLT, Int.reduceLE, Int.reduceNe, lcmp_z, lcmp_le, lcmp_ge, lcmp_lt, lcmp_gt, decide_eq_true, decide_eq_false, if_pos, if_neg, cls_17, gf_17, hiw, hin, q1, r16, ra_1085, sa_1085]
      · refine ⟨-2, C, R, ?_, ?_, H, cf2_refl C, rfr_refl R⟩
        · show am_evm am_PP nX6_width [(2, 16), (0, b), (0, n)] C = _
          simp (disch := omega) only [be_X6_width_m, be_X6_width_0, be_X6_width_1, be_X6_width_3, be_X6_width_4, Option.bind_some, cond_true, cond_false, decide_true, decide_false, Bool.not_true, Bool.not_false, ite_true, ite_false, and_self, true_and, and_true, or_self, true_or, or_true, false_or, or_false, decide_eq_true_eq, Int.reduceAdd, Int.reduceSub, Int.reduceMul, Int.reduceNeg, Int.reduceEq, Int.reduceLT, Int.reduceLE, Int.reduceNe, lcmp_z, lcmp_le, lcmp_ge, lcmp_lt, lcmp_gt, decide_eq_true, decide_eq_false, if_pos, if_neg, cls_16, gf_16, hat, htw, q2]
        · show am_evm am_PP nX7_width [(2, 17), (0, b), (0, n)] R = _
          simp (disch := omega) only [be_X7_width_m, be_X7_width_0, be_X7_width_1, be_X7_width_3, be_X7_width_4, Option.bind_some, cond_true, cond_false, decide_true, decide_false, Bool.not_true, Bool.not_false, ite_true, ite_false, and_self, true_and, and_true, or_self, true_or, or_true, false_or, or_false, decide_eq_true_eq, Int.reduceAdd, Int.reduceSub, Int.reduceMul, Int.reduceNeg, Int.reduceEq, Int.reduceLT, Int.reduceLE, Int.reduceNe, lcmp_z, lcmp_le, lcmp_ge, lcmp_lt, lcmp_gt, decide_eq_true, decide_eq_false, if_pos, if_neg, cls_17, gf_17, hiw, hin, q1]
    · rw [if_neg cn] at htw hin
      refine ⟨-1, C, R, ?_, ?_, H, cf2_refl C, rfr_refl R⟩
      · show am_evm am_PP nX6_width [(2, 16), (0, b), (0, n)] C = _
        simp (disch := omega) only [be_X6_width_m, be_X6_width_0, be_X6_width_1, be_X6_width_2, Option.bind_some, cond_true, cond_false, decide_true, decide_false, Bool.not_true, Bool.not_false, ite_true, ite_false, and_self, true_and, and_true, or_self, true_or, or_true, false_or, or_false, decide_eq_true_eq, Int.reduceAdd, Int.reduceSub, Int.reduceMul, Int.reduceNeg, Int.reduceEq, Int.reduceLT, Int.reduceLE, Int.reduceNe, lcmp_z, lcmp_le, lcmp_ge, lcmp_lt, lcmp_gt, decide_eq_true, decide_eq_false, if_pos, if_neg, cls_16, hat, htw]
      · show am_evm am_PP nX7_width [(2, 17), (0, b), (0, n)] R = _
        simp (disch := omega) only [be_X7_width_m, be_X7_width_0, be_X7_width_1, be_X7_width_2, Option.bind_some, cond_true, cond_false, decide_true, decide_false, Bool.not_true, Bool.not_false, ite_true, ite_false, and_self, true_and, and_true, or_self, true_or, or_true, false_or, or_false, decide_eq_true_eq, Int.reduceAdd, Int.reduceSub, Int.reduceMul, Int.reduceNeg, Int.reduceEq, Int.reduceLT, Int.reduceLE, Int.reduceNe, lcmp_z, lcmp_le, lcmp_ge, lcmp_lt, lcmp_gt, decide_eq_true, decide_eq_false, if_pos, if_neg, cls_17, hiw, hin]
  · rw [if_neg cb] at hat hiw
    refine ⟨-1, C, R, ?_, ?_, H, cf2_refl C, rfr_refl R⟩
    · show am_evm am_PP nX6_width [(2, 16), (0, b), (0, n)] C = _
      simp (disch := omega) only [be_X6_width_m, be_X6_width_0, be_X6_width_2, Option.bind_some, cond_true, cond_false, decide_true, decide_false, Bool.not_true, Bool.not_false, ite_true, ite_false, and_self, true_and, and_true, or_self, true_or, or_true, false_or, or_false, decide_eq_true_eq, Int.reduceAdd, Int.reduceSub, Int.reduceMul, Int.reduceNeg, Int.reduceEq, Int.reduceLT, Int.reduceLE, Int.reduceNe, lcmp_z, lcmp_le, lcmp_ge, lcmp_lt, lcmp_gt, decide_eq_true, decide_eq_false, if_pos, if_neg, cls_16, hat]
    · show am_evm am_PP nX7_width [(2, 17), (0, b), (0, n)] R = _
      simp (disch := omega) only [be_X7_width_m, be_X7_width_0, be_X7_width_2, Option.bind_some, cond_true, cond_false, decide_true, decide_false, Bool.not_true, Bool.not_false, ite_true, ite_false, and_self, true_and, and_true, or_self, true_or, or_true, false_or, or_false, decide_eq_true_eq, Int.reduceAdd, Int.reduceSub, Int.reduceMul, Int.reduceNeg, Int.reduceEq, Int.reduceLT, Int.reduceLE, Int.reduceNe, lcmp_z, lcmp_le, lcmp_ge, lcmp_lt, lcmp_gt, decide_eq_true, decide_eq_false, if_pos, if_neg, cls_17, hiw]
