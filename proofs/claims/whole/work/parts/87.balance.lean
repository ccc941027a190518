/-! balance -/
def fx (k : Int) : Prop := k ≠ 4 ∧ k ≠ 5 ∧ k ≠ 7 ∧ k < 11
theorem cl_hasFixed (M : am_M) {k : Int} (k0 : 0 ≤ k) (k1 : k ≤ 13) : (fx k ∧ am_evm am_PP nX6_hasFixedRates [(0, k)] M = some (1, M)) ∨ (¬ fx k ∧ am_evm am_PP nX6_hasFixedRates [(0, k)] M = some (0, M)) := by
  have h : k = 0 ∨ k = 1 ∨ k = 2 ∨ k = 3 ∨ k = 4 ∨ k = 5 ∨ k = 6 ∨ k = 7 ∨ k = 8 ∨ k = 9 ∨ k = 10 ∨ k = 11 ∨ k = 12 ∨ k = 13 := by omega
  unfold fx
  rcases h with h | h | h | h | h | h | h | h | h | h | h | h | h | h <;> subst h
  · exact Or.inl ⟨by omega, by simp (disch := omega) only [be_X6_hasFixedRates_m, be_X6_hasFixedRates_0, be_X6_hasFixedRates_2, Option.bind_some, cond_true, cond_false, decide_true, decide_false, Bool.not_true, Bool.not_false, ite_true, ite_false, and_self, true_and, and_true, or_self, true_or, or_true, false_or, or_false, decide_eq_true_eq, Int.reduceAdd, Int.reduceSub, Int.reduceMul, Int.reduceNeg, Int.reduceEq, Int.reduceLT, Int.reduceLE, Int.reduceNe, lcmp_z, lcmp_le, lcmp_ge, lcmp_lt, lcmp_gt]⟩
  · exact Or.inl ⟨by omega, by simp (disch := omega) only [be_X6_hasFixedRates_m, be_X6_hasFixedRates_0, be_X6_hasFixedRates_2, Option.bind_some, cond_true, cond_false, decide_true, decide_false, Bool.not_true, Bool.not_false, ite_true, ite_false, and_self, true_and, and_true, or_self, true_or, or_true, false_or, or_false, decide_eq_true_eq, Int.reduceAdd, Int.reduceSub, Int.reduceMul, Int.reduceNeg, Int.reduceEq, Int.reduceLT, Int.reduceLE, Int.reduceNe, lcmp_z, lcmp_le, lcmp_ge, lcmp_lt, lcmp_gt]⟩
  · exact Or.inl ⟨by omega, by simp (disch := omega) only [be_X6_hasFixedRates_m, be_X6_hasFixedRates_0, be_X6_hasFixedRates_2, Option.bind_some, cond_true, cond_false, decide_true, decide_false, Bool.not_true, Bool.not_false, ite_true, ite_false, and_self, true_and, and_true, or_self, true_or, or_true, false_or, or_false, decide_eq_true_eq, Int.reduceAdd, Int.reduceSub, Int.reduceMul, Int.reduceNeg, Int.reduceEq, Int.reduceLT, Int.reduceLE, Int.reduceNe, lcmp_z, lcmp_le, lcmp_ge, lcmp_lt, lcmp_gt]⟩
  · exact Or.inl ⟨by omega, by simp (disch := omega) only [be_X6_hasFixedRates_m, be_X6_hasFixedRates_0, be_X6_hasFixedRates_2, Option.bind_some, cond_true, cond_false, decide_true, decide_false, Bool.not_true, Bool.not_false, ite_true, ite_false, and_self, true_and, and_true, or_self, true_or, or_true, false_or, or_false, decide_eq_true_eq, Int.reduceAdd, Int.reduceSub, Int.reduceMul, Int.reduceNeg, Int.reduceEq, Int.reduceLT, Int.reduceLE, Int.reduceNe, lcmp_z, lcmp_le, lcmp_ge, lcmp_lt, lcmp_gt]⟩
  · exact Or.inr ⟨by omega, by simp (disch := omega) only [be_X6_hasFixedRates_m, be_X6_hasFixedRates_0, be_X6_hasFixedRates_1, Option.bind_some, cond_true, cond_false, decide_true, decide_false, Bool.not_true, Bool.not_false, ite_true, ite_false, and_self, true_and, and_true, or_self, true_or, or_true, false_or, or_false, decide_eq_true_eq, Int.reduceAdd, Int.reduceSub, Int.reduceMul, Int.reduceNeg, Int.reduceEq, Int.reduceLT, Int.reduceLE, Int.reduceNe, lcmp_z, lcmp_le, lcmp_ge, lcmp_lt, lcmp_gt]⟩
  · exact Or.inr ⟨by omega, by simp (disch := omega) only [be_X6_hasFixedRates_m, be_X6_hasFixedRates_0, be_X6_hasFixedRates_1, Option.bind_some, cond_true, cond_false, decide_true, decide_false, Bool.not_true, Bool.not_false, ite_true, ite_false, and_self, true_and, and_true, or_self, true_or, or_true, false_or, or_false, decide_eq_true_eq, Int.reduceAdd, Int.reduceSub, Int.reduceMul, Int.reduceNeg, Int.reduceEq, Int.reduceLT, Int.reduceLE, Int.reduceNe, lcmp_z, lcmp_le, lcmp_ge, lcmp_lt, lcmp_gt]⟩
  · exact Or.inl ⟨by omega, by simp (disch := omega) only [be_X6_hasFixedRates_m, be_X6_hasFixedRates_0, be_X6_hasFixedRates_2, Option.bind_some, cond_true, cond_false, decide_true, decide_false, Bool.not_true, Bool.not_false, ite_true, ite_false, and_self, true_and, and_true, or_self, true_or, or_true, false_or, or_false, decide_eq_true_eq, Int.reduceAdd, Int.reduceSub, Int.reduceMul, Int.reduceNeg, Int.reduceEq, Int.reduceLT, Int.reduceLE, Int.reduceNe, lcmp_z, lcmp_le, lcmp_ge, lcmp_lt, lcmp_gt]⟩
  · exact Or.inr ⟨by omega, by simp (disch := omega) only [be_X6_hasFixedRates_m, be_X6_hasFixedRates_0, be_X6_hasFixedRates_1, Option.bind_some, cond_true, cond_false, decide_true, decide_false, Bool.not_true, Bool.not_false, ite_true, ite_false, and_self, true_and, and_true, or_self, true_or, or_true, false_or, or_false, decide_eq_true_eq, Int.reduceAdd, Int.reduceSub, Int.reduceMul, Int.reduceNeg, Int.reduceEq, Int.reduceLT, Int.reduceLE, Int.reduceNe, lcmp_z, lcmp_le, lcmp_ge, lcmp_lt, lcmp_gt]⟩
  · exact Or.inl ⟨by omega, by simp (disch := omega) only [be_X6_hasFixedRates_m, be_X6_hasFixedRates_0, be_X6_hasFixedRates_2, Option.bind_some, cond_true, cond_false, decide_true, decide_false, Bool.not_true, Bool.not_false, ite_true, ite_false, and_self, true_and, and_true, or_self, true_or, or_true, false_or, or_false, decide_eq_true_eq, Int.reduceAdd, Int.reduceSub, Int.reduceMul, Int.reduceNeg, Int.reduceEq, Int.reduceLT, Int.reduceLE, Int.reduceNe, lcmp_z, lcmp_le, lcmp_ge, lcmp_lt, lcmp_gt]⟩
  · exact Or.inl ⟨by omega, by simp (disch := omega) only [be_X6_hasFixedRates_m, be_X6_hasFixedRates_0, be_X6_hasFixedRates_2, Option.bind_some, cond_true, cond_false, decide_true, decide_false, Bool.not_true, Bool.not_false, ite_true, ite_false, and_self, true_and, and_true, or_self, true_or, or_true, false_or, or_false, decide_eq_true_eq, Int.reduceAdd, Int.reduceSub, Int.reduceMul, Int.reduceNeg, Int.reduceEq, Int.reduceLT, Int.reduceLE, Int.reduceNe, lcmp_z, lcmp_le, lcmp_ge, lcmp_lt, lcmp_gt]⟩
  · exact Or.inl ⟨by omega, by simp (disch := omega) only [be_X6_hasFixedRates_m, be_X6_hasFixedRates_0, be_X6_hasFixedRates_2, Option.bind_some, cond_true, cond_false, decide_true, decide_false, Bool.not_true, Bool.not_false, ite_true, ite_false, and_self, true_and, and_true, or_self, true_or, or_true, false_or, or_false, decide_eq_true_eq, Int.reduceAdd, Int.reduceSub, Int.reduceMul, Int.reduceNeg, Int.reduceEq, Int.reduceLT, Int.reduceLE, Int.reduceNe, lcmp_z, lcmp_le, lcmp_ge, lcmp_lt, lcmp_gt]⟩
  · exact Or.inr ⟨by omega, by simp (disch := omega) only [be_X6_hasFixedRates_m, be_X6_hasFixedRates_0, be_X6_hasFixedRates_1, Option.bind_some, cond_true, cond_false, decide_true, decide_false, Bool.not_true, Bool.not_false, ite_true, ite_false, and_self, true_and, and_true, or_self, true_or, or_true, false_or, or_false, decide_eq_true_eq, Int.reduceAdd, Int.reduceSub, Int.reduceMul, Int.reduceNeg, Int.reduceEq, Int.reduceLT, Int.reduceLE, Int.reduceNe, lcmp_z, lcmp_le, lcmp_ge, lcmp_lt, lcmp_gt]⟩
  · exact Or.inr ⟨by omega, by simp (disch := omega) only [be_X6_hasFixedRates_m, be_X6_hasFixedRates_0, be_X6_hasFixedRates_1, Option.bind_some, cond_true, cond_false, decide_true, decide_false, Bool.not_true, Bool.not_false, ite_true, ite_false, and_self, true_and, and_true, or_self, true_or, or_true, false_or, or_false, decide_eq_true_eq, Int.reduceAdd, Int.reduceSub, Int.reduceMul, Int.reduceNeg, Int.reduceEq, Int.reduceLT, Int.reduceLE, Int.reduceNe, lcmp_z, lcmp_le, lcmp_ge, lcmp_lt, lcmp_gt]⟩
  · exact Or.inr ⟨by omega, by simp (disch := omega) only [be_X6_hasFixedRates_m, be_X6_hasFixedRates_0, be_X6_hasFixedRates_1, Option.bind_some, cond_true, cond_false, decide_true, decide_false, Bool.not_true, Bool.not_false, ite_true, ite_false, and_self, true_and, and_true, or_self, true_or, or_true, false_or, or_false, decide_eq_true_eq, Int.reduceAdd, Int.reduceSub, Int.reduceMul, Int.reduceNeg, Int.reduceEq, Int.reduceLT, Int.reduceLE, Int.reduceNe, lcmp_z, lcmp_le, lcmp_ge, lcmp_lt, lcmp_gt]⟩
theorem fix_c {C R : am_M} (hh : hall C R) (hn : net C R) : ∀ (n : Nat) (i : Int), 0 ≤ i → i + n = R 17 0 → (am_ev am_PP nX6_isFixed 3 [16, i] [] C = some (1, C) ∧ ∀ j, i ≤ j → j < R 17 0 → fx (R 309 j)) ∨ (am_ev am_PP nX6_isFixed 3 [16, i] [] C = some (0, C) ∧ ∃ j, i ≤ j ∧ j < R 17 0 ∧ ¬ fx (R 309 j)) := by
  obtain ⟨g0, g1, g2, g3, g4, g5, g6, g7, g8, g9, g10, g11, g12, g13⟩ := id hh
  intro n
  induction n with
  | zero =>
    intro i i0 hi
    refine Or.inl ⟨?_, fun j a b => by omega⟩
    simp (disch := omega) only [be_X6_isFixed_3, be_X6_isFixed_7, Option.bind_some, cond_true, cond_false, decide_true, decide_false, Bool.not_true, Bool.not_false, ite_true, ite_false, and_self, true_and, and_true, or_self, true_or, or_true, false_or, or_false, decide_eq_true_eq, Int.reduceAdd, Int.reduceSub, Int.reduceMul, Int.reduceNeg, Int.reduceEq, Int.reduceLT, Int.reduceLE, Int.reduceNe, lcmp_z, lcmp_le, lcmp_ge, lcmp_lt, lcmp_gt, decide_eq_true, decide_eq_false, if_pos, if_neg, gf_16, g7]
  | succ n ih =>
    intro i i0 hi
    obtain ⟨x1, x2, x3⟩ := hn.1 i i0 (by omega)
    have hk := x2.2.1
    have k0 := x2.2.2.2.1
    have k1 := x2.2.2.2.2.1
    have e : am_ev am_PP nX6_isFixed 3 [16, i] [] C = am_ev am_PP nX6_isFixed 4 [16, i] [] C := by
      simp (disch := omega) only [be_X6_isFixed_3, Option.bind_some, cond_true, cond_false, decide_true, decide_false, Bool.not_true, Bool.not_false, ite_true, ite_false, and_self, true_and, and_true, or_self, true_or, or_true, false_or, or_false, decide_eq_true_eq, Int.reduceAdd, Int.reduceSub, Int.reduceMul, Int.reduceNeg, Int.reduceEq, Int.reduceLT, Int.reduceLE, Int.reduceNe, lcmp_z, lcmp_le, lcmp_ge, lcmp_lt, lcmp_gt, decide_eq_true, decide_eq_false, if_pos, if_neg, gf_16, g7]
    rcases cl_hasFixed C k0 k1 with ⟨f, hf⟩ | ⟨f, hf⟩
    · have e2 : am_ev am_PP nX6_isFixed 4 [16, i] [] C = am_ev am_PP nX6_isFixed 3 [16, i + 1] [] C := by
        simp (disch := omega) only [be_X6_isFixed_4, be_X6_isFixed_6, Option.bind_some, cond_true, cond_false, decide_true, decide_false, Bool.not_true, Bool.not_false, ite_true, ite_false, and_self, true_and, and_true, or_self, true_or, or_true, false_or, or_false, decide_eq_true_eq, Int.reduceAdd, Int.reduceSub, Int.reduceMul, Int.reduceNeg, Int.reduceEq, Int.reduceLT, Int.reduceLE, Int.reduceNe, lcmp_z, lcmp_le, lcmp_ge, lcmp_lt, lcmp_gt, gf_16, gf_15, ra_50, g0, x1, hk, hf, am_w32_ok]
      rw [e, e2]
      rcases ih (i + 1) (by omega) (by omega) with ⟨a, b⟩ | ⟨a, j, b1, b2, b3⟩
      · refine Or.inl ⟨a, fun j p q => ?_⟩
        by_cases z : j = i
        · rw [z]; exact f
        · exact b j (by omega) q
      · exact Or.inr ⟨a, j, by omega, b2, b3⟩
    · refine Or.inr ⟨?_, i, by omega, by omega, f⟩
      rw [e]
      simp (disch := omega) only [be_X6_isFixed_4, be_X6_isFixed_5, Option.bind_some, cond_true, cond_false, decide_true, decide_false, Bool.not_true, Bool.not_false, ite_true, ite_false, and_self, true_and, and_true, or_self, true_or, or_true, false_or, or_false, decide_eq_true_eq, Int.reduceAdd, Int.reduceSub, Int.reduceMul, Int.reduceNeg, Int.reduceEq, Int.reduceLT, Int.reduceLE, Int.reduceNe, lcmp_z, lcmp_le, lcmp_ge, lcmp_lt, lcmp_gt, gf_16, gf_15, ra_50, g0, x1, hk, hf]
theorem fix_r {R : am_M} (hR : rs R) (W1 : R 17 0 ≤ 40) : ∀ (n : Nat) (i s : Int), 0 ≤ i → i + n = R 17 0 → (s = 0 ∨ s = 1) → ∃ s', (s' = 0 ∨ s' = 1) ∧ am_ev am_PP nX7_isFixed 1 [17, s, i] [] R = some (s', R) ∧ (s' = 1 ↔ s = 1 ∧ ∀ j, i ≤ j → j < R 17 0 → fx (R 309 j)) := by
  obtain ⟨r1, r2, r3, r4, r5, r6, r7, r8, r9, r10, r12, r13, r14, r15, r16, r18, r19, r20, r21, r22, r23, r24, r25, r26, r27, r28, r30, r31, r32, r33, r34, r35, r36, r37, r38, r39, r40, r41, r44, r49, r50, r51, r52, r54⟩ := hR
  intro n
  induction n with
  | zero =>
    intro i s i0 hi hs
    refine ⟨s, hs, ?_, ⟨fun q => ⟨q, fun j a b => by omega⟩, fun q => q.1⟩⟩
    simp (disch := omega) only [be_X7_isFixed_1, be_X7_isFixed_10, Option.bind_some, cond_true, cond_false, decide_true, decide_false, Bool.not_true, Bool.not_false, ite_true, ite_false, and_self, true_and, and_true, or_self, true_or, or_true, false_or, or_false, decide_eq_true_eq, Int.reduceAdd, Int.reduceSub, Int.reduceMul, Int.reduceNeg, Int.reduceEq, Int.reduceLT, Int.reduceLE, Int.reduceNe, lcmp_z, lcmp_le, lcmp_ge, lcmp_lt, lcmp_gt, decide_eq_true, decide_eq_false, if_pos, if_neg, gf_17]
  | succ n ih =>
    intro i s i0 hi hs
    have e : am_ev am_PP nX7_isFixed 1 [17, s, i] [] R = am_ev am_PP nX7_isFixed 2 [17, s, i] [] R := by
      clear hs
      simp (disch := omega) only [be_X7_isFixed_1, Option.bind_some, cond_true, cond_false, decide_true, decide_false, Bool.not_true, Bool.not_false, ite_true, ite_false, and_self, true_and, and_true, or_self, true_or, or_true, false_or, or_false, decide_eq_true_eq, Int.reduceAdd, Int.reduceSub, Int.reduceMul, Int.reduceNeg, Int.reduceEq, Int.reduceLT, Int.reduceLE, Int.reduceNe, lcmp_z, lcmp_le, lcmp_ge, lcmp_lt, lcmp_gt, decide_eq_true, decide_eq_false, if_pos, if_neg, gf_17]
    by_cases c : s = 1 ∧ fx (R 309 i)
    · obtain ⟨c1, c2⟩ := c
      obtain ⟨s', a1, a2, a3⟩ := ih (i + 1) 1 (by omega) (by omega) (Or.inr rfl)
      refine ⟨s', a1, ?_, a3.trans ⟨fun q => ⟨c1, fun j p r => ?_⟩, fun q => ⟨rfl, fun j p r => q.2 j (by omega) r⟩⟩⟩
      · rw [e, ← a2, c1]
        obtain ⟨f4, f5, f7, f11⟩ := c2
        clear hs
        simp (disch := omega) only [be_X7_isFixed_2, be_X7_isFixed_3, be_X7_isFixed_4, be_X7_isFixed_5, be_X7_isFixed_6, be_X7_isFixed_7, be_X7_isFixed_9, Option.bind_some, cond_true, cond_false, decide_true, decide_false, Bool.not_true, Bool.not_false, ite_true, ite_false, and_self, true_and, and_true, or_self, true_or, or_true, false_or, or_false, decide_eq_true_eq, Int.reduceAdd, Int.reduceSub, Int.reduceMul, Int.reduceNeg, Int.reduceEq, Int.reduceLT, Int.reduceLE, Int.reduceNe, lcmp_z, lcmp_le, lcmp_ge, lcmp_lt, lcmp_gt, decide_eq_true, decide_eq_false, if_pos, if_neg, gf_17, r1, ra_309, am_w32_ok]
      · by_cases z : j = i
        · rw [z]; exact c2
        · exact q.2 j (by omega) r
    · obtain ⟨s', a1, a2, a3⟩ := ih (i + 1) 0 (by omega) (by omega) (Or.inl rfl)
      have z : s' ≠ 1 := fun q => absurd (a3.mp q).1 (by decide)
      refine ⟨s', a1, ?_, ⟨fun q => absurd q z, fun q => absurd ⟨q.1, q.2 i (by omega) (by omega)⟩ c⟩⟩
      rw [e, ← a2]
      rcases hs with hs | hs
      · rw [hs]
        simp (disch := omega) only [be_X7_isFixed_2, be_X7_isFixed_8, be_X7_isFixed_9, Option.bind_some, cond_true, cond_false, decide_true, decide_false, Bool.not_true, Bool.not_false, ite_true, ite_false, and_self, true_and, and_true, or_self, true_or, or_true, false_or, or_false, decide_eq_true_eq, Int.reduceAdd, Int.reduceSub, Int.reduceMul, Int.reduceNeg, Int.reduceEq, Int.reduceLT, Int.reduceLE, Int.reduceNe, lcmp_z, lcmp_le, lcmp_ge, lcmp_lt, lcmp_gt, gf_17, r1, ra_309, am_w32_ok]
      · rw [hs]
        have nf : ¬ fx (R 309 i) := fun q => c ⟨hs, q⟩
        unfold fx at nf
        have e2 : am_ev am_PP nX7_isFixed 2 [17, 1, i] [] R = am_ev am_PP nX7_isFixed 3 [17, i, R 309 i] [] R := by
          simp (disch := omega) only [be_X7_isFixed_2, Option.bind_some, cond_true, cond_false, decide_true, decide_false, Bool.not_true, Bool.not_false, ite_true, ite_false, and_self, true_and, and_true, or_self, true_or, or_true, false_or, or_false, decide_eq_true_eq, Int.reduceAdd, Int.reduceSub, Int.reduceMul, Int.reduceNeg, Int.reduceEq, Int.reduceLT, Int.reduceLE, Int.reduceNe, lcmp_z, lcmp_le, lcmp_ge, lcmp_lt, lcmp_gt, gf_17, r1, ra_309]
        rw [e2]
        by_cases c4 : R 309 i = 4
        · simp (disch := omega) only [be_X7_isFixed_3, be_X7_isFixed_8, be_X7_isFixed_9, Option.bind_some, cond_true, cond_false, decide_true, decide_false, Bool.not_true, Bool.not_false, ite_true, ite_false, and_self, true_and, and_true, or_self, true_or, or_true, false_or, or_false, decide_eq_true_eq, Int.reduceAdd, Int.reduceSub, Int.reduceMul, Int.reduceNeg, Int.reduceEq, Int.reduceLT, Int.reduceLE, Int.reduceNe, lcmp_z, lcmp_le, lcmp_ge, lcmp_lt, lcmp_gt, c4, am_w32_ok]
        by_cases c5 : R 309 i = 5
        · simp (disch := omega) only [be_X7_isFixed_3, be_X7_isFixed_4, be_X7_isFixed_8, be_X7_isFixed_9, Option.bind_some, cond_true, cond_false, decide_true, decide_false, Bool.not_true, Bool.not_false, ite_true, ite_false, and_self, true_and, and_true, or_self, true_or, or_true, false_or, or_false, decide_eq_true_eq, Int.reduceAdd, Int.reduceSub, Int.reduceMul, Int.reduceNeg, Int.reduceEq, Int.reduceLT, Int.reduceLE, Int.reduceNe, lcmp_z, lcmp_le, lcmp_ge, lcmp_lt, lcmp_gt, c5, am_w32_ok]
        by_cases c7 : R 309 i = 7
        · simp (disch := omega) only [be_X7_isFixed_3, be_X7_isFixed_4, be_X7_isFixed_5, be_X7_isFixed_8, be_X7_isFixed_9, Option.bind_some, cond_true, cond_false, decide_true, decide_false, Bool.not_true, Bool.not_false, ite_true, ite_false, and_self, true_and, and_true, or_self, true_or, or_true, false_or, or_false, decide_eq_true_eq, Int.reduceAdd, Int.reduceSub, Int.reduceMul, Int.reduceNeg, Int.reduceEq, Int.reduceLT, Int.reduceLE, Int.reduceNe, lcmp_z, lcmp_le, lcmp_ge, lcmp_lt, lcmp_gt, c7, am_w32_ok]
        · have c11 : 11 ≤ R 309 i := by omega
          simp (disch := omega) only [be_X7_isFixed_3, be_X7_isFixed_4, be_X7_isFixed_5, be_X7_isFixed_6, be_X7_isFixed_8, be_X7_isFixed_9, Option.bind_some, cond_true, cond_false, decide_true, decide_false, Bool.not_true, Bool.not_false, ite_true, ite_false, and_self, true_and, and_true, or_self, true_or, or_true, false_or, or_false, decide_eq_true_eq, Int.reduceAdd, Int.reduceSub, Int.reduceMul, Int.reduceNeg, Int.reduceEq, Int.reduceLT, Int.reduceLE, Int.reduceNe, lcmp_z, lcmp_le, lcmp_ge, lcmp_lt, lcmp_gt, decide_eq_false c4, decide_eq_false c5, decide_eq_false c7, decide_eq_true c11, am_w32_ok]
theorem fixed_both {C R : am_M} (H : INV C R) : ∃ c, (c = 0 ∨ c = 1) ∧ am_evm am_PP nX6_isFixed [(2, 16)] C = some (c, C) ∧ am_evm am_PP nX7_isFixed [(2, 17)] R = some (c, R) := by
  obtain ⟨hR, hh, hn, ho⟩ := INV_hall H
  obtain ⟨g0, g1, g2, g3, g4, g5, g6, g7, g8, g9, g10, g11, g12, g13⟩ := id hh
  have h6 := H.1
  have hw := rf_isWhole hR g9 g10
  by_cases c : opc R = 0
  · rw [if_pos c] at hw
    rw [c] at h6
    obtain ⟨s', a1, a2, a3⟩ := fix_r hR g10 (R 17 0).toNat 0 1 (by omega) (by omega) (Or.inr rfl)
    have eR : am_evm am_PP nX7_isFixed [(2, 17)] R = some (s', R) := by
      rw [← a2]
      simp (disch := omega) only [be_X7_isFixed_m, be_X7_isFixed_0, Option.bind_some, cond_true, cond_false, decide_true, decide_false, Bool.not_true, Bool.not_false, ite_true, ite_false, and_self, true_and, and_true, or_self, true_or, or_true, false_or, or_false, decide_eq_true_eq, Int.reduceAdd, Int.reduceSub, Int.reduceMul, Int.reduceNeg, Int.reduceEq, Int.reduceLT, Int.reduceLE, Int.reduceNe, lcmp_z, lcmp_le, lcmp_ge, lcmp_lt, lcmp_gt, cls_17, hw]
    have eC : am_evm am_PP nX6_isFixed [(2, 16)] C = am_ev am_PP nX6_isFixed 3 [16, 0] [] C := by
      simp (disch := omega) only [be_X6_isFixed_m, be_X6_isFixed_0, be_X6_isFixed_2, Option.bind_some, cond_true, cond_false, decide_true, decide_false, Bool.not_true, Bool.not_false, ite_true, ite_false, and_self, true_and, and_true, or_self, true_or, or_true, false_or, or_false, decide_eq_true_eq, Int.reduceAdd, Int.reduceSub, Int.reduceMul, Int.reduceNeg, Int.reduceEq, Int.reduceLT, Int.reduceLE, Int.reduceNe, lcmp_z, lcmp_le, lcmp_ge, lcmp_lt, lcmp_gt, gf_16, h6]
    rcases fix_c hh hn (R 17 0).toNat 0 (by omega) (by omega) with ⟨b1, b2⟩ | ⟨b1, j, b2, b3, b4⟩
    · have e : s' = 1 := a3.mpr ⟨rfl, b2⟩
      subst e
      exact ⟨1, Or.inr rfl, by rw [eC, b1], eR⟩
    · have e : s' = 0 := by
        rcases a1 with q | q
        · exact q
        · exact absurd ((a3.mp q).2 j b2 b3) b4
      subst e
      exact ⟨0, Or.inl rfl, by rw [eC, b1], eR⟩
  · rw [if_neg c] at hw
    obtain ⟨s', a1, a2, a3⟩ := fix_r hR g10 (R 17 0).toNat 0 0 (by omega) (by omega) (Or.inl rfl)
    have e : s' = 0 := by
      rcases a1 with q | q
      · exact q
      · exact absurd (a3.mp q).1 (by decide)
    subst e
    refine ⟨0, Or.inl rfl, ?_, ?_⟩
    · simp (disch := omega) only [be_X6_isFixed_m, be_X6_isFixed_0, be_X6_isFixed_1, Option.bind_some, cond_true, cond_false, decide_true, decide_false, Bool.not_true, Bool.not_false, ite_true, ite_false, and_self, true_and, and_true, or_self, true_or, or_true, false_or, or_false, decide_eq_true_eq, Int.reduceAdd, Int.reduceSub, Int.reduceMul, Int.reduceNeg, Int.reduceEq, Int.reduceLT, Int.reduceLE, Int.reduceNe, lcmp_z, lcmp_le, lcmp_ge, lcmp_lt, lcmp_gt, gf_16, h6, decide_eq_false c]
    · rw [← a2]
      simp (disch := omega) only [be_X7_isFixed_m, be_X7_isFixed_0, Option.bind_some, cond_true, cond_false, decide_true, decide_false, Bool.not_true, Bool.not_false, ite_true, ite_false, and_self, true_and, and_true, or_self, true_or, or_true, false_or, or_false, decide_eq_true_eq, Int.reduceAdd, Int.reduceSub, Int.reduceMul, Int.reduceNeg, Int.reduceEq, Int.reduceLT, Int.reduceLE, Int.reduceNe, lcmp_z, lcmp_le, lcmp_ge, lcmp_lt, lcmp_gt, cls_17, hw]
theorem psn_congr {R R1 : am_M} (h1 : ∀ i, R1 61 i = R 61 i) (h2 : ∀ i, R1 317 i = R 317 i) {B : Nat} : ∀ (n : Nat) (P : Int → Int), psn R1 B n P = psn R B n P := by
  have hb : ∀ (n : Nat) (b : Int) (P : Int → Int), psb R1 n b P = psb R n b P := by
    intro n
    induction n with
    | zero => intro b P; rfl
    | succ n ih =>
      intro b P
      show psb R1 n (b + 1) (ps1 P (R1 61 b) (R1 317 b)) = psb R n (b + 1) (ps1 P (R 61 b) (R 317 b))
      rw [h1, h2, ih]
  intro n
  induction n with
  | zero => intro P; rfl
  | succ n ih =>
    intro P
    show psn R1 B n (psb R1 B 0 P) = psn R B n (psb R B 0 P)
    rw [hb, ih]
/-- class and reference judge the net alike -/
theorem solve_both {C R : am_M} (H : INV C R) (W0 : 0 < R 17 0) : ∃ c C' R', (c = 0 ∨ c = 1) ∧ am_evm am_PP nX2_solve [(2, 12), (0, R 17 0), (2, 51), (0, R 17 11)] C = some (c, C') ∧ (∀ w, am_ev am_PP nX7_balance 4 [17, w] [] R = if c = 0 then am_ev am_PP nX7_balance 7 [] [] R' else am_ev am_PP nX7_balance 6 [17, w] [] R') ∧ (∀ L i, ¬ (L = 53 ∨ L = 54 ∨ L = 310 ∨ (L = 12 ∧ i = 3)) → C' L i = C L i) ∧ (∀ L i, ¬ (L = 3381 ∨ L = 1078 ∨ L = 1334 ∨ L = 1590 ∨ (L = 17 ∧ i = 53)) → R' L i = R L i) ∧ (c = 1 → ∀ j, 0 ≤ j → j < R 17 0 → C' 54 j = R' 1590 j) := by
  obtain ⟨hR, hh, hn, ho⟩ := INV_hall H
  obtain ⟨g0, g1, g2, g3, g4, g5, g6, g7, g8, g9, g10, g11, g12, g13⟩ := id hh
  have hb := INV_bnd H
  obtain ⟨R1, k1, k2, k3, k4⟩ := rf_findParts hR g9 g10 g11 g12 hb
  have hBB : (((R 17 11).toNat : Nat) : Int) = R 17 11 := by omega
  obtain ⟨C1, m1, m2, m3⟩ := cl_findParts (C := C) (R := R) (W := R 17 0) (B := (R 17 11).toNat) g9 g10 (by omega) (by rw [hBB]; exact hb) g4
  rw [hBB] at m1
  -- the reference after its parts serves for both
  have q : ∀ L i, L ≠ 3381 → ¬ (L = 17 ∧ i = 53) → R1 L i = R L i := k3
  have eW : R1 17 0 = R 17 0 := q _ _ (by omega) (by omega)
  have eB : R1 17 11 = R 17 11 := q _ _ (by omega) (by omega)
  have hps : psn R1 (R 17 11).toNat (R 17 0).toNat idp = psn R (R 17 11).toNat (R 17 0).toNat idp := psn_congr (fun i => q _ _ (by omega) (by omega)) (fun i => q _ _ (by omega) (by omega)) _ _
  rw [← hps] at k4 m3
  have uC : ∀ L i, L ≠ 53 → ¬ (L = 12 ∧ i = 3) → am_up C1 12 3 0 L i = C L i := fun L i p r => (am_up_or _ _ _ _ _ _ (by omega)).trans (m2 L i p)
  have hb1 : bnd (am_up C1 12 3 0) R1 (R 17 0) ((R 17 11).toNat : Int) := by
    intro d d0 d1
    rw [q 61 d (by omega) (by omega), q 317 d (by omega) (by omega)]
    obtain ⟨z1, z2, z3, z4, z5, z6, z7, z8, z9⟩ := hb d d0 (by omega)
    exact ⟨(uC _ _ (by omega) (by omega)).trans z1, (uC _ _ (by omega) (by omega)).trans z2, (uC _ _ (by omega) (by omega)).trans z3, (uC _ _ (by omega) (by omega)).trans z4, (uC _ _ (by omega) (by omega)).trans z5, z6, z7, z8, z9⟩
  have hw1 : bw R1 (R 17 0) ((R 17 11).toNat : Int) := by
    intro d d0 d1
    obtain ⟨_, _, _, _, _, z6, z7, z8, z9⟩ := hb1 d d0 d1
    refine ⟨z6, z7, z8, z9, ?_⟩
    have hs := (hn.1 _ z6 z7).2.1
    unfold wrt
    rw [q 309 _ (by omega) (by omega), q 565 _ (by omega) (by omega)]
    by_cases c : R 309 (R1 61 d) = 2
    · rw [if_pos c]
      exact hs.2.2.2.2.2.1 c
    · rw [if_neg c]; omega
  have hi : hin (am_up C1 12 3 0) R1 (R 17 0) := by
    refine ⟨(uC _ _ (by omega) (by omega)).trans g4, (uC _ _ (by omega) (by omega)).trans g5, (uC _ _ (by omega) (by omega)).trans g6, fun f f0 f1 => ?_⟩
    have hs := (hn.1 f f0 f1).2.1
    rw [uC _ _ (by omega) (by omega), uC _ _ (by omega) (by omega), q 309 _ (by omega) (by omega), q 565 _ (by omega) (by omega)]
    exact ⟨hs.2.1, hs.2.2.1⟩
  obtain ⟨P, hP⟩ : ∃ P, P = psn R1 (R 17 11).toNat (R 17 0).toNat idp := ⟨_, rfl⟩
  have hPb := psn_b hb1 (R 17 0).toNat idp (fun i a => ⟨a, Int.le_refl _⟩)
  have hPi := psn_idem hb1 W0
  have hag := rates_agree hb1 hw1 W0
  rw [← hP] at hPb hPi hag k4 m3
  obtain ⟨C2, s1, s2, s3, s4⟩ := cl_si (B := R 17 11) (P := P) hi g10 (fun i i0 i1 => (am_up_nl _ _ _ _ _ _ (by omega)).trans (m3 i i0 i1)) (R 17 0).toNat 0 (am_up C1 12 3 0) (by omega) (by omega) (sm_refl _) (fun j a b => by omega) (am_up_eq _ _ _ _)
  obtain ⟨C3, t1, t2, t3⟩ := cl_sn hi hb1 hw1 g10 (by omega) (R 17 0).toNat 0 1 C2 (s0 P) (by omega) (by omega) (Or.inr rfl) s2 s3 (low_s0 P _) s4
  rw [hBB] at t1
  have eS : am_evm am_PP nX2_solve [(2, 12), (0, R 17 0), (2, 51), (0, R 17 11)] C = am_ev am_PP nX2_solve 19 [12, R 17 0, 51, R 17 11] [] C3 := by
    rw [← t1, ← s1]
    clear t3
    simp (disch := omega) only [be_X2_solve_m, be_X2_solve_0, Option.bind_some, cond_true, cond_false, decide_true, decide_false, Bool.not_true, Bool.not_false, ite_true, ite_false, and_self, true_and, and_true, or_self, true_or, or_true, false_or, or_false, decide_eq_true_eq, Int.reduceAdd, Int.reduceSub, Int.reduceMul, Int.reduceNeg, Int.reduceEq, Int.reduceLT, Int.reduceLE, Int.reduceNe, lcmp_z, lcmp_le, lcmp_ge, lcmp_lt, lcmp_gt, cls_12, m1, pb0_12]
  have hri : rin R1 := by
    have h := rin_of hR
    unfold rin at h ⊢
    rw [q 17 1 (by omega) (by omega), q 17 2 (by omega) (by omega), q 17 12 (by omega) (by omega), q 17 13 (by omega) (by omega), q 17 50 (by omega) (by omega), q 17 51 (by omega) (by omega), q 17 52 (by omega) (by omega), q 17 54 (by omega) (by omega)]
    exact h
  obtain ⟨c, R2, u1, u2, u3⟩ := rf_findRates (P := P) hri (by rw [eW, eB, ← hBB]; exact hw1) (by omega) (by omega) (by omega) (by omega) (fun i i0 i1 => k4 i i0 (by omega))
  rw [eW, eB] at u3
  have fC3 : ∀ L i, ¬ (L = 53 ∨ L = 54 ∨ L = 310 ∨ (L = 12 ∧ i = 3)) → C3 L i = C L i := fun L i z => (t2 L i (by omega)).trans (uC L i (by omega) (by omega))
  have fR2 : ∀ L i, ¬ (L = 3381 ∨ L = 1078 ∨ L = 1334 ∨ L = 1590 ∨ (L = 17 ∧ i = 53)) → R2 L i = R L i := fun L i z => (u2 L i (by omega)).trans (q L i (by omega) (by omega))
  rcases hag with ⟨s', v1, v2, v3, v4, v5⟩ | ⟨v1, v2⟩
  · rw [v1] at u3
    rw [v2] at t3
    rcases u3 with ⟨u3, _⟩ | ⟨s'', u3, u4, u5⟩
    · cases u3
    cases u3
    rcases t3 with ⟨t3, _⟩ | ⟨s'', t3, t4, t5⟩
    · cases t3
    cases t3
    subst u4
    have hi3 : hin C3 R1 (R 17 0) := by
      obtain ⟨z0, z1, z2, z3⟩ := hi
      refine ⟨(t2 _ _ (by omega)).trans z0, (t2 _ _ (by omega)).trans z1, (t2 _ _ (by omega)).trans z2, fun f f0 f1 => ?_⟩
      rw [t2 (15 + 256 * f) 6 (by omega), t2 (15 + 256 * f) 7 (by omega)]
      exact z3 f f0 f1
    have hb3 : bnd C3 R1 (R 17 0) ((R 17 11).toNat : Int) := by
      intro d d0 d1
      obtain ⟨z1, z2, z3, z4, z5, z6⟩ := hb1 d d0 d1
      obtain ⟨y6, _, y8, _⟩ := id z6
      exact ⟨(t2 _ _ (by omega)).trans z1, (t2 _ _ (by omega)).trans z2, (t2 _ _ (by omega)).trans z3, (t2 _ _ (by omega)).trans z4, (t2 _ _ (by omega)).trans z5, z6⟩
    obtain ⟨ca, a1, a2⟩ := cl_ag hi3 hb3 hw1 g10 (by omega) t5 v3 (R 17 11).toNat 0 (by omega) (by omega)
    have ca1 : ca = 1 := by
      rcases a2 with a2 | ⟨_, d, p1, p2, p3⟩
      · exact a2.1
      · exact absurd (v5 d p1 p2) p3
    subst ca1
    rw [hBB] at a1
    have hpu3 : hpu C3 (R 17 0) P s'.2 := by
      obtain ⟨z0, z1, z2, -⟩ := hi3
      refine ⟨z0, z1, z2, fun j j0 j1 => ⟨?_, (t5 j j0 j1).2⟩⟩
      rw [t2 53 j (by omega), am_up_nl _ _ _ _ _ _ (by omega)]
      exact m3 j j0 j1
    have hW2 : R2 17 0 = R 17 0 := fR2 _ _ (by omega)
    have hrpu : rpu R2 P s'.1 s'.2 := by
      obtain ⟨_, _, _, _, z50, z51, z52, z54⟩ := hri
      refine ⟨(u2 _ _ (by omega)).trans z52, (u2 _ _ (by omega)).trans z50, (u2 _ _ (by omega)).trans z51, (u2 _ _ (by omega)).trans z54, fun j j0 j1 => ?_⟩
      rw [hW2] at j1
      obtain ⟨y1, y2⟩ := u5 j j0 (by omega)
      refine ⟨?_, y1, y2⟩
      rw [u2 3381 j (by omega)]
      exact k4 j j0 j1
    obtain ⟨cw, C4, R3, w1, w2, w3, w4, w5, w6⟩ := two_w (P := P) (U := s'.1) (D := s'.2) (W := R 17 0) g10 hPb hPi (fun j j0 j1 => by
      obtain ⟨z1, z2, z3, z4, _⟩ := v3 j j0 j1
      exact ⟨z3, z4, z1, z2⟩) (R 17 0).toNat 0 C3 R2 (by omega) (by omega) hW2 hpu3 hrpu (fun j j0 j1 => by
      have := hPb j j0
      exact ⟨fun z => by omega, fun _ => (t5 j j0 j1).1⟩)
    refine ⟨cw, C4, R3, w3, ?_, fun w => ?_, fun L i z => (w4 L i (by omega)).trans (fC3 L i z), fun L i z => (w5 L i (by omega)).trans (fR2 L i z), w6⟩
    · rw [eS]
      have ea : am_evm am_PP nX2_agreesWithAll [(2, 12), (2, 51), (0, R 17 11)] C3 = some (1, C3) := by
        rw [← a1]
        simp (disch := omega) only [be_X2_agreesWithAll_m, be_X2_agreesWithAll_0]
      have em : am_evm am_PP nX2_makeWhole [(2, 12), (0, R 17 0)] C3 = some (cw, C4) := by
        rw [← w1]
        simp (disch := omega) only [be_X2_makeWhole_m, be_X2_makeWhole_0]
      clear a2
      rcases w3 with z | z <;> subst z
      · simp (disch := omega) only [be_X2_solve_19, be_X2_solve_20, be_X2_solve_21, be_X2_solve_23, be_X2_solve_24, Option.bind_some, cond_true, cond_false, decide_true, decide_false, Bool.not_true, Bool.not_false, ite_true, ite_false, and_self, true_and, and_true, or_self, true_or, or_true, false_or, or_false, decide_eq_true_eq, Int.reduceAdd, Int.reduceSub, Int.reduceMul, Int.reduceNeg, Int.reduceEq, Int.reduceLT, Int.reduceLE, Int.reduceNe, lcmp_z, lcmp_le, lcmp_ge, lcmp_lt, lcmp_gt, gf_12, cls_12, t4, ea, em]
      · simp (disch := omega) only [be_X2_solve_19, be_X2_solve_20, be_X2_solve_21, be_X2_solve_22, be_X2_solve_24, Option.bind_some, cond_true, cond_false, decide_true, decide_false, Bool.not_true, Bool.not_false, ite_true, ite_false, and_self, true_and, and_true, or_self, true_or, or_true, false_or, or_false, decide_eq_true_eq, Int.reduceAdd, Int.reduceSub, Int.reduceMul, Int.reduceNeg, Int.reduceEq, Int.reduceLT, Int.reduceLE, Int.reduceNe, lcmp_z, lcmp_le, lcmp_ge, lcmp_lt, lcmp_gt, gf_12, cls_12, t4, ea, em]
    · have ef : am_evm am_PP nX7_findFirings [(2, 17)] R2 = some (cw, R3) := by
        rw [← w2]
        simp (disch := omega) only [be_X7_findFirings_m, be_X7_findFirings_0]
      clear a2
      rcases w3 with z | z <;> subst z
      · rw [if_pos rfl]
        simp (disch := omega) only [be_X7_balance_4, be_X7_balance_5, Option.bind_some, cond_true, cond_false, decide_true, decide_false, Bool.not_true, Bool.not_false, ite_true, ite_false, and_self, true_and, and_true, or_self, true_or, or_true, false_or, or_false, decide_eq_true_eq, Int.reduceAdd, Int.reduceSub, Int.reduceMul, Int.reduceNeg, Int.reduceEq, Int.reduceLT, Int.reduceLE, Int.reduceNe, lcmp_z, lcmp_le, lcmp_ge, lcmp_lt, lcmp_gt, cls_17, k1, u1, ef]
      · rw [if_neg (by decide)]
        simp (disch := omega) only [be_X7_balance_4, be_X7_balance_5, Option.bind_some, cond_true, cond_false, decide_true, decide_false, Bool.not_true, Bool.not_false, ite_true, ite_false, and_self, true_and, and_true, or_self, true_or, or_true, false_or, or_false, decide_eq_true_eq, Int.reduceAdd, Int.reduceSub, Int.reduceMul, Int.reduceNeg, Int.reduceEq, Int.reduceLT, Int.reduceLE, Int.reduceNe, lcmp_z, lcmp_le, lcmp_ge, lcmp_lt, lcmp_gt, cls_17, k1, u1, ef]
  · rw [v1] at u3
    rcases u3 with ⟨_, u4⟩ | ⟨s'', u3, _⟩
    case inr => cases u3
    subst u4
    have eR : ∀ w, am_ev am_PP nX7_balance 4 [17, w] [] R = if (0 : Int) = 0 then am_ev am_PP nX7_balance 7 [] [] R2 else am_ev am_PP nX7_balance 6 [17, w] [] R2 := fun w => by
      rw [if_pos rfl]
      simp (disch := omega) only [be_X7_balance_4, Option.bind_some, cond_true, cond_false, decide_true, decide_false, Bool.not_true, Bool.not_false, ite_true, ite_false, and_self, true_and, and_true, or_self, true_or, or_true, false_or, or_false, decide_eq_true_eq, Int.reduceAdd, Int.reduceSub, Int.reduceMul, Int.reduceNeg, Int.reduceEq, Int.reduceLT, Int.reduceLE, Int.reduceNe, lcmp_z, lcmp_le, lcmp_ge, lcmp_lt, lcmp_gt, cls_17, k1, u1]
    refine ⟨0, C3, R2, Or.inl rfl, ?_, eR, fC3, fR2, fun z => by omega⟩
    rw [eS]
    rcases v2 with v2 | ⟨s', v2, v3, v4, d, p1, p2, p3⟩
    · rw [v2] at t3
      rcases t3 with ⟨_, t4⟩ | ⟨s'', t3, _⟩
      · simp (disch := omega) only [be_X2_solve_19, be_X2_solve_23, be_X2_solve_24, Option.bind_some, cond_true, cond_false, decide_true, decide_false, Bool.not_true, Bool.not_false, ite_true, ite_false, and_self, true_and, and_true, or_self, true_or, or_true, false_or, or_false, decide_eq_true_eq, Int.reduceAdd, Int.reduceSub, Int.reduceMul, Int.reduceNeg, Int.reduceEq, Int.reduceLT, Int.reduceLE, Int.reduceNe, lcmp_z, lcmp_le, lcmp_ge, lcmp_lt, lcmp_gt, gf_12, t4]
      · cases t3
    · rw [v2] at t3
      rcases t3 with ⟨t3, _⟩ | ⟨s'', t3, t4, t5⟩
      · cases t3
      cases t3
      have hi3 : hin C3 R1 (R 17 0) := by
        obtain ⟨z0, z1, z2, z3⟩ := hi
        refine ⟨(t2 _ _ (by omega)).trans z0, (t2 _ _ (by omega)).trans z1, (t2 _ _ (by omega)).trans z2, fun f f0 f1 => ?_⟩
        rw [t2 (15 + 256 * f) 6 (by omega), t2 (15 + 256 * f) 7 (by omega)]
        exact z3 f f0 f1
      have hb3 : bnd C3 R1 (R 17 0) ((R 17 11).toNat : Int) := by
        intro d d0 d1
        obtain ⟨z1, z2, z3, z4, z5, z6⟩ := hb1 d d0 d1
        obtain ⟨y6, _, y8, _⟩ := id z6
        exact ⟨(t2 _ _ (by omega)).trans z1, (t2 _ _ (by omega)).trans z2, (t2 _ _ (by omega)).trans z3, (t2 _ _ (by omega)).trans z4, (t2 _ _ (by omega)).trans z5, z6⟩
      obtain ⟨ca, a1, a2⟩ := cl_ag hi3 hb3 hw1 g10 (by omega) t5 v3 (R 17 11).toNat 0 (by omega) (by omega)
      have ca0 : ca = 0 := by
        rcases a2 with ⟨_, a2⟩ | a2
        · exact absurd (a2 d p1 p2) p3
        · exact a2.1
      subst ca0
      rw [hBB] at a1
      have ea : am_evm am_PP nX2_agreesWithAll [(2, 12), (2, 51), (0, R 17 11)] C3 = some (0, C3) := by
        rw [← a1]
        simp (disch := omega) only [be_X2_agreesWithAll_m, be_X2_agreesWithAll_0]
      clear a2
      simp (disch := omega) only [be_X2_solve_19, be_X2_solve_20, be_X2_solve_23, be_X2_solve_24, Option.bind_some, cond_true, cond_false, decide_true, decide_false, Bool.not_true, Bool.not_false, ite_true, ite_false, and_self, true_and, and_true, or_self, true_or, or_true, false_or, or_false, decide_eq_true_eq, Int.reduceAdd, Int.reduceSub, Int.reduceMul, Int.reduceNeg, Int.reduceEq, Int.reduceLT, Int.reduceLE, Int.reduceNe, lcmp_z, lcmp_le, lcmp_ge, lcmp_lt, lcmp_gt, gf_12, cls_12, t4, ea]
theorem api_balance (w : Int) : API nX6_balance nX7_balance [(0, w)] := by
  intro C R H
  obtain ⟨hR, hh, hn, ho⟩ := INV_hall H
  obtain ⟨g0, g1, g2, g3, g4, g5, g6, g7, g8, g9, g10, g11, g12, g13⟩ := id hh
  have hat := at_w hh hn w
  have hiw := rf_isWeaver w g9 g10
  by_cases cw : 0 ≤ w ∧ w < R 17 0
  · obtain ⟨w0, w1⟩ := cw
    rw [if_pos ⟨w0, w1⟩] at hat hiw
    obtain ⟨c, c01, f1, f2⟩ := fixed_both H
    rcases c01 with z | z <;> subst z
    · refine ⟨-2, C, R, ?_, ?_, H, cf2_refl C, rfr_refl R⟩
      · show am_evm am_PP nX6_balance [(2, 16), (0, w)] C = _
        simp (disch := omega) only [be_X6_balance_m, be_X6_balance_0, be_X6_balance_2, be_X6_balance_3, Option.bind_some, cond_true, cond_false, decide_true, decide_false, Bool.not_true, Bool.not_false, ite_true, ite_false, and_self, true_and, and_true, or_self, true_or, or_true, false_or, or_false, decide_eq_true_eq, Int.reduceAdd, Int.reduceSub, Int.reduceMul, Int.reduceNeg, Int.reduceEq, Int.reduceLT, Int.reduceLE, Int.reduceNe, lcmp_z, lcmp_le, lcmp_ge, lcmp_lt, lcmp_gt, decide_eq_true, decide_eq_false, if_pos, if_neg, cls_16, hat, f1]
      · show am_evm am_PP nX7_balance [(2, 17), (0, w)] R = _
        simp (disch := omega) only [be_X7_balance_m, be_X7_balance_0, be_X7_balance_2, be_X7_balance_3, Option.bind_some, cond_true, cond_false, decide_true, decide_false, Bool.not_true, Bool.not_false, ite_true, ite_false, and_self, true_and, and_true, or_self, true_or, or_true, false_or, or_false, decide_eq_true_eq, Int.reduceAdd, Int.reduceSub, Int.reduceMul, Int.reduceNeg, Int.reduceEq, Int.reduceLT, Int.reduceLE, Int.reduceNe, lcmp_z, lcmp_le, lcmp_ge, lcmp_lt, lcmp_gt, cls_17, hiw, f2]
    · obtain ⟨c, C', R', c01, s1, s2, s3, s4, s5⟩ := solve_both H (by omega)
      have hI : INV C' R' := INV_cong (fun L i q => s3 L i (by unfold FC at q; omega)) (fun L i q => s4 L i (by unfold FRr at q; omega)) H
      have hcf : cf2 C C' := fun L i q => s3 L i (by unfold FR at q; omega)
      have hrf : rfr R R' := fun L i q => s4 L i (by unfold FR at q; omega)
      have s2 := s2 w
      have eC : am_evm am_PP nX6_balance [(2, 16), (0, w)] C = bif !(decide (c = 0)) then am_ev am_PP nX6_balance 6 [16, w] [] C' else am_ev am_PP nX6_balance 5 [] [] C' := by
        clear c01 s2 s5
        simp (disch := omega) only [be_X6_balance_m, be_X6_balance_0, be_X6_balance_2, be_X6_balance_4, Option.bind_some, cond_true, cond_false, decide_true, decide_false, Bool.not_true, Bool.not_false, ite_true, ite_false, and_self, true_and, and_true, or_self, true_or, or_true, false_or, or_false, decide_eq_true_eq, Int.reduceAdd, Int.reduceSub, Int.reduceMul, Int.reduceNeg, Int.reduceEq, Int.reduceLT, Int.reduceLE, Int.reduceNe, lcmp_z, lcmp_le, lcmp_ge, lcmp_lt, lcmp_gt, decide_eq_true, decide_eq_false, if_pos, if_neg, gf_16, cls_16, cls_12, hat, f1, g1, g3, g7, g8, s1]
      have eR : am_evm am_PP nX7_balance [(2, 17), (0, w)] R = am_ev am_PP nX7_balance 4 [17, w] [] R := by
        clear c01 s2 s5
        simp (disch := omega) only [be_X7_balance_m, be_X7_balance_0, be_X7_balance_2, Option.bind_some, cond_true, cond_false, decide_true, decide_false, Bool.not_true, Bool.not_false, ite_true, ite_false, and_self, true_and, and_true, or_self, true_or, or_true, false_or, or_false, decide_eq_true_eq, Int.reduceAdd, Int.reduceSub, Int.reduceMul, Int.reduceNeg, Int.reduceEq, Int.reduceLT, Int.reduceLE, Int.reduceNe, lcmp_z, lcmp_le, lcmp_ge, lcmp_lt, lcmp_gt, cls_17, hiw, f2]
      rcases c01 with z | z <;> subst z
      · rw [if_pos rfl] at s2
        refine ⟨-5, C', R', eC.trans ?_, (eR.trans s2).trans ?_, hI, hcf, hrf⟩
        · simp (disch := omega) only [be_X6_balance_5, Option.bind_some, cond_true, cond_false, decide_true, decide_false, Bool.not_true, Bool.not_false, ite_true, ite_false, and_self, true_and, and_true, or_self, true_or, or_true, false_or, or_false, decide_eq_true_eq, Int.reduceAdd, Int.reduceSub, Int.reduceMul, Int.reduceNeg, Int.reduceEq, Int.reduceLT, Int.reduceLE, Int.reduceNe, lcmp_z, lcmp_le, lcmp_ge, lcmp_lt, lcmp_gt]
        · simp (disch := omega) only [be_X7_balance_7, be_X7_balance_8]
      · rw [if_neg (by decide)] at s2
        have e54 := s5 rfl w w0 w1
        clear s5
        have x3 : C' 16 3 = 12 := (s3 _ _ (by omega)).trans g3
        have x1 : C' 12 1 = 54 := (s3 _ _ (by omega)).trans g5
        obtain ⟨r1, r2, r3, r4, r5, r6, r7, r8, r9, r10, r12, r13, r14, r15, r16, r18, r19, r20, r21, r22, r23, r24, r25, r26, r27, r28, r30, r31, r32, r33, r34, r35, r36, r37, r38, r39, r40, r41, r44, r49, r50, r51, r52, r54⟩ := hR
        have x54 : R' 17 54 = 1590 := (s4 _ _ (by omega)).trans r54
        refine ⟨am_w32 (R' 1590 w), C', R', eC.trans ?_, (eR.trans s2).trans ?_, hI, hcf, hrf⟩
        · simp (disch := omega) only [be_X6_balance_6, be_X2_firingsOf_m, be_X2_firingsOf_0, be_X2_firingsOf_1, be_X2_firingsOf_3, be_X2_firingsOf_4, Option.bind_some, cond_true, cond_false, decide_true, decide_false, Bool.not_true, Bool.not_false, ite_true, ite_false, and_self, true_and, and_true, or_self, true_or, or_true, false_or, or_false, decide_eq_true_eq, Int.reduceAdd, Int.reduceSub, Int.reduceMul, Int.reduceNeg, Int.reduceEq, Int.reduceLT, Int.reduceLE, Int.reduceNe, lcmp_z, lcmp_le, lcmp_ge, lcmp_lt, lcmp_gt, decide_eq_true, decide_eq_false, if_pos, if_neg, gf_16, gf_12, cls_12, x3, x1, ra_54, e54]
        · simp (disch := omega) only [be_X7_balance_6, be_X7_balance_8, Option.bind_some, cond_true, cond_false, decide_true, decide_false, Bool.not_true, Bool.not_false, ite_true, ite_false, and_self, true_and, and_true, or_self, true_or, or_true, false_or, or_false, decide_eq_true_eq, Int.reduceAdd, Int.reduceSub, Int.reduceMul, Int.reduceNeg, Int.reduceEq, Int.reduceLT, Int.reduceLE, Int.reduceNe, lcmp_z, lcmp_le, lcmp_ge, lcmp_lt, lcmp_gt, gf_17, x54, ra_1590]
  · rw [if_neg cw] at hat hiw
    refine ⟨-1, C, R, ?_, ?_, H, cf2_refl C, rfr_refl R⟩
    · show am_evm am_PP nX6_balance [(2, 16), (0, w)] C = _
      simp (disch := omega) only [be_X6_balance_m, be_X6_balance_0, be_X6_balance_1, Option.bind_some, cond_true, cond_false, decide_true, decide_false, Bool.not_true, Bool.not_false, ite_true, ite_false, and_self, true_and, and_true, or_self, true_or, or_true, false_or, or_false, decide_eq_true_eq, Int.reduceAdd, Int.reduceSub, Int.reduceMul, Int.reduceNeg, Int.reduceEq, Int.reduceLT, Int.reduceLE, Int.reduceNe, lcmp_z, lcmp_le, lcmp_ge, lcmp_lt, lcmp_gt, cls_16, hat]
    · show am_evm am_PP nX7_balance [(2, 17), (0, w)] R = _
      simp (disch := omega) only [be_X7_balance_m, be_X7_balance_0, be_X7_balance_1, Option.bind_some, cond_true, cond_false, decide_true, decide_false, Bool.not_true, Bool.not_false, ite_true, ite_false, and_self, true_and, and_true, or_self, true_or, or_true, false_or, or_false, decide_eq_true_eq, Int.reduceAdd, Int.reduceSub, Int.reduceMul, Int.reduceNeg, Int.reduceEq, Int.reduceLT, Int.reduceLE, Int.reduceNe, lcmp_z, lcmp_le, lcmp_ge, lcmp_lt, lcmp_gt, cls_17, hiw]
