/-! SORT -/
theorem am_up_or (M : am_M) (L i v L' i' : Int) (h : L' ≠ L ∨ i' ≠ i) : am_up M L i v L' i' = M L' i' := if_neg fun q => h.elim (fun k => k q.1) (fun k => k q.2)
/-- a pattern is sorted into the hand -/
theorem sortIn_loop {w v n : Int} {d : Int → Int} (hw : 0 ≤ w) (hn : n < 30) : ∀ (m : Nat) (p : Int) (C : am_M), p = m → p ≤ n → C (11 + 256 * w) 0 = 57 + 256 * w → C (11 + 256 * w) 3 = n → (∀ k, 0 ≤ k → k < p → C (57 + 256 * w) k = d k) → (∀ k, p < k → k ≤ n → C (57 + 256 * w) k = d (k - 1)) →
    ∃ C' q, am_ev am_PP nX1_sortIn 3 [11 + 256 * w, v, p] [] C = some (0, C') ∧ (∀ L i, ¬ (L = 57 + 256 * w ∨ (L = 11 + 256 * w ∧ i = 3)) → C' L i = C L i) ∧ C' (11 + 256 * w) 3 = n + 1 ∧ 0 ≤ q ∧ q ≤ p ∧ (∀ k, 0 ≤ k → k < q → C' (57 + 256 * w) k = d k) ∧ C' (57 + 256 * w) q = v ∧ (∀ k, q < k → k ≤ n → C' (57 + 256 * w) k = d (k - 1)) ∧ (q = 0 ∨ v ≤ d (q - 1)) ∧ (∀ k, q ≤ k → k < p → d k < v) := by
  intro m
  induction m with
  | zero =>
    intro p C e1 e2 h0 h3 hd hs
    have e1 : p = 0 := by simpa using e1
    subst e1
    rw [be_X1_sortIn_3]
    simp (disch := omega) only [be_X1_sortIn_6, Option.bind_some, cond_true, cond_false, decide_true, decide_false, Bool.not_true, Bool.not_false, ite_true, ite_false, and_self, true_and, and_true, or_self, true_or, or_true, false_or, or_false, decide_eq_true_eq, Int.reduceAdd, Int.reduceSub, Int.reduceMul, Int.reduceNeg, Int.reduceEq, Int.reduceLT, Int.reduceLE, Int.reduceNe, lcmp_z, lcmp_le, lcmp_ge, lcmp_lt, lcmp_gt, am_up_eq, am_up_nl, am_up_ni, gf_11, pf_11, h0, h3, sa_57, am_w32_ok]
    refine ⟨_, 0, rfl, fun L i q => ?_, by simp (disch := omega) only [am_up_eq, am_up_nl, am_up_ni], by omega, by omega, fun k a b => by omega, by simp (disch := omega) only [am_up_eq, am_up_nl, am_up_ni], fun k a b => ?_, Or.inl rfl, fun k a b => by omega⟩
    · by_cases c1 : L = 11 + 256 * w
      · simp (disch := omega) only [am_up_eq, am_up_nl, am_up_ni]
      · simp (disch := omega) only [am_up_eq, am_up_nl, am_up_ni]
    · simp (disch := omega) only [am_up_eq, am_up_nl, am_up_ni]
      exact hs k a b
  | succ m ih =>
    intro p C e1 e2 h0 h3 hd hs
    have hp : 0 < p := by omega
    rw [be_X1_sortIn_3, decide_eq_false (by omega), cond_false, be_X1_sortIn_4]
    have hd1 := hd (p - 1) (by omega) (by omega)
    by_cases c : d (p - 1) < v
    · have cc : ¬ v ≤ d (p - 1) := by omega
      simp (disch := omega) only [Option.bind_some, cond_true, cond_false, decide_true, decide_false, Bool.not_true, Bool.not_false, ite_true, ite_false, and_self, true_and, and_true, or_self, true_or, or_true, false_or, or_false, decide_eq_true_eq, Int.reduceAdd, Int.reduceSub, Int.reduceMul, Int.reduceNeg, Int.reduceEq, Int.reduceLT, Int.reduceLE, Int.reduceNe, lcmp_z, lcmp_le, lcmp_ge, lcmp_lt, lcmp_gt, am_up_eq, am_up_nl, am_up_ni, gf_11, pf_11, h0, h3, ra_57, am_w32_ok, hd1, decide_eq_false cc]
      rw [be_X1_sortIn_5]
      simp (disch := omega) only [Option.bind_some, cond_true, cond_false, decide_true, decide_false, Bool.not_true, Bool.not_false, ite_true, ite_false, and_self, true_and, and_true, or_self, true_or, or_true, false_or, or_false, decide_eq_true_eq, Int.reduceAdd, Int.reduceSub, Int.reduceMul, Int.reduceNeg, Int.reduceEq, Int.reduceLT, Int.reduceLE, Int.reduceNe, lcmp_z, lcmp_le, lcmp_ge, lcmp_lt, lcmp_gt, am_up_eq, am_up_nl, am_up_ni, gf_11, pf_11, h0, h3, ra_57, sa_57, am_w32_ok, hd1]
      obtain ⟨C', q, z1, z2, z3, z4, z5, z6, z7, z8, z9, z10⟩ := ih (p + -1) (am_up C (57 + 256 * w) p (d (p - 1))) (by omega) (by omega) (by simp (disch := omega) only [am_up_eq, am_up_nl, am_up_ni, h0]) (by simp (disch := omega) only [am_up_eq, am_up_nl, am_up_ni, h3]) (fun k a b => by simp (disch := omega) only [am_up_eq, am_up_nl, am_up_ni]; exact hd k a (by omega)) (fun k a b => by
        by_cases e : k = p
        · subst e; simp (disch := omega) only [am_up_eq, am_up_nl, am_up_ni]
        · simp (disch := omega) only [am_up_eq, am_up_nl, am_up_ni]; exact hs k (by omega) b)
      refine ⟨C', q, z1, fun L i q' => ?_, z3, z4, by omega, z6, z7, z8, z9, fun k a b => ?_⟩
      · rw [z2 L i q']
        simp (disch := omega) only [am_up_eq, am_up_nl, am_up_ni]
      · by_cases e : k = p - 1
        · rw [e]; exact c
        · exact z10 k a (by omega)
    · have cc : v ≤ d (p - 1) := by omega
      simp (disch := omega) only [be_X1_sortIn_6, Option.bind_some, cond_true, cond_false, decide_true, decide_false, Bool.not_true, Bool.not_false, ite_true, ite_false, and_self, true_and, and_true, or_self, true_or, or_true, false_or, or_false, decide_eq_true_eq, Int.reduceAdd, Int.reduceSub, Int.reduceMul, Int.reduceNeg, Int.reduceEq, Int.reduceLT, Int.reduceLE, Int.reduceNe, lcmp_z, lcmp_le, lcmp_ge, lcmp_lt, lcmp_gt, am_up_eq, am_up_nl, am_up_ni, gf_11, pf_11, h0, h3, ra_57, sa_57, am_w32_ok, hd1, decide_eq_true cc]
      refine ⟨_, p, rfl, fun L i q => ?_, by simp (disch := omega) only [am_up_eq, am_up_nl, am_up_ni], by omega, by omega, fun k a b => ?_, by simp (disch := omega) only [am_up_eq, am_up_nl, am_up_ni], fun k a b => ?_, Or.inr (by omega), fun k a b => by omega⟩
      · by_cases c1 : L = 11 + 256 * w
        · simp (disch := omega) only [am_up_eq, am_up_nl, am_up_ni]
        · simp (disch := omega) only [am_up_eq, am_up_nl, am_up_ni]
      · simp (disch := omega) only [am_up_eq, am_up_nl, am_up_ni]; exact hd k a b
      · simp (disch := omega) only [am_up_eq, am_up_nl, am_up_ni]; exact hs k a b
/-- the reference's way -/
theorem insert_loop {w v n : Int} {s : Int → Int} (hw : 0 ≤ w) (hw2 : w < 40) (hn : n < 30) (hn0 : 0 ≤ n) : ∀ (m : Nat) (p : Int) (R : am_M), p = m → p ≤ n → rs R → R 2869 w = n → (∀ k, 0 ≤ k → k < p → R 67 (30 * w + k) = s k) → (∀ k, p < k → k ≤ n → R 67 (30 * w + k) = s (k - 1)) →
    ∃ R' q, am_ev am_PP nX7_insert 1 [17, w, v, p] [] R = some (0, R') ∧ (∀ L i, ¬ ((L = 67 ∧ 30 * w ≤ i ∧ i < 30 * w + 30) ∨ (L = 2869 ∧ i = w) ∨ (L = 1589 ∧ i = w)) → R' L i = R L i) ∧ R' 2869 w = n + 1 ∧ R' 1589 w = (if n + 1 = R 565 w then 1 else 0) ∧ 0 ≤ q ∧ q ≤ p ∧ (∀ k, 0 ≤ k → k < q → R' 67 (30 * w + k) = s k) ∧ R' 67 (30 * w + q) = v ∧ (∀ k, q < k → k ≤ n → R' 67 (30 * w + k) = s (k - 1)) ∧ (q = 0 ∨ s (q - 1) ≤ v) ∧ (∀ k, q ≤ k → k < p → v < s k) := by
  intro m
  have fin : ∀ (p : Int) (R : am_M), 0 ≤ p → p ≤ n → rs R → R 2869 w = n → (∀ k, 0 ≤ k → k < p → R 67 (30 * w + k) = s k) → (∀ k, p < k → k ≤ n → R 67 (30 * w + k) = s (k - 1)) → (p = 0 ∨ s (p - 1) ≤ v) →
      ∃ R' q, am_ev am_PP nX7_insert 4 [17, w, v, p] [] R = some (0, R') ∧ (∀ L i, ¬ ((L = 67 ∧ 30 * w ≤ i ∧ i < 30 * w + 30) ∨ (L = 2869 ∧ i = w) ∨ (L = 1589 ∧ i = w)) → R' L i = R L i) ∧ R' 2869 w = n + 1 ∧ R' 1589 w = (if n + 1 = R 565 w then 1 else 0) ∧ 0 ≤ q ∧ q ≤ p ∧ (∀ k, 0 ≤ k → k < q → R' 67 (30 * w + k) = s k) ∧ R' 67 (30 * w + q) = v ∧ (∀ k, q < k → k ≤ n → R' 67 (30 * w + k) = s (k - 1)) ∧ (q = 0 ∨ s (q - 1) ≤ v) ∧ (∀ k, q ≤ k → k < p → v < s k) := by
    intro p R p0 p1 hR h3 hd hs hq
    obtain ⟨r1, r2, r3, r4, r5, r6, r7, r8, r9, r10, r12, r13, r14, r15, r16, r18, r19, r20, r21, r22, r23, r24, r25, r26, r27, r28, r30, r31, r32, r33, r34, r35, r36, r37, r38, r39, r40, r41, r44, r49, r50, r51, r52, r54⟩ := hR
    by_cases c : n + 1 = R 565 w
    · simp (disch := omega) only [be_X7_insert_4, be_X7_insert_5, be_X7_insert_6, be_X7_insert_7, Option.bind_some, cond_true, cond_false, decide_true, decide_false, Bool.not_true, Bool.not_false, ite_true, ite_false, and_self, true_and, and_true, or_self, true_or, or_true, false_or, or_false, decide_eq_true_eq, Int.reduceAdd, Int.reduceSub, Int.reduceMul, Int.reduceNeg, Int.reduceEq, Int.reduceLT, Int.reduceLE, Int.reduceNe, lcmp_z, lcmp_le, lcmp_ge, lcmp_lt, lcmp_gt, am_up_eq, am_up_nl, am_up_ni, gf_17, pf_17, cls_17, pb0_17, pb1_17, ra_50, sa_50, ra_51, sa_51, ra_52, sa_52, ra_53, sa_53, ra_54, sa_54, ra_310, sa_310, ra_309, sa_309, ra_565, sa_565, ra_63, sa_63, ra_62, sa_62, ra_821, sa_821, ra_68, sa_68, ra_1077, sa_1077, ra_64, sa_64, ra_320, sa_320, ra_576, sa_576, ra_61, sa_61, ra_317, sa_317, ra_573, sa_573, ra_829, sa_829, ra_1085, sa_1085, ra_1341, sa_1341, ra_1597, sa_1597, ra_1853, sa_1853, ra_2109, sa_2109, ra_2365, sa_2365, ra_65, sa_65, ra_2621, sa_2621, ra_2877, sa_2877, ra_3133, sa_3133, ra_69, sa_69, ra_70, sa_70, ra_1333, sa_1333, ra_1589, sa_1589, ra_566, sa_566, ra_822, sa_822, ra_1845, sa_1845, ra_2101, sa_2101, ra_2357, sa_2357, ra_2613, sa_2613, ra_66, sa_66, ra_67, sa_67, ra_2869, sa_2869, ra_3125, sa_3125, ra_308, sa_308, ra_71, sa_71, ra_1078, sa_1078, ra_1334, sa_1334, ra_3381, sa_3381, ra_1590, sa_1590, ra_2, ra_3, r1, r2, r3, r4, r5, r6, r7, r8, r9, r10, r12, r13, r14, r15, r16, r18, r19, r20, r21, r22, r23, r24, r25, r26, r27, r28, r30, r31, r32, r33, r34, r35, r36, r37, r38, r39, r40, r41, r44, r49, r50, r51, r52, r54, am_w32_ok, h3, decide_eq_true c, c]
      refine ⟨_, p, rfl, fun L i q => ?_, ?_, by simp (disch := omega) only [am_up_eq, am_up_nl, am_up_ni], by omega, by omega, fun k a b => ?_, ?_, fun k a b => ?_, hq, fun k a b => by omega⟩
      · simp (disch := omega) only [am_up_or]
      · simp (disch := omega) only [am_up_eq, am_up_nl, am_up_ni]
      · simp (disch := omega) only [am_up_eq, am_up_nl, am_up_ni]; exact hd k a b
      · simp (disch := omega) only [am_up_eq, am_up_nl, am_up_ni]
      · simp (disch := omega) only [am_up_eq, am_up_nl, am_up_ni]; exact hs k a b
    · simp (disch := omega) only [be_X7_insert_4, be_X7_insert_5, be_X7_insert_6, be_X7_insert_7, Option.bind_some, cond_true, cond_false, decide_true, decide_false, Bool.not_true, Bool.not_false, ite_true, ite_false, and_self, true_and, and_true, or_self, true_or, or_true, false_or, or_false, decide_eq_true_eq, Int.reduceAdd, Int.reduceSub, Int.reduceMul, Int.reduceNeg, Int.reduceEq, Int.reduceLT, Int.reduceLE, Int.reduceNe, lcmp_z, lcmp_le, lcmp_ge, lcmp_lt, lcmp_gt, am_up_eq, am_up_nl, am_up_ni, gf_17, pf_17, cls_17, pb0_17, pb1_17, ra_50, sa_50, ra_51, sa_51, ra_52, sa_52, ra_53, sa_53, ra_54, sa_54, ra_310, sa_310, ra_309, sa_309, ra_565, sa_565, ra_63, sa_63, ra_62, sa_62, ra_821, sa_821, ra_68, sa_68, ra_1077, sa_1077, ra_64, sa_64, ra_320, sa_320, ra_576, sa_576, ra_61, sa_61, ra_317, sa_317, ra_573, sa_573, ra_829, sa_829, ra_1085, sa_1085, ra_1341, sa_1341, ra_1597, sa_1597, ra_1853, sa_1853, ra_2109, sa_2109, ra_2365, sa_2365, ra_65, sa_65, ra_2621, sa_2621, ra_2877, sa_2877, ra_3133, sa_3133, ra_69, sa_69, ra_70, sa_70, ra_1333, sa_1333, ra_1589, sa_1589, ra_566, sa_566, ra_822, sa_822, ra_1845, sa_1845, ra_2101, sa_2101, ra_2357, sa_2357, ra_2613, sa_2613, ra_66, sa_66, ra_67, sa_67, ra_2869, sa_2869, ra_3125, sa_3125, ra_308, sa_308, ra_71, sa_71, ra_1078, sa_1078, ra_1334, sa_1334, ra_3381, sa_3381, ra_1590, sa_1590, ra_2, ra_3, r1, r2, r3, r4, r5, r6, r7, r8, r9, r10, r12, r13, r14, r15, r16, r18, r19, r20, r21, r22, r23, r24, r25, r26, r27, r28, r30, r31, r32, r33, r34, r35, r36, r37, r38, r39, r40, r41, r44, r49, r50, r51, r52, r54, am_w32_ok, h3, decide_eq_false c, c]
      refine ⟨_, p, rfl, fun L i q => ?_, ?_, by simp (disch := omega) only [am_up_eq, am_up_nl, am_up_ni], by omega, by omega, fun k a b => ?_, ?_, fun k a b => ?_, hq, fun k a b => by omega⟩
      · simp (disch := omega) only [am_up_or]
      · simp (disch := omega) only [am_up_eq, am_up_nl, am_up_ni]
      · simp (disch := omega) only [am_up_eq, am_up_nl, am_up_ni]; exact hd k a b
      · simp (disch := omega) only [am_up_eq, am_up_nl, am_up_ni]
      · simp (disch := omega) only [am_up_eq, am_up_nl, am_up_ni]; exact hs k a b
  induction m with
  | zero =>
    intro p R e1 e2 hR h3 hd hs
    have e1 : p = 0 := by simpa using e1
    subst e1
    rw [be_X7_insert_1, decide_eq_true (by omega), cond_true]
    exact fin 0 R (by omega) e2 hR h3 hd hs (Or.inl rfl)
  | succ m ih =>
    intro p R e1 e2 hR h3 hd hs
    have hR0 := hR
    obtain ⟨r1, r2, r3, r4, r5, r6, r7, r8, r9, r10, r12, r13, r14, r15, r16, r18, r19, r20, r21, r22, r23, r24, r25, r26, r27, r28, r30, r31, r32, r33, r34, r35, r36, r37, r38, r39, r40, r41, r44, r49, r50, r51, r52, r54⟩ := hR
    have hp : 0 < p := by omega
    rw [be_X7_insert_1, decide_eq_false (by omega), cond_false, be_X7_insert_2]
    have hd1 := hd (p - 1) (by omega) (by omega)
    have hx : am_w32 (am_w32 (am_w32 (30 * w) + p) - 1) = 30 * w + (p - 1) := by
      rw [am_w32_ok (30 * w) (by omega) (by omega), am_w32_ok (30 * w + p) (by omega) (by omega), am_w32_ok (30 * w + p - 1) (by omega) (by omega)]
      omega
    have hd2 : R 67 (30 * w + p - 1) = s (p - 1) := by rw [← hd1, show 30 * w + p - 1 = 30 * w + (p - 1) by omega]
    by_cases c : s (p - 1) ≤ v
    · simp (disch := omega) only [Option.bind_some, cond_true, cond_false, decide_true, decide_false, Bool.not_true, Bool.not_false, ite_true, ite_false, and_self, true_and, and_true, or_self, true_or, or_true, false_or, or_false, decide_eq_true_eq, Int.reduceAdd, Int.reduceSub, Int.reduceMul, Int.reduceNeg, Int.reduceEq, Int.reduceLT, Int.reduceLE, Int.reduceNe, lcmp_z, lcmp_le, lcmp_ge, lcmp_lt, lcmp_gt, am_up_eq, am_up_nl, am_up_ni, gf_17, pf_17, cls_17, pb0_17, pb1_17, ra_50, sa_50, ra_51, sa_51, ra_52, sa_52, ra_53, sa_53, ra_54, sa_54, ra_310, sa_310, ra_309, sa_309, ra_565, sa_565, ra_63, sa_63, ra_62, sa_62, ra_821, sa_821, ra_68, sa_68, ra_1077, sa_1077, ra_64, sa_64, ra_320, sa_320, ra_576, sa_576, ra_61, sa_61, ra_317, sa_317, ra_573, sa_573, ra_829, sa_829, ra_1085, sa_1085, ra_1341, sa_1341, ra_1597, sa_1597, ra_1853, sa_1853, ra_2109, sa_2109, ra_2365, sa_2365, ra_65, sa_65, ra_2621, sa_2621, ra_2877, sa_2877, ra_3133, sa_3133, ra_69, sa_69, ra_70, sa_70, ra_1333, sa_1333, ra_1589, sa_1589, ra_566, sa_566, ra_822, sa_822, ra_1845, sa_1845, ra_2101, sa_2101, ra_2357, sa_2357, ra_2613, sa_2613, ra_66, sa_66, ra_67, sa_67, ra_2869, sa_2869, ra_3125, sa_3125, ra_308, sa_308, ra_71, sa_71, ra_1078, sa_1078, ra_1334, sa_1334, ra_3381, sa_3381, ra_1590, sa_1590, ra_2, ra_3, r1, r2, r3, r4, r5, r6, r7, r8, r9, r10, r12, r13, r14, r15, r16, r18, r19, r20, r21, r22, r23, r24, r25, r26, r27, r28, r30, r31, r32, r33, r34, r35, r36, r37, r38, r39, r40, r41, r44, r49, r50, r51, r52, r54, hx, hd1, decide_eq_true c]
      exact fin p R (by omega) e2 hR0 h3 hd hs (Or.inr c)
    · simp (disch := omega) only [Option.bind_some, cond_true, cond_false, decide_true, decide_false, Bool.not_true, Bool.not_false, ite_true, ite_false, and_self, true_and, and_true, or_self, true_or, or_true, false_or, or_false, decide_eq_true_eq, Int.reduceAdd, Int.reduceSub, Int.reduceMul, Int.reduceNeg, Int.reduceEq, Int.reduceLT, Int.reduceLE, Int.reduceNe, lcmp_z, lcmp_le, lcmp_ge, lcmp_lt, lcmp_gt, am_up_eq, am_up_nl, am_up_ni, gf_17, pf_17, cls_17, pb0_17, pb1_17, ra_50, sa_50, ra_51, sa_51, ra_52, sa_52, ra_53, sa_53, ra_54, sa_54, ra_310, sa_310, ra_309, sa_309, ra_565, sa_565, ra_63, sa_63, ra_62, sa_62, ra_821, sa_821, ra_68, sa_68, ra_1077, sa_1077, ra_64, sa_64, ra_320, sa_320, ra_576, sa_576, ra_61, sa_61, ra_317, sa_317, ra_573, sa_573, ra_829, sa_829, ra_1085, sa_1085, ra_1341, sa_1341, ra_1597, sa_1597, ra_1853, sa_1853, ra_2109, sa_2109, ra_2365, sa_2365, ra_65, sa_65, ra_2621, sa_2621, ra_2877, sa_2877, ra_3133, sa_3133, ra_69, sa_69, ra_70, sa_70, ra_1333, sa_1333, ra_1589, sa_1589, ra_566, sa_566, ra_822, sa_822, ra_1845, sa_1845, ra_2101, sa_2101, ra_2357, sa_2357, ra_2613, sa_2613, ra_66, sa_66, ra_67, sa_67, ra_2869, sa_2869, ra_3125, sa_3125, ra_308, sa_308, ra_71, sa_71, ra_1078, sa_1078, ra_1334, sa_1334, ra_3381, sa_3381, ra_1590, sa_1590, ra_2, ra_3, r1, r2, r3, r4, r5, r6, r7, r8, r9, r10, r12, r13, r14, r15, r16, r18, r19, r20, r21, r22, r23, r24, r25, r26, r27, r28, r30, r31, r32, r33, r34, r35, r36, r37, r38, r39, r40, r41, r44, r49, r50, r51, r52, r54, hx, hd1, decide_eq_false c]
      rw [be_X7_insert_3]
      simp (disch := omega) only [Option.bind_some, cond_true, cond_false, decide_true, decide_false, Bool.not_true, Bool.not_false, ite_true, ite_false, and_self, true_and, and_true, or_self, true_or, or_true, false_or, or_false, decide_eq_true_eq, Int.reduceAdd, Int.reduceSub, Int.reduceMul, Int.reduceNeg, Int.reduceEq, Int.reduceLT, Int.reduceLE, Int.reduceNe, lcmp_z, lcmp_le, lcmp_ge, lcmp_lt, lcmp_gt, am_up_eq, am_up_nl, am_up_ni, gf_17, pf_17, cls_17, pb0_17, pb1_17, ra_50, sa_50, ra_51, sa_51, ra_52, sa_52, ra_53, sa_53, ra_54, sa_54, ra_310, sa_310, ra_309, sa_309, ra_565, sa_565, ra_63, sa_63, ra_62, sa_62, ra_821, sa_821, ra_68, sa_68, ra_1077, sa_1077, ra_64, sa_64, ra_320, sa_320, ra_576, sa_576, ra_61, sa_61, ra_317, sa_317, ra_573, sa_573, ra_829, sa_829, ra_1085, sa_1085, ra_1341, sa_1341, ra_1597, sa_1597, ra_1853, sa_1853, ra_2109, sa_2109, ra_2365, sa_2365, ra_65, sa_65, ra_2621, sa_2621, ra_2877, sa_2877, ra_3133, sa_3133, ra_69, sa_69, ra_70, sa_70, ra_1333, sa_1333, ra_1589, sa_1589, ra_566, sa_566, ra_822, sa_822, ra_1845, sa_1845, ra_2101, sa_2101, ra_2357, sa_2357, ra_2613, sa_2613, ra_66, sa_66, ra_67, sa_67, ra_2869, sa_2869, ra_3125, sa_3125, ra_308, sa_308, ra_71, sa_71, ra_1078, sa_1078, ra_1334, sa_1334, ra_3381, sa_3381, ra_1590, sa_1590, ra_2, ra_3, r1, r2, r3, r4, r5, r6, r7, r8, r9, r10, r12, r13, r14, r15, r16, r18, r19, r20, r21, r22, r23, r24, r25, r26, r27, r28, r30, r31, r32, r33, r34, r35, r36, r37, r38, r39, r40, r41, r44, r49, r50, r51, r52, r54, hd1, hd2, am_w32_ok]
      obtain ⟨R', q, z1, z2, z3, z4, z5, z6, z7, z8, z9, z10, z11⟩ := ih (p + -1) (am_up R 67 (30 * w + p) (s (p - 1))) (by omega) (by omega) (by refine ⟨?_, ?_, ?_, ?_, ?_, ?_, ?_, ?_, ?_, ?_, ?_, ?_, ?_, ?_, ?_, ?_, ?_, ?_, ?_, ?_, ?_, ?_, ?_, ?_, ?_, ?_, ?_, ?_, ?_, ?_, ?_, ?_, ?_, ?_, ?_, ?_, ?_, ?_, ?_, ?_, ?_, ?_, ?_, ?_⟩ <;> simp (disch := omega) only [am_up_eq, am_up_nl, am_up_ni, r1, r2, r3, r4, r5, r6, r7, r8, r9, r10, r12, r13, r14, r15, r16, r18, r19, r20, r21, r22, r23, r24, r25, r26, r27, r28, r30, r31, r32, r33, r34, r35, r36, r37, r38, r39, r40, r41, r44, r49, r50, r51, r52, r54]) (by simp (disch := omega) only [am_up_eq, am_up_nl, am_up_ni, h3]) (fun k a b => by simp (disch := omega) only [am_up_eq, am_up_nl, am_up_ni]; exact hd k a (by omega)) (fun k a b => by
        by_cases e : k = p
        · subst e; simp (disch := omega) only [am_up_eq, am_up_nl, am_up_ni]
        · simp (disch := omega) only [am_up_eq, am_up_nl, am_up_ni]; exact hs k (by omega) b)
      refine ⟨R', q, z1, fun L i q' => ?_, z3, ?_, z5, by omega, z7, z8, z9, z10, fun k a b => ?_⟩
      · rw [z2 L i q']
        simp (disch := omega) only [am_up_or]
      · rw [z4]; simp (disch := omega) only [am_up_eq, am_up_nl, am_up_ni]
      · by_cases e : k = p - 1
        · rw [e]; omega
        · exact z11 k a (by omega)
/-- both sorts give the same row -/
theorem sort_same {n v c q : Int} {s D S : Int → Int} (hn : 0 ≤ n) (asc : ∀ j k, 0 ≤ j → j ≤ k → k < n → s j ≤ s k)
    (c0 : 0 ≤ c) (c1 : c ≤ n) (D1 : ∀ k, 0 ≤ k → k < c → D k = s (n - 1 - k)) (D2 : D c = v) (D3 : ∀ k, c < k → k ≤ n → D k = s (n - 1 - (k - 1))) (D4 : c = 0 ∨ v ≤ s (n - 1 - (c - 1))) (D5 : ∀ k, c ≤ k → k < n → s (n - 1 - k) < v)
    (q0 : 0 ≤ q) (q1 : q ≤ n) (S1 : ∀ k, 0 ≤ k → k < q → S k = s k) (S2 : S q = v) (S3 : ∀ k, q < k → k ≤ n → S k = s (k - 1)) (S4 : q = 0 ∨ s (q - 1) ≤ v) (S5 : ∀ k, q ≤ k → k < n → v < s k) :
    (∀ k, 0 ≤ k → k ≤ n → D k = S (n - k)) ∧ (∀ j k, 0 ≤ j → j ≤ k → k ≤ n → S j ≤ S k) := by
  have lt : ∀ j, 0 ≤ j → j < n - c → s j < v := fun j a b => by
    have := D5 (n - 1 - j) (by omega) (by omega)
    rwa [show n - 1 - (n - 1 - j) = j by omega] at this
  have ge : ∀ j, n - c ≤ j → j < n → v ≤ s j := fun j a b => by
    have h1 : v ≤ s (n - 1 - (c - 1)) := by omega
    have h2 := asc (n - 1 - (c - 1)) j (by omega) (by omega) b
    omega
  have le : ∀ j, 0 ≤ j → j < q → s j ≤ v := fun j a b => by
    have h2 := asc j (q - 1) a (by omega) (by omega)
    omega
  refine ⟨fun k a b => ?_, fun j k a b e => ?_⟩
  · rcases (show k < c ∨ k = c ∨ c < k by omega) with x | x | x
    · rw [D1 k a x]
      rcases (show n - k < q ∨ n - k = q ∨ q < n - k by omega) with y | y | y
      · rw [S1 _ (by omega) y]
        have h1 := le (n - k) (by omega) y
        have h2 := ge (n - 1 - k) (by omega) (by omega)
        have h3 := asc (n - 1 - k) (n - k) (by omega) (by omega) (by omega)
        omega
      · rw [y, S2]
        have h1 := le (n - 1 - k) (by omega) (by omega)
        have h2 := ge (n - 1 - k) (by omega) (by omega)
        omega
      · rw [S3 _ y (by omega), show n - k - 1 = n - 1 - k by omega]
    · subst x
      rw [D2]
      rcases (show n - k < q ∨ n - k = q ∨ q < n - k by omega) with y | y | y
      · rw [S1 _ (by omega) y]
        have h1 := le (n - k) (by omega) y
        have h2 := ge (n - k) (by omega) (by omega)
        omega
      · rw [y, S2]
      · have h1 := S5 q (by omega) (by omega)
        have h2 := lt q q0 (by omega)
        omega
    · rw [D3 k x b]
      rcases (show n - k < q ∨ n - k = q ∨ q < n - k by omega) with y | y | y
      · rw [S1 _ (by omega) y, show n - 1 - (k - 1) = n - k by omega]
      · have h1 := S5 q (by omega) (by omega)
        have h2 := lt q q0 (by omega)
        omega
      · have h1 := S5 q (by omega) (by omega)
        have h2 := lt q q0 (by omega)
        omega
  · rcases (show k < q ∨ k = q ∨ q < k by omega) with x | x | x
    · rw [S1 k (by omega) x, S1 j a (by omega)]
      exact asc j k a b (by omega)
    · subst x
      rw [S2]
      by_cases y : j = k
      · rw [y, S2]; omega
      · rw [S1 j a (by omega)]; exact le j a (by omega)
    · rw [S3 k x e]
      have h0 := S5 (k - 1) (by omega) (by omega)
      rcases (show j < q ∨ j = q ∨ q < j by omega) with y | y | y
      · rw [S1 j a y]
        have := le j a y
        omega
      · rw [y, S2]; omega
      · rw [S3 j y (by omega)]
        exact asc (j - 1) (k - 1) (by omega) (by omega) (by omega)
