/-! the reference begins a run: all of it -/
theorem sp_loop {way many x : Int} : ∀ (n : Nat) (R : am_M) (i : Int), rs R → 0 ≤ i → i + n = R 17 0 → R 17 0 ≤ 40 → (∀ d, 0 ≤ d → d < i → R 71 d = 0) → ∃ R', am_ev am_PP nX7_run 7 [17, way, many, x, i] [] R = am_ev am_PP nX7_run 9 [17, way, many, x] [] R' ∧ (∀ d, 0 ≤ d → d < R 17 0 → R' 71 d = 0) ∧ fr2 (fun L _ => L = 71) R R' := by
  intro n
  induction n with
  | zero =>
    intro R i hR i0 i1 i2 hd
    refine ⟨R, ?_, fun d a b => hd d a (by omega), fr2_refl _ _⟩
    simp (disch := omega) only [be_X7_run_7, Option.bind_some, cond_true, cond_false, decide_true, decide_false, Bool.not_true, Bool.not_false, ite_true, ite_false, and_self, true_and, and_true, or_self, true_or, or_true, false_or, or_false, decide_eq_true_eq, Int.reduceAdd, Int.reduceSub, Int.reduceMul, Int.reduceNeg, Int.reduceEq, Int.reduceLT, Int.reduceLE, Int.reduceNe, lcmp_z, lcmp_le, lcmp_ge, lcmp_lt, lcmp_gt, gf_17, decide_eq_true (show R 17 0 ≤ i by omega)]
  | succ n ih =>
    intro R i hR i0 i1 i2 hd
    have hR0 := hR
    obtain ⟨r1, r2, r3, r4, r5, r6, r7, r8, r9, r10, r12, r13, r14, r15, r16, r18, r19, r20, r21, r22, r23, r24, r25, r26, r27, r28, r30, r31, r32, r33, r34, r35, r36, r37, r38, r39, r40, r41, r44, r49, r50, r51, r52, r54⟩ := hR
    have b1 : am_ev am_PP nX7_run 7 [17, way, many, x, i] [] R = am_ev am_PP nX7_run 8 [17, way, many, x, i] [] R := by
      simp (disch := omega) only [be_X7_run_7, Option.bind_some, cond_true, cond_false, decide_true, decide_false, Bool.not_true, Bool.not_false, ite_true, ite_false, and_self, true_and, and_true, or_self, true_or, or_true, false_or, or_false, decide_eq_true_eq, Int.reduceAdd, Int.reduceSub, Int.reduceMul, Int.reduceNeg, Int.reduceEq, Int.reduceLT, Int.reduceLE, Int.reduceNe, lcmp_z, lcmp_le, lcmp_ge, lcmp_lt, lcmp_gt, gf_17, decide_eq_false (show ¬ R 17 0 ≤ i by omega)]
    have b2 : am_ev am_PP nX7_run 8 [17, way, many, x, i] [] R = am_ev am_PP nX7_run 7 [17, way, many, x, i + 1] [] (am_up R 71 i 0) := by
      simp (disch := omega) only [be_X7_run_8, Option.bind_some, cond_true, cond_false, decide_true, decide_false, Bool.not_true, Bool.not_false, ite_true, ite_false, and_self, true_and, and_true, or_self, true_or, or_true, false_or, or_false, decide_eq_true_eq, Int.reduceAdd, Int.reduceSub, Int.reduceMul, Int.reduceNeg, Int.reduceEq, Int.reduceLT, Int.reduceLE, Int.reduceNe, lcmp_z, lcmp_le, lcmp_ge, lcmp_lt, lcmp_gt, gf_17, pf_17, cls_17, pb0_17, pb1_17, ra_50, sa_50, ra_51, sa_51, ra_52, sa_52, ra_53, sa_53, ra_54, sa_54, ra_310, sa_310, ra_309, sa_309, ra_565, sa_565, ra_63, sa_63, ra_62, sa_62, ra_821, sa_821, ra_68, sa_68, ra_1077, sa_1077, ra_64, sa_64, ra_320, sa_320, ra_576, sa_576, ra_61, sa_61, ra_317, sa_317, ra_573, sa_573, ra_829, sa_829, ra_1085, sa_1085, ra_1341, sa_1341, ra_1597, sa_1597, ra_1853, sa_1853, ra_2109, sa_2109, ra_2365, sa_2365, ra_65, sa_65, ra_2621, sa_2621, ra_2877, sa_2877, ra_3133, sa_3133, ra_69, sa_69, ra_70, sa_70, ra_1333, sa_1333, ra_1589, sa_1589, ra_566, sa_566, ra_822, sa_822, ra_1845, sa_1845, ra_2101, sa_2101, ra_2357, sa_2357, ra_2613, sa_2613, ra_66, sa_66, ra_67, sa_67, ra_2869, sa_2869, ra_3125, sa_3125, ra_308, sa_308, ra_71, sa_71, ra_1078, sa_1078, ra_1334, sa_1334, ra_3381, sa_3381, ra_1590, sa_1590, ra_2, ra_3, r1, r2, r3, r4, r5, r6, r7, r8, r9, r10, r12, r13, r14, r15, r16, r18, r19, r20, r21, r22, r23, r24, r25, r26, r27, r28, r30, r31, r32, r33, r34, r35, r36, r37, r38, r39, r40, r41, r44, r49, r50, r51, r52, r54, am_w32_ok]
    have f1 : fr2 (fun L _ => L = 71) R (am_up R 71 i 0) := fr2_up rfl (fr2_refl _ _)
    have k0 : am_up R 71 i 0 17 0 = R 17 0 := by simp (disch := omega) only [am_up_eq, am_up_nl, am_up_ni]
    obtain ⟨R2, a1, a2, a3⟩ := ih (am_up R 71 i 0) (i + 1) (rs_fr hR0 f1 (fun i => by omega)) (by omega) (by omega) (by omega) (fun d p q => by
      by_cases e : d = i
      · subst e; simp (disch := omega) only [am_up_eq, am_up_nl, am_up_ni]
      · simp (disch := omega) only [am_up_eq, am_up_nl, am_up_ni]; exact hd d p (by omega))
    exact ⟨R2, by rw [b1, b2]; exact a1, fun d p q => a2 d p (by omega), fr2_trans f1 a3⟩
/-- what a beginning may change -/
def rtb (L i : Int) : Prop := rbb L i ∨ rww L i ∨ L = 71 ∨ (L = 17 ∧ (i = 17 ∨ i = 42 ∨ i = 43 ∨ i = 29))
theorem rf_begin {R : am_M} {way many x : Int} (hR : rs R) (w0 : 0 ≤ R 17 0) (w1 : R 17 0 ≤ 40) (b0 : 0 ≤ R 17 11) (b1 : R 17 11 ≤ 60) : ∃ R', am_ev am_PP nX7_run 6 [17, way, many, x] [] R = am_ev am_PP nX7_run 9 [17, way, many, x] [] R' ∧ fr2 rtb R R' ∧ R' 17 17 = 1 ∧ R' 17 42 = 0 ∧ R' 17 43 = 0 ∧ R' 17 29 = 0 ∧ (∀ d, 0 ≤ d → d < R 17 11 → bf R' d) ∧ (∀ u, 0 ≤ u → u < R 17 0 → wf R' u ∧ R' 71 u = 0) := by
  have hR1 : rs (am_up (am_up (am_up (am_up R 17 17 1) 17 42 0) 17 43 0) 17 29 0) := rs_fr (T := fun L i => L = 17 ∧ (i = 17 ∨ i = 42 ∨ i = 43 ∨ i = 29)) hR (fr2_up (by omega) (fr2_up (by omega) (fr2_up (by omega) (fr2_up (by omega) (fr2_refl _ _))))) (fun i => by omega)
  have f0 : fr2 rtb R (am_up (am_up (am_up (am_up R 17 17 1) 17 42 0) 17 43 0) 17 29 0) := by
    (repeat' first | exact fr2_refl _ _ | refine fr2_up ?_ ?_) <;> exact Or.inr (Or.inr (Or.inr ⟨rfl, by omega⟩))
  have g17 : (am_up (am_up (am_up (am_up R 17 17 1) 17 42 0) 17 43 0) 17 29 0) 17 17 = 1 ∧ (am_up (am_up (am_up (am_up R 17 17 1) 17 42 0) 17 43 0) 17 29 0) 17 42 = 0 ∧ (am_up (am_up (am_up (am_up R 17 17 1) 17 42 0) 17 43 0) 17 29 0) 17 43 = 0 ∧ (am_up (am_up (am_up (am_up R 17 17 1) 17 42 0) 17 43 0) 17 29 0) 17 29 = 0 ∧ (am_up (am_up (am_up (am_up R 17 17 1) 17 42 0) 17 43 0) 17 29 0) 17 0 = R 17 0 ∧ (am_up (am_up (am_up (am_up R 17 17 1) 17 42 0) 17 43 0) 17 29 0) 17 11 = R 17 11 := ⟨by simp (disch := omega) only [am_up_eq, am_up_nl, am_up_ni], by simp (disch := omega) only [am_up_eq, am_up_nl, am_up_ni], by simp (disch := omega) only [am_up_eq, am_up_nl, am_up_ni], by simp (disch := omega) only [am_up_eq, am_up_nl, am_up_ni], by simp (disch := omega) only [am_up_eq, am_up_nl, am_up_ni], by simp (disch := omega) only [am_up_eq, am_up_nl, am_up_ni]⟩
  have beg : am_evm am_PP nX7_begin [(2, 17)] R = am_ev am_PP nX7_begin 1 [17, 0] [] (am_up (am_up (am_up (am_up R 17 17 1) 17 42 0) 17 43 0) 17 29 0) := by
    simp (disch := omega) only [be_X7_begin_m, be_X7_begin_0, Option.bind_some, cond_true, cond_false, decide_true, decide_false, Bool.not_true, Bool.not_false, ite_true, ite_false, and_self, true_and, and_true, or_self, true_or, or_true, false_or, or_false, decide_eq_true_eq, Int.reduceAdd, Int.reduceSub, Int.reduceMul, Int.reduceNeg, Int.reduceEq, Int.reduceLT, Int.reduceLE, Int.reduceNe, lcmp_z, lcmp_le, lcmp_ge, lcmp_lt, lcmp_gt, pf_17, pb1_17]
  revert hR1 f0 g17 beg
  generalize am_up (am_up (am_up (am_up R 17 17 1) 17 42 0) 17 43 0) 17 29 0 = R1
  intro hR1 f0 g17 beg
  obtain ⟨y1, y2, y3, y4, y5, y6⟩ := g17
  obtain ⟨R2, a1, a2, a3⟩ := bb_loop (R 17 11).toNat R1 0 hR1 (by omega) (by omega) (by omega) (fun d p q => by omega)
  have hR2 := rs_fr hR1 a3 (fun i => by unfold rbb; omega)
  have z : ∀ i, R2 17 i = R1 17 i := fun i => a3 _ _ (by unfold rbb; omega)
  obtain ⟨R3, c1, c2, c3⟩ := bw_loop (R 17 0).toNat R2 0 hR2 (by omega) (by rw [z]; omega) (by rw [z]; omega) (fun d p q => by omega)
  have hR3 := rs_fr hR2 c3 (fun i => by unfold rww; omega)
  have z3 : ∀ i, R3 17 i = R1 17 i := fun i => by rw [← z]; exact c3 _ _ (by unfold rww; omega)
  obtain ⟨R4, d1, d2, d3⟩ := sp_loop (way := way) (many := many) (x := x) (R 17 0).toNat R3 0 hR3 (by omega) (by rw [z3]; omega) (by rw [z3]; omega) (fun d p q => by omega)
  have z4 : ∀ i, R4 17 i = R1 17 i := fun i => by rw [← z3]; exact d3 _ _ (by omega)
  refine ⟨R4, ?_, fr2_trans f0 (fr2_trans (fr2_mono (fun _ _ q => Or.inl q) a3) (fr2_trans (fr2_mono (fun _ _ q => Or.inr (Or.inl q)) c3) (fr2_mono (fun _ _ q => Or.inr (Or.inr (Or.inl q))) d3))), by rw [z4]; exact y1, by rw [z4]; exact y2, by rw [z4]; exact y3, by rw [z4]; exact y4, fun d p q => ?_, fun u p q => ⟨?_, d2 u p (by rw [z3]; omega)⟩⟩
  · rw [← d1]
    simp (disch := omega) only [be_X7_run_6, Option.bind_some, cond_true, cond_false, decide_true, decide_false, Bool.not_true, Bool.not_false, ite_true, ite_false, and_self, true_and, and_true, or_self, true_or, or_true, false_or, or_false, decide_eq_true_eq, Int.reduceAdd, Int.reduceSub, Int.reduceMul, Int.reduceNeg, Int.reduceEq, Int.reduceLT, Int.reduceLE, Int.reduceNe, lcmp_z, lcmp_le, lcmp_ge, lcmp_lt, lcmp_gt, cls_17, beg, a1, c1]
  · have := a2 d p (by omega)
    unfold bf at this ⊢
    have s : ∀ L, ¬ (rww L d ∨ L = 71) → R4 L d = R2 L d := fun L h => (d3 L d (fun e => h (Or.inr e))).trans (c3 L d (fun e => h (Or.inl e)))
    rw [s 1341 (by unfold rww; omega), s 1085 (by unfold rww; omega), s 1597 (by unfold rww; omega), s 1853 (by unfold rww; omega), s 2109 (by unfold rww; omega), s 2365 (by unfold rww; omega), s 65 (by unfold rww; omega), s 2621 (by unfold rww; omega), s 2877 (by unfold rww; omega), s 3133 (by unfold rww; omega)]
    exact this
  · have := c2 u p (by rw [z]; omega)
    unfold wf at this ⊢
    have s : ∀ L j, L ≠ 71 → R4 L j = R3 L j := fun L j h => d3 L j h
    simp only [s 1333 _ (by decide), s 2101 _ (by decide), s 1589 _ (by decide), s 566 _ (by decide), s 822 _ (by decide), s 1845 _ (by decide), s 2869 _ (by decide), s 3125 _ (by decide), s 309 _ (by decide), s 565 _ (by decide), s 66 _ (by decide)]
    exact this
