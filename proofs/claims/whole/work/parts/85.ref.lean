/-! the reference finds rates -/
def rowR (R : am_M) (W : Int) (s : UD) : Prop := ∀ i, 0 ≤ i → i < W → R 1078 i = s.1 i ∧ R 1334 i = s.2 i
def smR (R0 R : am_M) : Prop := ∀ L i, ¬ (L = 1078 ∨ L = 1334) → R L i = R0 L i
def rin (R : am_M) : Prop := R 17 1 = 309 ∧ R 17 2 = 565 ∧ R 17 12 = 61 ∧ R 17 13 = 317 ∧ R 17 50 = 1078 ∧ R 17 51 = 1334 ∧ R 17 52 = 3381 ∧ R 17 54 = 1590
theorem rin_of {R : am_M} (h : rs R) : rin R := by
  obtain ⟨r1, r2, r3, r4, r5, r6, r7, r8, r9, r10, r12, r13, r14, r15, r16, r18, r19, r20, r21, r22, r23, r24, r25, r26, r27, r28, r30, r31, r32, r33, r34, r35, r36, r37, r38, r39, r40, r41, r44, r49, r50, r51, r52, r54⟩ := h
  exact ⟨r1, r2, r12, r13, r50, r51, r52, r54⟩
theorem rf_writes {R : am_M} {f : Int} (hi : rin R) (f0 : 0 ≤ f) (f1 : f < 40) : am_evm am_PP nX7_writesOf [(2, 17), (0, f)] R = some (wrt R f, R) := by
  obtain ⟨r1, r2, -⟩ := hi
  unfold wrt
  by_cases c : R 309 f = 2
  · rw [if_pos c]
    simp (disch := omega) only [be_X7_writesOf_m, be_X7_writesOf_0, be_X7_writesOf_1, be_X7_writesOf_3, Option.bind_some, cond_true, cond_false, decide_true, decide_false, Bool.not_true, Bool.not_false, ite_true, ite_false, and_self, true_and, and_true, or_self, true_or, or_true, false_or, or_false, decide_eq_true_eq, Int.reduceAdd, Int.reduceSub, Int.reduceMul, Int.reduceNeg, Int.reduceEq, Int.reduceLT, Int.reduceLE, Int.reduceNe, lcmp_z, lcmp_le, lcmp_ge, lcmp_lt, lcmp_gt, gf_17, r1, r2, ra_309, ra_565, c]
  · rw [if_neg c]
    simp (disch := omega) only [be_X7_writesOf_m, be_X7_writesOf_0, be_X7_writesOf_2, be_X7_writesOf_3, Option.bind_some, cond_true, cond_false, decide_true, decide_false, Bool.not_true, Bool.not_false, ite_true, ite_false, and_self, true_and, and_true, or_self, true_or, or_true, false_or, or_false, decide_eq_true_eq, Int.reduceAdd, Int.reduceSub, Int.reduceMul, Int.reduceNeg, Int.reduceEq, Int.reduceLT, Int.reduceLE, Int.reduceNe, lcmp_z, lcmp_le, lcmp_ge, lcmp_lt, lcmp_gt, gf_17, r1, ra_309, decide_eq_false c]
theorem rf_rate {R0 R : am_M} {W i fr a b x y : Int} {s : UD} (hi : rin R0) (W1 : W ≤ 40) (hC : smR R0 R) (hU : rowR R W s) (i0 : 0 ≤ i) (i1 : i < W) (f0 : 0 ≤ fr) (f1 : fr < W) (hx : s.1 fr * a = x) (hy : s.2 fr * b = y) (x0 : 0 < x) (x1 : x ≤ 20000000) (y0 : 0 < y) (y1 : y ≤ 20000000) : ∃ c R', am_evm am_PP nX7_rate [(2, 17), (0, i), (0, fr), (1, a), (1, b)] R = some (c, R') ∧ smR R0 R' ∧ ((rate i x y s = none ∧ c = 0) ∨ ∃ s', rate i x y s = some s' ∧ c = 1 ∧ rowR R' W s') := by
  obtain ⟨-, -, -, -, r50, r51, -, -⟩ := hi
  have k0 := (hC 17 50 (by omega)).trans r50
  have k1 := (hC 17 51 (by omega)).trans r51
  obtain ⟨uf1, uf2⟩ := hU fr f0 f1
  obtain ⟨ui1, ui2⟩ := hU i i0 i1
  have gp := gd_pos (x := x) (y := y) (Or.inl x0)
  have dx := ldiv_ok (x := x) (g := gd x y) (by omega) (by omega) gp
  have dy := ldiv_ok (x := y) (g := gd x y) (by omega) (by omega) gp
  have hg := rf_common R (x := x) (y := y) (by omega) (by omega)
  have e0 : am_evm am_PP nX7_rate [(2, 17), (0, i), (0, fr), (1, a), (1, b)] R = bif decide (1000000 < x / gd x y) then am_ev am_PP nX7_rate 2 [] [] R else am_ev am_PP nX7_rate 1 [17, i, x / gd x y, y / gd x y] [] R := by
    simp (disch := omega) only [be_X7_rate_m, be_X7_rate_0, Option.bind_some, cond_true, cond_false, decide_true, decide_false, Bool.not_true, Bool.not_false, ite_true, ite_false, and_self, true_and, and_true, or_self, true_or, or_true, false_or, or_false, decide_eq_true_eq, Int.reduceAdd, Int.reduceSub, Int.reduceMul, Int.reduceNeg, Int.reduceEq, Int.reduceLT, Int.reduceLE, Int.reduceNe, lcmp_z, lcmp_le, lcmp_ge, lcmp_lt, lcmp_gt, gf_17, k0, k1, ra_1078, ra_1334, uf1, uf2, hx, hy, am_w64_ok, hg, dx, dy]
  rw [e0]
  unfold rate
  generalize x / gd x y = p at *
  generalize y / gd x y = q at *
  by_cases c1 : 1000000 < p
  · rw [decide_eq_true c1, cond_true, if_pos (Or.inl c1)]
    refine ⟨0, R, ?_, hC, Or.inl ⟨rfl, rfl⟩⟩
    rw [be_X7_rate_2, if_pos (Or.inl rfl)]
  rw [decide_eq_false c1, cond_false]
  by_cases c2 : 1000000 < q
  · have c2' : ¬ q ≤ 1000000 := by omega
    rw [if_pos (Or.inr c2)]
    refine ⟨0, R, ?_, hC, Or.inl ⟨rfl, rfl⟩⟩
    simp (disch := omega) only [be_X7_rate_1, be_X7_rate_2, Option.bind_some, cond_true, cond_false, decide_true, decide_false, Bool.not_true, Bool.not_false, ite_true, ite_false, and_self, true_and, and_true, or_self, true_or, or_true, false_or, or_false, decide_eq_true_eq, Int.reduceAdd, Int.reduceSub, Int.reduceMul, Int.reduceNeg, Int.reduceEq, Int.reduceLT, Int.reduceLE, Int.reduceNe, lcmp_z, lcmp_le, lcmp_ge, lcmp_lt, lcmp_gt, decide_eq_false c2']
  have c2' : q ≤ 1000000 := by omega
  rw [if_neg (by omega)]
  by_cases c3 : s.1 i = 0
  · rw [if_pos c3]
    refine ⟨1, am_up (am_up R 1078 i p) 1334 i q, ?_, fun L j z => ?_, Or.inr ⟨_, rfl, rfl, fun j j0 j1 => ?_⟩⟩
    · simp (disch := omega) only [be_X7_rate_1, be_X7_rate_3, be_X7_rate_4, be_X7_rate_5, be_X7_rate_6, be_X7_rate_7, be_X7_rate_9, Option.bind_some, cond_true, cond_false, decide_true, decide_false, Bool.not_true, Bool.not_false, ite_true, ite_false, and_self, true_and, and_true, or_self, true_or, or_true, false_or, or_false, decide_eq_true_eq, Int.reduceAdd, Int.reduceSub, Int.reduceMul, Int.reduceNeg, Int.reduceEq, Int.reduceLT, Int.reduceLE, Int.reduceNe, lcmp_z, lcmp_le, lcmp_ge, lcmp_lt, lcmp_gt, am_up_eq, am_up_nl, am_up_ni, decide_eq_true c2', gf_17, k0, k1, ra_1078, ra_1334, sa_1078, sa_1334, ui1, c3, eq_self]
    · rw [am_up_or _ _ _ _ _ _ (by omega), am_up_or _ _ _ _ _ _ (by omega)]
      exact hC L j z
    · obtain ⟨u1, u2⟩ := hU j j0 j1
      show am_up (am_up R 1078 i p) 1334 i q 1078 j = setp s.1 i p j ∧ am_up (am_up R 1078 i p) 1334 i q 1334 j = setp s.2 i q j
      unfold setp
      by_cases c : j = i
      · rw [if_pos c, if_pos c, c]
        simp (disch := omega) only [am_up_eq, am_up_nl, am_up_ni, and_self]
      · rw [if_neg c, if_neg c, am_up_nl _ _ _ _ _ _ (by omega), am_up_ni _ _ _ _ _ _ c, am_up_ni _ _ _ _ _ _ c, am_up_nl _ _ _ _ _ _ (by omega)]
        exact ⟨u1, u2⟩
  · rw [if_neg c3]
    by_cases c4 : s.1 i = p
    · by_cases c5 : s.2 i = q
      · rw [if_pos ⟨c4, c5⟩]
        refine ⟨1, R, ?_, hC, Or.inr ⟨s, rfl, rfl, hU⟩⟩
        simp (disch := omega) only [be_X7_rate_1, be_X7_rate_3, be_X7_rate_5, be_X7_rate_6, be_X7_rate_7, be_X7_rate_9, Option.bind_some, cond_true, cond_false, decide_true, decide_false, Bool.not_true, Bool.not_false, ite_true, ite_false, and_self, true_and, and_true, or_self, true_or, or_true, false_or, or_false, decide_eq_true_eq, Int.reduceAdd, Int.reduceSub, Int.reduceMul, Int.reduceNeg, Int.reduceEq, Int.reduceLT, Int.reduceLE, Int.reduceNe, lcmp_z, lcmp_le, lcmp_ge, lcmp_lt, lcmp_gt, decide_eq_true c2', gf_17, k0, k1, ra_1078, ra_1334, ui1, ui2, decide_eq_false c3, decide_eq_true c4, decide_eq_true c5]
      · rw [if_neg (fun z => c5 z.2)]
        refine ⟨0, R, ?_, hC, Or.inl ⟨rfl, rfl⟩⟩
        simp (disch := omega) only [be_X7_rate_1, be_X7_rate_3, be_X7_rate_5, be_X7_rate_6, be_X7_rate_8, be_X7_rate_9, Option.bind_some, cond_true, cond_false, decide_true, decide_false, Bool.not_true, Bool.not_false, ite_true, ite_false, and_self, true_and, and_true, or_self, true_or, or_true, false_or, or_false, decide_eq_true_eq, Int.reduceAdd, Int.reduceSub, Int.reduceMul, Int.reduceNeg, Int.reduceEq, Int.reduceLT, Int.reduceLE, Int.reduceNe, lcmp_z, lcmp_le, lcmp_ge, lcmp_lt, lcmp_gt, decide_eq_true c2', gf_17, k0, k1, ra_1078, ra_1334, ui1, ui2, decide_eq_false c3, decide_eq_true c4, decide_eq_false c5]
    · rw [if_neg (fun z => c4 z.1)]
      refine ⟨0, R, ?_, hC, Or.inl ⟨rfl, rfl⟩⟩
      simp (disch := omega) only [be_X7_rate_1, be_X7_rate_3, be_X7_rate_5, be_X7_rate_8, be_X7_rate_9, Option.bind_some, cond_true, cond_false, decide_true, decide_false, Bool.not_true, Bool.not_false, ite_true, ite_false, and_self, true_and, and_true, or_self, true_or, or_true, false_or, or_false, decide_eq_true_eq, Int.reduceAdd, Int.reduceSub, Int.reduceMul, Int.reduceNeg, Int.reduceEq, Int.reduceLT, Int.reduceLE, Int.reduceNe, lcmp_z, lcmp_le, lcmp_ge, lcmp_lt, lcmp_gt, decide_eq_true c2', gf_17, k0, ra_1078, ui1, decide_eq_false c3, decide_eq_false c4]
theorem wrt_sm {R0 R : am_M} (hC : smR R0 R) (f : Int) : wrt R f = wrt R0 f := by
  unfold wrt
  rw [hC 309 f (by omega), hC 565 f (by omega)]
theorem rin_sm {R0 R : am_M} (hC : smR R0 R) (h : rin R0) : rin R := by
  unfold rin
  rw [hC 17 1 (by omega), hC 17 2 (by omega), hC 17 12 (by omega), hC 17 13 (by omega), hC 17 50 (by omega), hC 17 51 (by omega), hC 17 52 (by omega), hC 17 54 (by omega)]
  exact h
theorem rf_r1 {R0 R : am_M} {b ps : Int} {s : UD} (hi : rin R0) (hw : bw R0 (R0 17 0) (R0 17 11)) (W1 : R0 17 0 ≤ 40) (B1 : R0 17 11 ≤ 60) (hC : smR R0 R) (hU : rowR R (R0 17 0) s) (hl : low (R0 17 0) s) (b0 : 0 ≤ b) (b1 : b < R0 17 11) : ∃ c R', am_ev am_PP nX7_findRates 12 [17, ps, b] [] R = am_ev am_PP nX7_findRates 21 [17, c, ps, b] [] R' ∧ smR R0 R' ∧ ((rt1 R0 b s = none ∧ c = 0) ∨ ∃ s', rt1 R0 b s = some s' ∧ c = 1 ∧ rowR R' (R0 17 0) s') := by
  obtain ⟨f0, f1, t0, t1, w0, w1⟩ := hw b b0 b1
  have lf := hl _ f0 f1
  have lt := hl _ t0 t1
  obtain ⟨uf1, uf2⟩ := hU _ f0 f1
  obtain ⟨ut1, ut2⟩ := hU _ t0 t1
  have hwr := rf_writes (rin_sm hC hi) (f := R0 61 b) f0 (by omega)
  rw [wrt_sm hC] at hwr
  obtain ⟨r1, r2, r12, r13, r50, r51, r52, r54⟩ := rin_sm hC hi
  have xf := hC 61 b (by omega)
  have xt := hC 317 b (by omega)
  unfold rt1
  generalize hwf : wrt R0 (R0 61 b) = wr at *
  generalize hf : R0 61 b = f at *
  generalize ht : R0 317 b = t at *
  by_cases c0 : wr ≤ 0
  · rw [if_pos c0]
    refine ⟨0, R, ?_, hC, Or.inl ⟨rfl, rfl⟩⟩
    simp (disch := omega) only [be_X7_findRates_12, be_X7_findRates_14, be_X7_findRates_15, be_X7_findRates_18, Option.bind_some, cond_true, cond_false, decide_true, decide_false, Bool.not_true, Bool.not_false, ite_true, ite_false, and_self, true_and, and_true, or_self, true_or, or_true, false_or, or_false, decide_eq_true_eq, Int.reduceAdd, Int.reduceSub, Int.reduceMul, Int.reduceNeg, Int.reduceEq, Int.reduceLT, Int.reduceLE, Int.reduceNe, lcmp_z, lcmp_le, lcmp_ge, lcmp_lt, lcmp_gt, gf_17, cls_17, r12, r13, ra_61, ra_317, xf, xt, hwr, decide_eq_true c0]
  rw [if_neg c0]
  have e12 : am_ev am_PP nX7_findRates 12 [17, ps, b] [] R = bif decide (s.1 f ≤ 0) then am_ev am_PP nX7_findRates 19 [17, 1, ps, b, f, t, wr] [] R else am_ev am_PP nX7_findRates 17 [17, ps, b, f, t, wr] [] R := by
    by_cases z : s.1 f ≤ 0
    · simp (disch := omega) only [be_X7_findRates_12, be_X7_findRates_13, be_X7_findRates_15, be_X7_findRates_16, be_X7_findRates_18, Option.bind_some, cond_true, cond_false, decide_true, decide_false, Bool.not_true, Bool.not_false, ite_true, ite_false, and_self, true_and, and_true, or_self, true_or, or_true, false_or, or_false, decide_eq_true_eq, Int.reduceAdd, Int.reduceSub, Int.reduceMul, Int.reduceNeg, Int.reduceEq, Int.reduceLT, Int.reduceLE, Int.reduceNe, lcmp_z, lcmp_le, lcmp_ge, lcmp_lt, lcmp_gt, gf_17, cls_17, r12, r13, r50, ra_61, ra_317, ra_1078, xf, xt, hwr, decide_eq_false c0, uf1, decide_eq_true z]
    · simp (disch := omega) only [be_X7_findRates_12, be_X7_findRates_13, be_X7_findRates_15, be_X7_findRates_16, Option.bind_some, cond_true, cond_false, decide_true, decide_false, Bool.not_true, Bool.not_false, ite_true, ite_false, and_self, true_and, and_true, or_self, true_or, or_true, false_or, or_false, decide_eq_true_eq, Int.reduceAdd, Int.reduceSub, Int.reduceMul, Int.reduceNeg, Int.reduceEq, Int.reduceLT, Int.reduceLE, Int.reduceNe, lcmp_z, lcmp_le, lcmp_ge, lcmp_lt, lcmp_gt, gf_17, cls_17, r12, r13, r50, ra_61, ra_317, ra_1078, xf, xt, hwr, decide_eq_false c0, uf1, decide_eq_false z]
  rw [e12]
  by_cases cf : 0 < s.1 f
  · rw [if_pos cf, decide_eq_false (by omega), cond_false]
    obtain ⟨m1, m2⟩ := mul_b lf.1 lf.2.1 w0 w1
    obtain ⟨c, R', a1, a2, a3⟩ := rf_rate (i := t) (fr := f) (a := wr) (b := 1) (x := s.1 f * wr) (y := s.2 f) hi W1 hC hU t0 t1 f0 f1 rfl (Int.mul_one _) (Int.mul_pos cf (by omega)) m2 (by omega) (by omega)
    refine ⟨c, R', ?_, a2, a3⟩
    clear a3
    simp (disch := omega) only [be_X7_findRates_17, Option.bind_some, cond_true, cond_false, decide_true, decide_false, Bool.not_true, Bool.not_false, ite_true, ite_false, and_self, true_and, and_true, or_self, true_or, or_true, false_or, or_false, decide_eq_true_eq, Int.reduceAdd, Int.reduceSub, Int.reduceMul, Int.reduceNeg, Int.reduceEq, Int.reduceLT, Int.reduceLE, Int.reduceNe, lcmp_z, lcmp_le, lcmp_ge, lcmp_lt, lcmp_gt, cls_17, a1]
  · rw [if_neg cf, decide_eq_true (by omega), cond_true]
    by_cases ct : 0 < s.1 t
    · have ct' : ¬ s.1 t ≤ 0 := by omega
      rw [if_pos ct]
      obtain ⟨m1, m2⟩ := mul_b (show 0 ≤ s.2 t by omega) lt.2.2.2.1 w0 w1
      obtain ⟨c, R', a1, a2, a3⟩ := rf_rate (i := f) (fr := t) (a := 1) (b := wr) (x := s.1 t) (y := s.2 t * wr) hi W1 hC hU f0 f1 t0 t1 (Int.mul_one _) rfl ct (by omega) (Int.mul_pos (by omega) (by omega)) m2
      refine ⟨c, R', ?_, a2, a3⟩
      clear a3
      simp (disch := omega) only [be_X7_findRates_19, be_X7_findRates_20, Option.bind_some, cond_true, cond_false, decide_true, decide_false, Bool.not_true, Bool.not_false, ite_true, ite_false, and_self, true_and, and_true, or_self, true_or, or_true, false_or, or_false, decide_eq_true_eq, Int.reduceAdd, Int.reduceSub, Int.reduceMul, Int.reduceNeg, Int.reduceEq, Int.reduceLT, Int.reduceLE, Int.reduceNe, lcmp_z, lcmp_le, lcmp_ge, lcmp_lt, lcmp_gt, gf_17, cls_17, r50, ra_1078, ut1, decide_eq_false ct', a1]
    · have ct' : s.1 t ≤ 0 := by omega
      rw [if_neg ct]
      refine ⟨1, R, ?_, hC, Or.inr ⟨s, rfl, rfl, hU⟩⟩
      simp (disch := omega) only [be_X7_findRates_19, Option.bind_some, cond_true, cond_false, decide_true, decide_false, Bool.not_true, Bool.not_false, ite_true, ite_false, and_self, true_and, and_true, or_self, true_or, or_true, false_or, or_false, decide_eq_true_eq, Int.reduceAdd, Int.reduceSub, Int.reduceMul, Int.reduceNeg, Int.reduceEq, Int.reduceLT, Int.reduceLE, Int.reduceNe, lcmp_z, lcmp_le, lcmp_ge, lcmp_lt, lcmp_gt, gf_17, r50, ra_1078, ut1, decide_eq_true ct']
theorem rf_sb {R0 : am_M} {ps : Int} (hi : rin R0) (hw : bw R0 (R0 17 0) (R0 17 11)) (W1 : R0 17 0 ≤ 40) (B1 : R0 17 11 ≤ 60) : ∀ (n : Nat) (b : Int) (R : am_M) (s : UD), 0 ≤ b → b + n = R0 17 11 → smR R0 R → rowR R (R0 17 0) s → low (R0 17 0) s → ∃ c R', am_ev am_PP nX7_findRates 10 [17, 1, ps, b] [] R = am_ev am_PP nX7_findRates 22 [17, c, ps] [] R' ∧ smR R0 R' ∧ ((rtb' R0 n b s = none ∧ c = 0) ∨ ∃ s', rtb' R0 n b s = some s' ∧ c = 1 ∧ rowR R' (R0 17 0) s') := by
  intro n
  induction n with
  | zero =>
    intro b R s b0 hn hC hU hl
    have w := hC 17 11 (by omega)
    refine ⟨1, R, ?_, hC, Or.inr ⟨s, rfl, rfl, hU⟩⟩
    simp (disch := omega) only [be_X7_findRates_10, Option.bind_some, cond_true, cond_false, decide_true, decide_false, Bool.not_true, Bool.not_false, ite_true, ite_false, and_self, true_and, and_true, or_self, true_or, or_true, false_or, or_false, decide_eq_true_eq, Int.reduceAdd, Int.reduceSub, Int.reduceMul, Int.reduceNeg, Int.reduceEq, Int.reduceLT, Int.reduceLE, Int.reduceNe, lcmp_z, lcmp_le, lcmp_ge, lcmp_lt, lcmp_gt, decide_eq_true, decide_eq_false, if_pos, if_neg, gf_17, w]
  | succ n ih =>
    intro b R s b0 hn hC hU hl
    have w := hC 17 11 (by omega)
    obtain ⟨c, R1, a1, a2, a3⟩ := rf_r1 (ps := ps) hi hw W1 B1 hC hU hl b0 (by omega)
    have e1 : am_ev am_PP nX7_findRates 10 [17, 1, ps, b] [] R = am_ev am_PP nX7_findRates 10 [17, c, ps, b + 1] [] R1 := by
      have : am_ev am_PP nX7_findRates 10 [17, 1, ps, b] [] R = am_ev am_PP nX7_findRates 12 [17, ps, b] [] R := by
        clear a3
        simp (disch := omega) only [be_X7_findRates_10, be_X7_findRates_11, Option.bind_some, cond_true, cond_false, decide_true, decide_false, Bool.not_true, Bool.not_false, ite_true, ite_false, and_self, true_and, and_true, or_self, true_or, or_true, false_or, or_false, decide_eq_true_eq, Int.reduceAdd, Int.reduceSub, Int.reduceMul, Int.reduceNeg, Int.reduceEq, Int.reduceLT, Int.reduceLE, Int.reduceNe, lcmp_z, lcmp_le, lcmp_ge, lcmp_lt, lcmp_gt, decide_eq_true, decide_eq_false, if_pos, if_neg, gf_17, w]
      rw [this, a1, be_X7_findRates_21, am_w32_ok _ (by omega) (by omega)]
    show ∃ c R', _ ∧ _ ∧ (((rt1 R0 b s).bind (fun s' => rtb' R0 n (b + 1) s') = none ∧ _) ∨ ∃ s', (rt1 R0 b s).bind (fun s' => rtb' R0 n (b + 1) s') = some s' ∧ _ ∧ _)
    rcases a3 with ⟨a3, a4⟩ | ⟨s1, a3, a4, a5⟩
    · subst a4
      have w1 := a2 17 11 (by omega)
      refine ⟨0, R1, ?_, a2, Or.inl ⟨by rw [a3]; rfl, rfl⟩⟩
      rw [e1]
      by_cases z : R0 17 11 ≤ b + 1
      · simp (disch := omega) only [be_X7_findRates_10, Option.bind_some, cond_true, cond_false, decide_true, decide_false, Bool.not_true, Bool.not_false, ite_true, ite_false, and_self, true_and, and_true, or_self, true_or, or_true, false_or, or_false, decide_eq_true_eq, Int.reduceAdd, Int.reduceSub, Int.reduceMul, Int.reduceNeg, Int.reduceEq, Int.reduceLT, Int.reduceLE, Int.reduceNe, lcmp_z, lcmp_le, lcmp_ge, lcmp_lt, lcmp_gt, decide_eq_true, decide_eq_false, if_pos, if_neg, gf_17, w1]
      · simp (disch := omega) only [be_X7_findRates_10, be_X7_findRates_11, Option.bind_some, cond_true, cond_false, decide_true, decide_false, Bool.not_true, Bool.not_false, ite_true, ite_false, and_self, true_and, and_true, or_self, true_or, or_true, false_or, or_false, decide_eq_true_eq, Int.reduceAdd, Int.reduceSub, Int.reduceMul, Int.reduceNeg, Int.reduceEq, Int.reduceLT, Int.reduceLE, Int.reduceNe, lcmp_z, lcmp_le, lcmp_ge, lcmp_lt, lcmp_gt, decide_eq_true, decide_eq_false, if_pos, if_neg, gf_17, w1]
    · subst a4
      have hl1 := (sp1_ok hw b0 (by omega) hl (rt1_sp1 hw b0 (by omega) hl a3)).1
      obtain ⟨c', R', k1, k2, k3⟩ := ih (b + 1) R1 s1 (by omega) (by omega) a2 a5 hl1
      refine ⟨c', R', by rw [e1, k1], k2, ?_⟩
      rw [a3]
      exact k3
theorem rf_sn {R0 : am_M} (hi : rin R0) (hw : bw R0 (R0 17 0) (R0 17 11)) (W1 : R0 17 0 ≤ 40) (B0 : 0 ≤ R0 17 11) (B1 : R0 17 11 ≤ 60) : ∀ (n : Nat) (ps : Int) (R : am_M) (s : UD), 0 ≤ ps → ps + n = R0 17 0 + 1 → smR R0 R → rowR R (R0 17 0) s → low (R0 17 0) s → ∃ c R', am_ev am_PP nX7_findRates 7 [17, 1, ps] [] R = some (c, R') ∧ smR R0 R' ∧ ((rtn' R0 (R0 17 11).toNat n s = none ∧ c = 0) ∨ ∃ s', rtn' R0 (R0 17 11).toNat n s = some s' ∧ c = 1 ∧ rowR R' (R0 17 0) s') := by
  intro n
  induction n with
  | zero =>
    intro ps R s p0 hn hC hU hl
    have w := hC 17 0 (by omega)
    refine ⟨1, R, ?_, hC, Or.inr ⟨s, rfl, rfl, hU⟩⟩
    simp (disch := omega) only [be_X7_findRates_7, be_X7_findRates_23, Option.bind_some, cond_true, cond_false, decide_true, decide_false, Bool.not_true, Bool.not_false, ite_true, ite_false, and_self, true_and, and_true, or_self, true_or, or_true, false_or, or_false, decide_eq_true_eq, Int.reduceAdd, Int.reduceSub, Int.reduceMul, Int.reduceNeg, Int.reduceEq, Int.reduceLT, Int.reduceLE, Int.reduceNe, lcmp_z, lcmp_le, lcmp_ge, lcmp_lt, lcmp_gt, decide_eq_true, decide_eq_false, if_pos, if_neg, gf_17, w]
  | succ n ih =>
    intro ps R s p0 hn hC hU hl
    have w := hC 17 0 (by omega)
    obtain ⟨c, R1, a1, a2, a3⟩ := rf_sb (ps := ps) hi hw W1 B1 (R0 17 11).toNat 0 R s (by omega) (by omega) hC hU hl
    have hBB : (((R0 17 11).toNat : Nat) : Int) = R0 17 11 := by omega
    have e1 : am_ev am_PP nX7_findRates 7 [17, 1, ps] [] R = am_ev am_PP nX7_findRates 7 [17, c, ps + 1] [] R1 := by
      have : am_ev am_PP nX7_findRates 7 [17, 1, ps] [] R = am_ev am_PP nX7_findRates 10 [17, 1, ps, 0] [] R := by
        clear a3
        simp (disch := omega) only [be_X7_findRates_7, be_X7_findRates_8, be_X7_findRates_9, Option.bind_some, cond_true, cond_false, decide_true, decide_false, Bool.not_true, Bool.not_false, ite_true, ite_false, and_self, true_and, and_true, or_self, true_or, or_true, false_or, or_false, decide_eq_true_eq, Int.reduceAdd, Int.reduceSub, Int.reduceMul, Int.reduceNeg, Int.reduceEq, Int.reduceLT, Int.reduceLE, Int.reduceNe, lcmp_z, lcmp_le, lcmp_ge, lcmp_lt, lcmp_gt, decide_eq_true, decide_eq_false, if_pos, if_neg, gf_17, w]
      rw [this, a1, be_X7_findRates_22, am_w32_ok _ (by omega) (by omega)]
    show ∃ c R', _ ∧ _ ∧ (((rtb' R0 (R0 17 11).toNat 0 s).bind (fun s' => rtn' R0 (R0 17 11).toNat n s') = none ∧ _) ∨ ∃ s', (rtb' R0 (R0 17 11).toNat 0 s).bind (fun s' => rtn' R0 (R0 17 11).toNat n s') = some s' ∧ _ ∧ _)
    rcases a3 with ⟨a3, a4⟩ | ⟨s1, a3, a4, a5⟩
    · subst a4
      have w1 := a2 17 0 (by omega)
      refine ⟨0, R1, ?_, a2, Or.inl ⟨by rw [a3]; rfl, rfl⟩⟩
      rw [e1]
      by_cases z : R0 17 0 < ps + 1
      · simp (disch := omega) only [be_X7_findRates_7, be_X7_findRates_23, Option.bind_some, cond_true, cond_false, decide_true, decide_false, Bool.not_true, Bool.not_false, ite_true, ite_false, and_self, true_and, and_true, or_self, true_or, or_true, false_or, or_false, decide_eq_true_eq, Int.reduceAdd, Int.reduceSub, Int.reduceMul, Int.reduceNeg, Int.reduceEq, Int.reduceLT, Int.reduceLE, Int.reduceNe, lcmp_z, lcmp_le, lcmp_ge, lcmp_lt, lcmp_gt, decide_eq_true, decide_eq_false, if_pos, if_neg, gf_17, w1]
      · simp (disch := omega) only [be_X7_findRates_7, be_X7_findRates_8, be_X7_findRates_23, Option.bind_some, cond_true, cond_false, decide_true, decide_false, Bool.not_true, Bool.not_false, ite_true, ite_false, and_self, true_and, and_true, or_self, true_or, or_true, false_or, or_false, decide_eq_true_eq, Int.reduceAdd, Int.reduceSub, Int.reduceMul, Int.reduceNeg, Int.reduceEq, Int.reduceLT, Int.reduceLE, Int.reduceNe, lcmp_z, lcmp_le, lcmp_ge, lcmp_lt, lcmp_gt, decide_eq_true, decide_eq_false, if_pos, if_neg, gf_17, w1]
    · subst a4
      have hl1 := (spb_ok hw _ 0 s s1 (by omega) (by omega) hl (rtb_spb hw _ 0 s s1 (by omega) (by omega) hl a3)).1
      obtain ⟨c', R', k1, k2, k3⟩ := ih (ps + 1) R1 s1 (by omega) (by omega) a2 a5 hl1
      refine ⟨c', R', by rw [e1, k1], k2, ?_⟩
      rw [a3]
      exact k3
theorem rf_si {R0 : am_M} {P : Int → Int} (hi : rin R0) (W1 : R0 17 0 ≤ 40) (hP : ∀ i, 0 ≤ i → i < R0 17 0 → R0 3381 i = P i) : ∀ (n : Nat) (i : Int) (R : am_M), 0 ≤ i → i + n = R0 17 0 → smR R0 R → (∀ j, 0 ≤ j → j < i → R 1078 j = (s0 P).1 j ∧ R 1334 j = (s0 P).2 j) → ∃ R', am_ev am_PP nX7_findRates 1 [17, i] [] R = am_ev am_PP nX7_findRates 7 [17, 1, 0] [] R' ∧ smR R0 R' ∧ rowR R' (R0 17 0) (s0 P) := by
  intro n
  induction n with
  | zero =>
    intro i R i0 hn hC hU
    have w := hC 17 0 (by omega)
    refine ⟨R, ?_, hC, fun j a b => hU j a (by omega)⟩
    simp (disch := omega) only [be_X7_findRates_1, be_X7_findRates_6, Option.bind_some, cond_true, cond_false, decide_true, decide_false, Bool.not_true, Bool.not_false, ite_true, ite_false, and_self, true_and, and_true, or_self, true_or, or_true, false_or, or_false, decide_eq_true_eq, Int.reduceAdd, Int.reduceSub, Int.reduceMul, Int.reduceNeg, Int.reduceEq, Int.reduceLT, Int.reduceLE, Int.reduceNe, lcmp_z, lcmp_le, lcmp_ge, lcmp_lt, lcmp_gt, decide_eq_true, decide_eq_false, if_pos, if_neg, gf_17, w]
  | succ n ih =>
    intro i R i0 hn hC hU
    have w := hC 17 0 (by omega)
    obtain ⟨r1, r2, r12, r13, r50, r51, r52, r54⟩ := rin_sm hC hi
    have kp := (hC 3381 i (by omega)).trans (hP i i0 (by omega))
    obtain ⟨v, hv⟩ : ∃ v, v = (if P i = i then (1 : Int) else 0) := ⟨_, rfl⟩
    obtain ⟨R', m1, m2, m3⟩ := ih (i + 1) (am_up (am_up R 1078 i v) 1334 i 1) (by omega) (by omega) (fun L j q => by
      rw [am_up_or _ _ _ _ _ _ (by omega), am_up_or _ _ _ _ _ _ (by omega)]
      exact hC L j q) (fun j a b => by
      by_cases e : j = i
      · subst e
        show _ = (if P j = j then (1 : Int) else 0) ∧ _ = (1 : Int)
        rw [← hv]
        simp (disch := omega) only [am_up_eq, am_up_nl, am_up_ni, and_self]
      · rw [am_up_nl _ _ _ _ _ _ (by omega), am_up_ni _ _ _ _ _ _ e, am_up_ni _ _ _ _ _ _ e, am_up_nl _ _ _ _ _ _ (by omega)]
        exact hU j a (by omega))
    refine ⟨R', ?_, m2, m3⟩
    rw [← m1]
    have e : am_ev am_PP nX7_findRates 1 [17, i] [] R = am_ev am_PP nX7_findRates 2 [17, i] [] R := by
      clear hv
      simp (disch := omega) only [be_X7_findRates_1, Option.bind_some, cond_true, cond_false, decide_true, decide_false, Bool.not_true, Bool.not_false, ite_true, ite_false, and_self, true_and, and_true, or_self, true_or, or_true, false_or, or_false, decide_eq_true_eq, Int.reduceAdd, Int.reduceSub, Int.reduceMul, Int.reduceNeg, Int.reduceEq, Int.reduceLT, Int.reduceLE, Int.reduceNe, lcmp_z, lcmp_le, lcmp_ge, lcmp_lt, lcmp_gt, decide_eq_true, decide_eq_false, if_pos, if_neg, gf_17, w]
    rw [e]
    by_cases c : P i = i
    · rw [hv, if_pos c]
      clear hv
      simp (disch := omega) only [be_X7_findRates_2, be_X7_findRates_3, be_X7_findRates_5, Option.bind_some, cond_true, cond_false, decide_true, decide_false, Bool.not_true, Bool.not_false, ite_true, ite_false, and_self, true_and, and_true, or_self, true_or, or_true, false_or, or_false, decide_eq_true_eq, Int.reduceAdd, Int.reduceSub, Int.reduceMul, Int.reduceNeg, Int.reduceEq, Int.reduceLT, Int.reduceLE, Int.reduceNe, lcmp_z, lcmp_le, lcmp_ge, lcmp_lt, lcmp_gt, am_up_eq, am_up_nl, am_up_ni, gf_17, r50, r51, r52, ra_3381, kp, c, sa_1078, sa_1334, am_w32_ok]
    · rw [hv, if_neg c]
      clear hv
      simp (disch := omega) only [be_X7_findRates_2, be_X7_findRates_4, be_X7_findRates_5, Option.bind_some, cond_true, cond_false, decide_true, decide_false, Bool.not_true, Bool.not_false, ite_true, ite_false, and_self, true_and, and_true, or_self, true_or, or_true, false_or, or_false, decide_eq_true_eq, Int.reduceAdd, Int.reduceSub, Int.reduceMul, Int.reduceNeg, Int.reduceEq, Int.reduceLT, Int.reduceLE, Int.reduceNe, lcmp_z, lcmp_le, lcmp_ge, lcmp_lt, lcmp_gt, am_up_eq, am_up_nl, am_up_ni, gf_17, r50, r51, r52, ra_3381, kp, decide_eq_false c, sa_1078, sa_1334, am_w32_ok]
theorem rf_findRates {R : am_M} {P : Int → Int} (hi : rin R) (hw : bw R (R 17 0) (R 17 11)) (W0 : 0 ≤ R 17 0) (W1 : R 17 0 ≤ 40) (B0 : 0 ≤ R 17 11) (B1 : R 17 11 ≤ 60) (hP : ∀ i, 0 ≤ i → i < R 17 0 → R 3381 i = P i) : ∃ c R', am_evm am_PP nX7_findRates [(2, 17)] R = some (c, R') ∧ smR R R' ∧ ((rtn' R (R 17 11).toNat ((R 17 0).toNat + 1) (s0 P) = none ∧ c = 0) ∨ ∃ s', rtn' R (R 17 11).toNat ((R 17 0).toNat + 1) (s0 P) = some s' ∧ c = 1 ∧ rowR R' (R 17 0) s') := by
  obtain ⟨R1, a1, a2, a3⟩ := rf_si hi W1 hP (R 17 0).toNat 0 R (by omega) (by omega) (fun _ _ _ => rfl) (fun j p q => by omega)
  obtain ⟨c, R2, b1, b2, b3⟩ := rf_sn hi hw W1 B0 B1 ((R 17 0).toNat + 1) 0 R1 (s0 P) (by omega) (by omega) a2 a3 (low_s0 P _)
  refine ⟨c, R2, ?_, b2, b3⟩
  rw [← b1, ← a1]
  simp (disch := omega) only [be_X7_findRates_m, be_X7_findRates_0]
