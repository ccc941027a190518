/-! firings: the least common multiple, and what each weaver fires -/
def lcf (P D : Int → Int) (r : Int) : Nat → Int → Int → Option Int
  | 0, _, a => some a
  | n + 1, i, a => if P i = r then (if 1000000 < a / gd a (D i) * D i then none else lcf P D r n (i + 1) (a / gd a (D i) * D i)) else lcf P D r n (i + 1) a
/-- what both have before them -/
def hpu (C : am_M) (W : Int) (P D : Int → Int) : Prop := C 12 0 = 53 ∧ C 12 1 = 54 ∧ C 12 2 = 310 ∧ ∀ j, 0 ≤ j → j < W → C 53 j = P j ∧ C 310 j = D j
def rpu (R : am_M) (P U D : Int → Int) : Prop := R 17 52 = 3381 ∧ R 17 50 = 1078 ∧ R 17 51 = 1334 ∧ R 17 54 = 1590 ∧ ∀ j, 0 ≤ j → j < R 17 0 → R 3381 j = P j ∧ R 1078 j = U j ∧ R 1334 j = D j
theorem lc_b {a d : Int} (a0 : 1 ≤ a) (a1 : a ≤ 1000000) (d0 : 1 ≤ d) (d1 : d ≤ 1000000) : 0 < gd a d ∧ 1 ≤ a / gd a d ∧ a / gd a d ≤ 1000000 ∧ 1 ≤ a / gd a d * d ∧ a / gd a d * d ≤ 1000000000000 := by
  have g0 := gd_pos (x := a) (y := d) (Or.inl (by omega))
  have h1 : 1 ≤ a / gd a d := by
    rw [div_nat (by omega)]
    have : 0 < a.toNat / Nat.gcd a.toNat d.toNat := Nat.div_pos (Nat.gcd_le_left _ (by omega)) (Nat.gcd_pos_of_pos_left _ (by omega))
    omega
  have h2 : a / gd a d ≤ a := Int.ediv_le_self _ (by omega)
  have h3 : a / gd a d * d ≤ 1000000 * 1000000 := Int.mul_le_mul (by omega) d1 (by omega) (by omega)
  have h4 := Int.mul_pos (show 0 < a / gd a d by omega) (show 0 < d by omega)
  exact ⟨g0, h1, by omega, by omega, by omega⟩
theorem cl_lc {C : am_M} {W r : Int} {P D : Int → Int} (hC : hpu C W P D) (W1 : W ≤ 40) (r0 : 0 ≤ r) (hD : ∀ j, 0 ≤ j → j < W → 1 ≤ D j ∧ D j ≤ 1000000) : ∀ (n : Nat) (i a : Int), r ≤ i → i + n = W → 1 ≤ a → a ≤ 1000000 → (lcf P D r n i a = none ∧ am_ev am_PP nX2_makePartWhole 1 [12, r, W, a, i] [] C = some (0, C)) ∨ ∃ a', lcf P D r n i a = some a' ∧ 1 ≤ a' ∧ a' ≤ 1000000 ∧ am_ev am_PP nX2_makePartWhole 1 [12, r, W, a, i] [] C = am_ev am_PP nX2_makePartWhole 11 [12, r, W, a', r] [] C := by
  obtain ⟨g0, g1, g2, g3⟩ := hC
  intro n
  induction n with
  | zero =>
    intro i a i0 hn a0 a1
    refine Or.inr ⟨a, rfl, a0, a1, ?_⟩
    simp (disch := omega) only [be_X2_makePartWhole_1, be_X2_makePartWhole_10, Option.bind_some, cond_true, cond_false, decide_true, decide_false, Bool.not_true, Bool.not_false, ite_true, ite_false, and_self, true_and, and_true, or_self, true_or, or_true, false_or, or_false, decide_eq_true_eq, Int.reduceAdd, Int.reduceSub, Int.reduceMul, Int.reduceNeg, Int.reduceEq, Int.reduceLT, Int.reduceLE, Int.reduceNe, lcmp_z, lcmp_le, lcmp_ge, lcmp_lt, lcmp_gt, decide_eq_true, decide_eq_false, if_pos, if_neg]
  | succ n ih =>
    intro i a i0 hn a0 a1
    obtain ⟨x1, x2⟩ := g3 i (by omega) (by omega)
    obtain ⟨d0, d1⟩ := hD i (by omega) (by omega)
    have e1 : am_ev am_PP nX2_makePartWhole 1 [12, r, W, a, i] [] C = am_ev am_PP nX2_makePartWhole 2 [12, r, W, a, i] [] C := by
      simp (disch := omega) only [be_X2_makePartWhole_1, Option.bind_some, cond_true, cond_false, decide_true, decide_false, Bool.not_true, Bool.not_false, ite_true, ite_false, and_self, true_and, and_true, or_self, true_or, or_true, false_or, or_false, decide_eq_true_eq, Int.reduceAdd, Int.reduceSub, Int.reduceMul, Int.reduceNeg, Int.reduceEq, Int.reduceLT, Int.reduceLE, Int.reduceNe, lcmp_z, lcmp_le, lcmp_ge, lcmp_lt, lcmp_gt, decide_eq_true, decide_eq_false, if_pos, if_neg]
    have el : lcf P D r (n + 1) i a = if P i = r then (if 1000000 < a / gd a (D i) * D i then none else lcf P D r n (i + 1) (a / gd a (D i) * D i)) else lcf P D r n (i + 1) a := rfl
    rw [e1, el]
    by_cases c : P i = r
    · rw [if_pos c]
      obtain ⟨p1, p2, p3, p4, p5⟩ := lc_b a0 a1 d0 d1
      have hg := cl_gd C (x := a) (y := D i) (by omega) (by omega) (by omega)
      have dv := ldiv_ok (x := a) (g := gd a (D i)) (by omega) (by omega) p1
      have cg : ¬ gd a (D i) = 0 := by omega
      have e7 : am_ev am_PP nX2_makePartWhole 2 [12, r, W, a, i] [] C = am_ev am_PP nX2_makePartWhole 7 [12, r, W, a / gd a (D i) * D i, i] [] C := by
        clear ih el
        generalize hq : a / gd a (D i) * D i = q at *
        generalize hz : a / gd a (D i) = z at *
        simp (disch := omega) only [be_X2_makePartWhole_2, be_X2_makePartWhole_3, be_X2_makePartWhole_5, be_X2_makePartWhole_6, Option.bind_some, cond_true, cond_false, decide_true, decide_false, Bool.not_true, Bool.not_false, ite_true, ite_false, and_self, true_and, and_true, or_self, true_or, or_true, false_or, or_false, decide_eq_true_eq, Int.reduceAdd, Int.reduceSub, Int.reduceMul, Int.reduceNeg, Int.reduceEq, Int.reduceLT, Int.reduceLE, Int.reduceNe, lcmp_z, lcmp_le, lcmp_ge, lcmp_lt, lcmp_gt, gf_12, g0, g2, ra_53, ra_310, x1, x2, decide_eq_true c, hg, decide_eq_false cg, dv, hq, am_w64_ok]
      rw [e7]
      generalize a / gd a (D i) * D i = q at *
      by_cases c1 : 1000000 < q
      · have c1' : ¬ q ≤ 1000000 := by omega
        rw [if_pos c1]
        refine Or.inl ⟨rfl, ?_⟩
        simp (disch := omega) only [be_X2_makePartWhole_7, be_X2_makePartWhole_8, Option.bind_some, cond_true, cond_false, decide_true, decide_false, Bool.not_true, Bool.not_false, ite_true, ite_false, and_self, true_and, and_true, or_self, true_or, or_true, false_or, or_false, decide_eq_true_eq, Int.reduceAdd, Int.reduceSub, Int.reduceMul, Int.reduceNeg, Int.reduceEq, Int.reduceLT, Int.reduceLE, Int.reduceNe, lcmp_z, lcmp_le, lcmp_ge, lcmp_lt, lcmp_gt, decide_eq_false c1']
      · have c1' : q ≤ 1000000 := by omega
        rw [if_neg c1]
        have e9 : am_ev am_PP nX2_makePartWhole 7 [12, r, W, q, i] [] C = am_ev am_PP nX2_makePartWhole 1 [12, r, W, q, i + 1] [] C := by
          simp (disch := omega) only [be_X2_makePartWhole_7, be_X2_makePartWhole_9, Option.bind_some, cond_true, cond_false, decide_true, decide_false, Bool.not_true, Bool.not_false, ite_true, ite_false, and_self, true_and, and_true, or_self, true_or, or_true, false_or, or_false, decide_eq_true_eq, Int.reduceAdd, Int.reduceSub, Int.reduceMul, Int.reduceNeg, Int.reduceEq, Int.reduceLT, Int.reduceLE, Int.reduceNe, lcmp_z, lcmp_le, lcmp_ge, lcmp_lt, lcmp_gt, decide_eq_true c1', am_w32_ok]
        rw [e9]
        exact ih (i + 1) q (by omega) (by omega) p4 c1'
    · rw [if_neg c]
      have e9 : am_ev am_PP nX2_makePartWhole 2 [12, r, W, a, i] [] C = am_ev am_PP nX2_makePartWhole 1 [12, r, W, a, i + 1] [] C := by
        simp (disch := omega) only [be_X2_makePartWhole_2, be_X2_makePartWhole_4, be_X2_makePartWhole_5, be_X2_makePartWhole_7, be_X2_makePartWhole_9, Option.bind_some, cond_true, cond_false, decide_true, decide_false, Bool.not_true, Bool.not_false, ite_true, ite_false, and_self, true_and, and_true, or_self, true_or, or_true, false_or, or_false, decide_eq_true_eq, Int.reduceAdd, Int.reduceSub, Int.reduceMul, Int.reduceNeg, Int.reduceEq, Int.reduceLT, Int.reduceLE, Int.reduceNe, lcmp_z, lcmp_le, lcmp_ge, lcmp_lt, lcmp_gt, decide_eq_true, decide_eq_false, if_pos, if_neg, gf_12, g0, ra_53, x1, decide_eq_false c, am_w32_ok]
      rw [e9]
      exact ih (i + 1) a (by omega) (by omega) a0 a1
theorem rf_lc {R : am_M} {r : Int} {P U D : Int → Int} (hC : rpu R P U D) (W1 : R 17 0 ≤ 40) (hD : ∀ j, 0 ≤ j → j < R 17 0 → 1 ≤ D j ∧ D j ≤ 1000000) : ∀ (n : Nat) (i a : Int), 0 ≤ i → i + n = R 17 0 → 1 ≤ a → a ≤ 1000000 → (lcf P D r n i a = none ∧ ∃ z, am_ev am_PP nX7_findFirings 6 [17, 1, r, a, i] [] R = am_ev am_PP nX7_findFirings 14 [17, 0, r, z] [] R) ∨ ∃ a', lcf P D r n i a = some a' ∧ am_ev am_PP nX7_findFirings 6 [17, 1, r, a, i] [] R = am_ev am_PP nX7_findFirings 14 [17, 1, r, a'] [] R := by
  obtain ⟨g0, g1, g2, g3, g4⟩ := hC
  intro n
  induction n with
  | zero =>
    intro i a i0 hn a0 a1
    refine Or.inr ⟨a, rfl, ?_⟩
    simp (disch := omega) only [be_X7_findFirings_6, Option.bind_some, cond_true, cond_false, decide_true, decide_false, Bool.not_true, Bool.not_false, ite_true, ite_false, and_self, true_and, and_true, or_self, true_or, or_true, false_or, or_false, decide_eq_true_eq, Int.reduceAdd, Int.reduceSub, Int.reduceMul, Int.reduceNeg, Int.reduceEq, Int.reduceLT, Int.reduceLE, Int.reduceNe, lcmp_z, lcmp_le, lcmp_ge, lcmp_lt, lcmp_gt, decide_eq_true, decide_eq_false, if_pos, if_neg, gf_17]
  | succ n ih =>
    intro i a i0 hn a0 a1
    obtain ⟨x1, x2, x3⟩ := g4 i (by omega) (by omega)
    obtain ⟨d0, d1⟩ := hD i (by omega) (by omega)
    have e1 : am_ev am_PP nX7_findFirings 6 [17, 1, r, a, i] [] R = am_ev am_PP nX7_findFirings 8 [17, 1, r, a, i] [] R := by
      simp (disch := omega) only [be_X7_findFirings_6, be_X7_findFirings_7, Option.bind_some, cond_true, cond_false, decide_true, decide_false, Bool.not_true, Bool.not_false, ite_true, ite_false, and_self, true_and, and_true, or_self, true_or, or_true, false_or, or_false, decide_eq_true_eq, Int.reduceAdd, Int.reduceSub, Int.reduceMul, Int.reduceNeg, Int.reduceEq, Int.reduceLT, Int.reduceLE, Int.reduceNe, lcmp_z, lcmp_le, lcmp_ge, lcmp_lt, lcmp_gt, decide_eq_true, decide_eq_false, if_pos, if_neg, gf_17]
    have el : lcf P D r (n + 1) i a = if P i = r then (if 1000000 < a / gd a (D i) * D i then none else lcf P D r n (i + 1) (a / gd a (D i) * D i)) else lcf P D r n (i + 1) a := rfl
    rw [e1, el]
    by_cases c : P i = r
    · rw [if_pos c]
      obtain ⟨p1, p2, p3, p4, p5⟩ := lc_b a0 a1 d0 d1
      have hg := rf_common R (x := a) (y := D i) (by omega) (by omega)
      have dv := ldiv_ok (x := a) (g := gd a (D i)) (by omega) (by omega) p1
      have e7 : am_ev am_PP nX7_findFirings 8 [17, 1, r, a, i] [] R = bif decide (1000000 < a / gd a (D i) * D i) then am_ev am_PP nX7_findFirings 11 [17, r, a / gd a (D i) * D i, i] [] R else am_ev am_PP nX7_findFirings 10 [17, r, a / gd a (D i) * D i, i] [] R := by
        clear ih el
        generalize hq : a / gd a (D i) * D i = q at *
        generalize hz : a / gd a (D i) = z at *
        simp (disch := omega) only [be_X7_findFirings_8, be_X7_findFirings_9, Option.bind_some, cond_true, cond_false, decide_true, decide_false, Bool.not_true, Bool.not_false, ite_true, ite_false, and_self, true_and, and_true, or_self, true_or, or_true, false_or, or_false, decide_eq_true_eq, Int.reduceAdd, Int.reduceSub, Int.reduceMul, Int.reduceNeg, Int.reduceEq, Int.reduceLT, Int.reduceLE, Int.reduceNe, lcmp_z, lcmp_le, lcmp_ge, lcmp_lt, lcmp_gt, gf_17, g0, g2, ra_3381, ra_1334, x1, x3, decide_eq_true c, hg, dv, hq, am_w64_ok]
      rw [e7]
      generalize a / gd a (D i) * D i = q at *
      by_cases c1 : 1000000 < q
      · rw [if_pos c1, decide_eq_true c1, cond_true]
        refine Or.inl ⟨rfl, q, ?_⟩
        have e9 : am_ev am_PP nX7_findFirings 11 [17, r, q, i] [] R = am_ev am_PP nX7_findFirings 6 [17, 0, r, q, i + 1] [] R := by
          simp (disch := omega) only [be_X7_findFirings_11, be_X7_findFirings_12, be_X7_findFirings_13, am_w32_ok]
        rw [e9]
        by_cases z : R 17 0 ≤ i + 1
        · simp (disch := omega) only [be_X7_findFirings_6, Option.bind_some, cond_true, cond_false, decide_true, decide_false, Bool.not_true, Bool.not_false, ite_true, ite_false, and_self, true_and, and_true, or_self, true_or, or_true, false_or, or_false, decide_eq_true_eq, Int.reduceAdd, Int.reduceSub, Int.reduceMul, Int.reduceNeg, Int.reduceEq, Int.reduceLT, Int.reduceLE, Int.reduceNe, lcmp_z, lcmp_le, lcmp_ge, lcmp_lt, lcmp_gt, decide_eq_true, decide_eq_false, if_pos, if_neg, gf_17]
        · simp (disch := omega) only [be_X7_findFirings_6, be_X7_findFirings_7, Option.bind_some, cond_true, cond_false, decide_true, decide_false, Bool.not_true, Bool.not_false, ite_true, ite_false, and_self, true_and, and_true, or_self, true_or, or_true, false_or, or_false, decide_eq_true_eq, Int.reduceAdd, Int.reduceSub, Int.reduceMul, Int.reduceNeg, Int.reduceEq, Int.reduceLT, Int.reduceLE, Int.reduceNe, lcmp_z, lcmp_le, lcmp_ge, lcmp_lt, lcmp_gt, decide_eq_true, decide_eq_false, if_pos, if_neg, gf_17]
      · rw [if_neg c1, decide_eq_false c1, cond_false]
        have e9 : am_ev am_PP nX7_findFirings 10 [17, r, q, i] [] R = am_ev am_PP nX7_findFirings 6 [17, 1, r, q, i + 1] [] R := by
          simp (disch := omega) only [be_X7_findFirings_10, be_X7_findFirings_12, be_X7_findFirings_13, am_w32_ok]
        rw [e9]
        exact ih (i + 1) q (by omega) (by omega) p4 (by omega)
    · rw [if_neg c]
      have e9 : am_ev am_PP nX7_findFirings 8 [17, 1, r, a, i] [] R = am_ev am_PP nX7_findFirings 6 [17, 1, r, a, i + 1] [] R := by
        simp (disch := omega) only [be_X7_findFirings_8, be_X7_findFirings_13, Option.bind_some, cond_true, cond_false, decide_true, decide_false, Bool.not_true, Bool.not_false, ite_true, ite_false, and_self, true_and, and_true, or_self, true_or, or_true, false_or, or_false, decide_eq_true_eq, Int.reduceAdd, Int.reduceSub, Int.reduceMul, Int.reduceNeg, Int.reduceEq, Int.reduceLT, Int.reduceLE, Int.reduceNe, lcmp_z, lcmp_le, lcmp_ge, lcmp_lt, lcmp_gt, gf_17, g0, ra_3381, x1, decide_eq_false c, am_w32_ok]
      rw [e9]
      exact ih (i + 1) a (by omega) (by omega) a0 a1
theorem lcf_skip {P D : Int → Int} {r : Int} (hP : ∀ j, 0 ≤ j → P j ≤ j) (n : Nat) (a : Int) : ∀ (k : Nat) (i : Int), 0 ≤ i → i + k = r → lcf P D r (k + n) i a = lcf P D r n r a := by
  intro k
  induction k with
  | zero =>
    intro i i0 h
    rw [Nat.zero_add, show i = r by omega]
  | succ k ih =>
    intro i i0 h
    rw [show k + 1 + n = (k + n) + 1 by omega]
    have el : lcf P D r (k + n + 1) i a = if P i = r then (if 1000000 < a / gd a (D i) * D i then none else lcf P D r (k + n) (i + 1) (a / gd a (D i) * D i)) else lcf P D r (k + n) (i + 1) a := rfl
    have hp := hP i i0
    rw [el, if_neg (by omega)]
    exact ih (i + 1) (by omega) (by omega)
theorem rf_fskip {R : am_M} {r a : Int} {P U D : Int → Int} (hC : rpu R P U D) (W1 : R 17 0 ≤ 40) (r1 : r < R 17 0) (hP : ∀ j, 0 ≤ j → P j ≤ j) : ∀ (k : Nat) (i : Int), 0 ≤ i → i + k = r → am_ev am_PP nX7_findFirings 15 [17, 1, r, a, i] [] R = am_ev am_PP nX7_findFirings 15 [17, 1, r, a, r] [] R := by
  obtain ⟨g0, g1, g2, g3, g4⟩ := hC
  intro k
  induction k with
  | zero =>
    intro i i0 h
    rw [show i = r by omega]
  | succ k ih =>
    intro i i0 h
    obtain ⟨x1, x2, x3⟩ := g4 i (by omega) (by omega)
    have hp := hP i i0
    have c : ¬ P i = r := by omega
    rw [← ih (i + 1) (by omega) (by omega)]
    have e1 : am_ev am_PP nX7_findFirings 15 [17, 1, r, a, i] [] R = am_ev am_PP nX7_findFirings 17 [17, 1, r, a, i] [] R := by
      simp (disch := omega) only [be_X7_findFirings_15, be_X7_findFirings_16, Option.bind_some, cond_true, cond_false, decide_true, decide_false, Bool.not_true, Bool.not_false, ite_true, ite_false, and_self, true_and, and_true, or_self, true_or, or_true, false_or, or_false, decide_eq_true_eq, Int.reduceAdd, Int.reduceSub, Int.reduceMul, Int.reduceNeg, Int.reduceEq, Int.reduceLT, Int.reduceLE, Int.reduceNe, lcmp_z, lcmp_le, lcmp_ge, lcmp_lt, lcmp_gt, decide_eq_true, decide_eq_false, if_pos, if_neg, gf_17]
    rw [e1]
    simp (disch := omega) only [be_X7_findFirings_17, be_X7_findFirings_22, Option.bind_some, cond_true, cond_false, decide_true, decide_false, Bool.not_true, Bool.not_false, ite_true, ite_false, and_self, true_and, and_true, or_self, true_or, or_true, false_or, or_false, decide_eq_true_eq, Int.reduceAdd, Int.reduceSub, Int.reduceMul, Int.reduceNeg, Int.reduceEq, Int.reduceLT, Int.reduceLE, Int.reduceNe, lcmp_z, lcmp_le, lcmp_ge, lcmp_lt, lcmp_gt, gf_17, g0, ra_3381, x1, decide_eq_false c, am_w32_ok]
def two (C R : am_M) (W r i : Int) (P U : Int → Int) : Prop := ∀ j, 0 ≤ j → j < W → ((P j < r ∨ (P j = r ∧ j < i)) → C 54 j = R 1590 j) ∧ ((r < P j ∨ (P j = r ∧ i ≤ j)) → C 54 j = U j)
theorem two_f {r a : Int} {P U D : Int → Int} {W : Int} (W1 : W ≤ 40) (r0 : 0 ≤ r) (a0 : 1 ≤ a) (a1 : a ≤ 1000000) (hD : ∀ j, 0 ≤ j → j < W → 1 ≤ D j ∧ D j ≤ 1000000 ∧ 0 ≤ U j ∧ U j ≤ 1000000) : ∀ (n : Nat) (i : Int) (C R : am_M), r ≤ i → i + n = W → R 17 0 = W → hpu C W P D → rpu R P U D → two C R W r i P U → ∃ c C' R', am_ev am_PP nX2_makePartWhole 11 [12, r, W, a, i] [] C = some (c, C') ∧ am_ev am_PP nX7_findFirings 15 [17, 1, r, a, i] [] R = am_ev am_PP nX7_findFirings 23 [17, c, r] [] R' ∧ (c = 0 ∨ c = 1) ∧ (∀ L j, L ≠ 54 → C' L j = C L j) ∧ (∀ L j, L ≠ 1590 → R' L j = R L j) ∧ (c = 1 → two C' R' W r W P U) := by
  intro n
  induction n with
  | zero =>
    intro i C R i0 hn hW hC hR h2
    refine ⟨1, C, R, ?_, ?_, Or.inr rfl, fun _ _ _ => rfl, fun _ _ _ => rfl, fun _ => by rw [show W = i by omega] at h2 ⊢; exact h2⟩
    · simp (disch := omega) only [be_X2_makePartWhole_11, be_X2_makePartWhole_17, Option.bind_some, cond_true, cond_false, decide_true, decide_false, Bool.not_true, Bool.not_false, ite_true, ite_false, and_self, true_and, and_true, or_self, true_or, or_true, false_or, or_false, decide_eq_true_eq, Int.reduceAdd, Int.reduceSub, Int.reduceMul, Int.reduceNeg, Int.reduceEq, Int.reduceLT, Int.reduceLE, Int.reduceNe, lcmp_z, lcmp_le, lcmp_ge, lcmp_lt, lcmp_gt, decide_eq_true, decide_eq_false, if_pos, if_neg]
    · simp (disch := omega) only [be_X7_findFirings_15, Option.bind_some, cond_true, cond_false, decide_true, decide_false, Bool.not_true, Bool.not_false, ite_true, ite_false, and_self, true_and, and_true, or_self, true_or, or_true, false_or, or_false, decide_eq_true_eq, Int.reduceAdd, Int.reduceSub, Int.reduceMul, Int.reduceNeg, Int.reduceEq, Int.reduceLT, Int.reduceLE, Int.reduceNe, lcmp_z, lcmp_le, lcmp_ge, lcmp_lt, lcmp_gt, decide_eq_true, decide_eq_false, if_pos, if_neg, gf_17, hW]
  | succ n ih =>
    intro i C R i0 hn hW hC hR h2
    obtain ⟨g0, g1, g2, g3⟩ := id hC
    obtain ⟨q0, q1, q2, q3, q4⟩ := id hR
    obtain ⟨x1, x2⟩ := g3 i (by omega) (by omega)
    obtain ⟨y1, y2, y3⟩ := q4 i (by omega) (by omega)
    obtain ⟨d0, d1, u0, u1⟩ := hD i (by omega) (by omega)
    have e1 : am_ev am_PP nX2_makePartWhole 11 [12, r, W, a, i] [] C = am_ev am_PP nX2_makePartWhole 12 [12, r, W, a, i] [] C := by
      simp (disch := omega) only [be_X2_makePartWhole_11, Option.bind_some, cond_true, cond_false, decide_true, decide_false, Bool.not_true, Bool.not_false, ite_true, ite_false, and_self, true_and, and_true, or_self, true_or, or_true, false_or, or_false, decide_eq_true_eq, Int.reduceAdd, Int.reduceSub, Int.reduceMul, Int.reduceNeg, Int.reduceEq, Int.reduceLT, Int.reduceLE, Int.reduceNe, lcmp_z, lcmp_le, lcmp_ge, lcmp_lt, lcmp_gt, decide_eq_true, decide_eq_false, if_pos, if_neg]
    have e2 : am_ev am_PP nX7_findFirings 15 [17, 1, r, a, i] [] R = am_ev am_PP nX7_findFirings 17 [17, 1, r, a, i] [] R := by
      simp (disch := omega) only [be_X7_findFirings_15, be_X7_findFirings_16, Option.bind_some, cond_true, cond_false, decide_true, decide_false, Bool.not_true, Bool.not_false, ite_true, ite_false, and_self, true_and, and_true, or_self, true_or, or_true, false_or, or_false, decide_eq_true_eq, Int.reduceAdd, Int.reduceSub, Int.reduceMul, Int.reduceNeg, Int.reduceEq, Int.reduceLT, Int.reduceLE, Int.reduceNe, lcmp_z, lcmp_le, lcmp_ge, lcmp_lt, lcmp_gt, decide_eq_true, decide_eq_false, if_pos, if_neg, gf_17, hW]
    rw [e1, e2]
    by_cases c : P i = r
    · have cu : C 54 i = U i := (h2 i (by omega) (by omega)).2 (Or.inr ⟨c, by omega⟩)
      have dv := ldiv_ok (x := a) (g := D i) (by omega) (by omega) (by omega)
      have b0 : 0 ≤ a / D i := Int.ediv_nonneg (by omega) (by omega)
      have b1 : a / D i ≤ a := Int.ediv_le_self _ (by omega)
      have b2 : 0 ≤ U i * (a / D i) := Int.mul_nonneg u0 b0
      have b3 : U i * (a / D i) ≤ 1000000 * 1000000 := Int.mul_le_mul u1 (by omega) b0 (by omega)
      have hc : a / D i * U i = U i * (a / D i) := Int.mul_comm _ _
      have cd : ¬ D i = 0 := by omega
      obtain ⟨v, hv⟩ : ∃ v, U i * (a / D i) = v := ⟨_, rfl⟩
      rw [hv] at hc b2 b3
      have eC : am_ev am_PP nX2_makePartWhole 12 [12, r, W, a, i] [] C = bif decide (v ≤ 1000000) then am_ev am_PP nX2_makePartWhole 16 [12, r, W, a, i] [] (am_up C 54 i v) else am_ev am_PP nX2_makePartWhole 15 [] [] (am_up C 54 i v) := by
        clear ih
        generalize hz : a / D i = z at *
        simp (disch := omega) only [be_X2_makePartWhole_12, be_X2_makePartWhole_13, be_X2_makePartWhole_14, Option.bind_some, cond_true, cond_false, decide_true, decide_false, Bool.not_true, Bool.not_false, ite_true, ite_false, and_self, true_and, and_true, or_self, true_or, or_true, false_or, or_false, decide_eq_true_eq, Int.reduceAdd, Int.reduceSub, Int.reduceMul, Int.reduceNeg, Int.reduceEq, Int.reduceLT, Int.reduceLE, Int.reduceNe, lcmp_z, lcmp_le, lcmp_ge, lcmp_lt, lcmp_gt, am_up_eq, am_up_nl, am_up_ni, gf_12, g0, g1, g2, ra_53, ra_310, ra_54, sa_54, x1, x2, cu, decide_eq_true c, decide_eq_false cd, dv, hv, am_w64_ok]
      have eR : am_ev am_PP nX7_findFirings 17 [17, 1, r, a, i] [] R = bif decide (1000000 < v) then am_ev am_PP nX7_findFirings 20 [17, r, a, i] [] (am_up R 1590 i v) else am_ev am_PP nX7_findFirings 19 [17, r, a, i] [] (am_up R 1590 i v) := by
        clear ih
        generalize hz : a / D i = z at *
        simp (disch := omega) only [be_X7_findFirings_17, be_X7_findFirings_18, Option.bind_some, cond_true, cond_false, decide_true, decide_false, Bool.not_true, Bool.not_false, ite_true, ite_false, and_self, true_and, and_true, or_self, true_or, or_true, false_or, or_false, decide_eq_true_eq, Int.reduceAdd, Int.reduceSub, Int.reduceMul, Int.reduceNeg, Int.reduceEq, Int.reduceLT, Int.reduceLE, Int.reduceNe, lcmp_z, lcmp_le, lcmp_ge, lcmp_lt, lcmp_gt, am_up_eq, am_up_nl, am_up_ni, gf_17, q0, q1, q2, q3, ra_3381, ra_1334, ra_1078, ra_1590, sa_1590, y1, y2, y3, decide_eq_true c, dv, hc, am_w64_ok]
      rw [eC, eR]
      by_cases cv : 1000000 < v
      · rw [decide_eq_true cv, cond_true, decide_eq_false (show ¬ v ≤ 1000000 by omega), cond_false]
        refine ⟨0, am_up C 54 i v, am_up R 1590 i v, ?_, ?_, Or.inl rfl, fun L j q => am_up_nl _ _ _ _ _ _ q, fun L j q => am_up_nl _ _ _ _ _ _ q, fun q => by omega⟩
        · rw [be_X2_makePartWhole_15, if_pos (Or.inl rfl)]
        · have w : am_up R 1590 i v 17 0 = W := (am_up_nl _ _ _ _ _ _ (by omega)).trans hW
          have e9 : am_ev am_PP nX7_findFirings 20 [17, r, a, i] [] (am_up R 1590 i v) = am_ev am_PP nX7_findFirings 15 [17, 0, r, a, i + 1] [] (am_up R 1590 i v) := by
            simp (disch := omega) only [be_X7_findFirings_20, be_X7_findFirings_21, be_X7_findFirings_22, am_w32_ok]
          rw [e9]
          by_cases z : W ≤ i + 1
          · simp (disch := omega) only [be_X7_findFirings_15, Option.bind_some, cond_true, cond_false, decide_true, decide_false, Bool.not_true, Bool.not_false, ite_true, ite_false, and_self, true_and, and_true, or_self, true_or, or_true, false_or, or_false, decide_eq_true_eq, Int.reduceAdd, Int.reduceSub, Int.reduceMul, Int.reduceNeg, Int.reduceEq, Int.reduceLT, Int.reduceLE, Int.reduceNe, lcmp_z, lcmp_le, lcmp_ge, lcmp_lt, lcmp_gt, decide_eq_true, decide_eq_false, if_pos, if_neg, gf_17, w]
          · simp (disch := omega) only [be_X7_findFirings_15, be_X7_findFirings_16, Option.bind_some, cond_true, cond_false, decide_true, decide_false, Bool.not_true, Bool.not_false, ite_true, ite_false, and_self, true_and, and_true, or_self, true_or, or_true, false_or, or_false, decide_eq_true_eq, Int.reduceAdd, Int.reduceSub, Int.reduceMul, Int.reduceNeg, Int.reduceEq, Int.reduceLT, Int.reduceLE, Int.reduceNe, lcmp_z, lcmp_le, lcmp_ge, lcmp_lt, lcmp_gt, decide_eq_true, decide_eq_false, if_pos, if_neg, gf_17, w]
      · rw [decide_eq_false cv, cond_false, decide_eq_true (show v ≤ 1000000 by omega), cond_true]
        have uC : ∀ L j, L ≠ 54 → am_up C 54 i v L j = C L j := fun L j q => am_up_nl _ _ _ _ _ _ q
        have uR : ∀ L j, L ≠ 1590 → am_up R 1590 i v L j = R L j := fun L j q => am_up_nl _ _ _ _ _ _ q
        obtain ⟨c', C', R', k1, k2, k3, k4, k5, k6⟩ := ih (i + 1) (am_up C 54 i v) (am_up R 1590 i v) (by omega) (by omega) ((uR _ _ (by omega)).trans hW) ⟨(uC _ _ (by omega)).trans g0, (uC _ _ (by omega)).trans g1, (uC _ _ (by omega)).trans g2, fun j j0 j1 => ⟨(uC _ _ (by omega)).trans (g3 j j0 j1).1, (uC _ _ (by omega)).trans (g3 j j0 j1).2⟩⟩ ⟨(uR _ _ (by omega)).trans q0, (uR _ _ (by omega)).trans q1, (uR _ _ (by omega)).trans q2, (uR _ _ (by omega)).trans q3, fun j j0 j1 => by
          rw [uR 17 0 (by omega)] at j1
          obtain ⟨z1, z2, z3⟩ := q4 j j0 j1
          exact ⟨(uR _ _ (by omega)).trans z1, (uR _ _ (by omega)).trans z2, (uR _ _ (by omega)).trans z3⟩⟩ (fun j j0 j1 => by
          obtain ⟨z1, z2⟩ := h2 j j0 j1
          by_cases e : j = i
          · subst e
            rw [am_up_eq, am_up_eq]
            exact ⟨fun _ => rfl, fun q => by omega⟩
          · rw [am_up_ni _ _ _ _ _ _ e, am_up_ni _ _ _ _ _ _ e]
            exact ⟨fun q => z1 (by omega), fun q => z2 (by omega)⟩)
        refine ⟨c', C', R', ?_, ?_, k3, fun L j q => (k4 L j q).trans (uC L j q), fun L j q => (k5 L j q).trans (uR L j q), k6⟩
        · rw [← k1, be_X2_makePartWhole_16, am_w32_ok _ (by omega) (by omega)]
        · rw [← k2]
          simp (disch := omega) only [be_X7_findFirings_19, be_X7_findFirings_21, be_X7_findFirings_22, am_w32_ok]
    · obtain ⟨c', C', R', k1, k2, k3, k4, k5, k6⟩ := ih (i + 1) C R (by omega) (by omega) hW hC hR (fun j j0 j1 => by
        obtain ⟨z1, z2⟩ := h2 j j0 j1
        by_cases e : j = i
        · subst e
          exact ⟨fun q => z1 (by omega), fun q => z2 (by omega)⟩
        · exact ⟨fun q => z1 (by omega), fun q => z2 (by omega)⟩)
      refine ⟨c', C', R', ?_, ?_, k3, k4, k5, k6⟩
      · rw [← k1]
        simp (disch := omega) only [be_X2_makePartWhole_12, be_X2_makePartWhole_16, Option.bind_some, cond_true, cond_false, decide_true, decide_false, Bool.not_true, Bool.not_false, ite_true, ite_false, and_self, true_and, and_true, or_self, true_or, or_true, false_or, or_false, decide_eq_true_eq, Int.reduceAdd, Int.reduceSub, Int.reduceMul, Int.reduceNeg, Int.reduceEq, Int.reduceLT, Int.reduceLE, Int.reduceNe, lcmp_z, lcmp_le, lcmp_ge, lcmp_lt, lcmp_gt, gf_12, g0, ra_53, x1, decide_eq_false c, am_w32_ok]
      · rw [← k2]
        simp (disch := omega) only [be_X7_findFirings_17, be_X7_findFirings_22, Option.bind_some, cond_true, cond_false, decide_true, decide_false, Bool.not_true, Bool.not_false, ite_true, ite_false, and_self, true_and, and_true, or_self, true_or, or_true, false_or, or_false, decide_eq_true_eq, Int.reduceAdd, Int.reduceSub, Int.reduceMul, Int.reduceNeg, Int.reduceEq, Int.reduceLT, Int.reduceLE, Int.reduceNe, lcmp_z, lcmp_le, lcmp_ge, lcmp_lt, lcmp_gt, gf_17, q0, ra_3381, y1, decide_eq_false c, am_w32_ok]
theorem two_w {P U D : Int → Int} {W : Int} (W1 : W ≤ 40) (hP : ∀ j, 0 ≤ j → 0 ≤ P j ∧ P j ≤ j) (hI : ∀ j, P (P j) = P j) (hD : ∀ j, 0 ≤ j → j < W → 1 ≤ D j ∧ D j ≤ 1000000 ∧ 0 ≤ U j ∧ U j ≤ 1000000) : ∀ (n : Nat) (r : Int) (C R : am_M), 0 ≤ r → r + n = W → R 17 0 = W → hpu C W P D → rpu R P U D → two C R W r r P U → ∃ c C' R', am_ev am_PP nX2_makeWhole 1 [12, W, r] [] C = some (c, C') ∧ am_ev am_PP nX7_findFirings 1 [17, 1, r] [] R = some (c, R') ∧ (c = 0 ∨ c = 1) ∧ (∀ L j, L ≠ 54 → C' L j = C L j) ∧ (∀ L j, L ≠ 1590 → R' L j = R L j) ∧ (c = 1 → ∀ j, 0 ≤ j → j < W → C' 54 j = R' 1590 j) := by
  intro n
  induction n with
  | zero =>
    intro r C R r0 hn hW hC hR h2
    refine ⟨1, C, R, ?_, ?_, Or.inr rfl, fun _ _ _ => rfl, fun _ _ _ => rfl, fun _ j j0 j1 => ?_⟩
    · simp (disch := omega) only [be_X2_makeWhole_1, be_X2_makeWhole_6, Option.bind_some, cond_true, cond_false, decide_true, decide_false, Bool.not_true, Bool.not_false, ite_true, ite_false, and_self, true_and, and_true, or_self, true_or, or_true, false_or, or_false, decide_eq_true_eq, Int.reduceAdd, Int.reduceSub, Int.reduceMul, Int.reduceNeg, Int.reduceEq, Int.reduceLT, Int.reduceLE, Int.reduceNe, lcmp_z, lcmp_le, lcmp_ge, lcmp_lt, lcmp_gt, decide_eq_true, decide_eq_false, if_pos, if_neg]
    · simp (disch := omega) only [be_X7_findFirings_1, be_X7_findFirings_24, Option.bind_some, cond_true, cond_false, decide_true, decide_false, Bool.not_true, Bool.not_false, ite_true, ite_false, and_self, true_and, and_true, or_self, true_or, or_true, false_or, or_false, decide_eq_true_eq, Int.reduceAdd, Int.reduceSub, Int.reduceMul, Int.reduceNeg, Int.reduceEq, Int.reduceLT, Int.reduceLE, Int.reduceNe, lcmp_z, lcmp_le, lcmp_ge, lcmp_lt, lcmp_gt, decide_eq_true, decide_eq_false, if_pos, if_neg, gf_17, hW]
    · have := hP j j0
      exact (h2 j j0 j1).1 (Or.inl (by omega))
  | succ n ih =>
    intro r C R r0 hn hW hC hR h2
    obtain ⟨g0, g1, g2, g3⟩ := id hC
    obtain ⟨q0, q1, q2, q3, q4⟩ := id hR
    obtain ⟨x1, x2⟩ := g3 r (by omega) (by omega)
    obtain ⟨y1, y2, y3⟩ := q4 r (by omega) (by omega)
    have e1 : am_ev am_PP nX2_makeWhole 1 [12, W, r] [] C = am_ev am_PP nX2_makeWhole 2 [12, W, r] [] C := by
      simp (disch := omega) only [be_X2_makeWhole_1, Option.bind_some, cond_true, cond_false, decide_true, decide_false, Bool.not_true, Bool.not_false, ite_true, ite_false, and_self, true_and, and_true, or_self, true_or, or_true, false_or, or_false, decide_eq_true_eq, Int.reduceAdd, Int.reduceSub, Int.reduceMul, Int.reduceNeg, Int.reduceEq, Int.reduceLT, Int.reduceLE, Int.reduceNe, lcmp_z, lcmp_le, lcmp_ge, lcmp_lt, lcmp_gt, decide_eq_true, decide_eq_false, if_pos, if_neg]
    have e2 : am_ev am_PP nX7_findFirings 1 [17, 1, r] [] R = am_ev am_PP nX7_findFirings 3 [17, 1, r] [] R := by
      simp (disch := omega) only [be_X7_findFirings_1, be_X7_findFirings_2, Option.bind_some, cond_true, cond_false, decide_true, decide_false, Bool.not_true, Bool.not_false, ite_true, ite_false, and_self, true_and, and_true, or_self, true_or, or_true, false_or, or_false, decide_eq_true_eq, Int.reduceAdd, Int.reduceSub, Int.reduceMul, Int.reduceNeg, Int.reduceEq, Int.reduceLT, Int.reduceLE, Int.reduceNe, lcmp_z, lcmp_le, lcmp_ge, lcmp_lt, lcmp_gt, decide_eq_true, decide_eq_false, if_pos, if_neg, gf_17, hW]
    rw [e1, e2]
    have fail0 : ∀ Q : am_M, Q 17 0 = W → am_ev am_PP nX7_findFirings 23 [17, 0, r] [] Q = some (0, Q) := by
      intro Q hQ
      have e9 : am_ev am_PP nX7_findFirings 23 [17, 0, r] [] Q = am_ev am_PP nX7_findFirings 1 [17, 0, r + 1] [] Q := by
        simp (disch := omega) only [be_X7_findFirings_23, am_w32_ok]
      rw [e9]
      by_cases z : W ≤ r + 1
      · simp (disch := omega) only [be_X7_findFirings_1, be_X7_findFirings_24, Option.bind_some, cond_true, cond_false, decide_true, decide_false, Bool.not_true, Bool.not_false, ite_true, ite_false, and_self, true_and, and_true, or_self, true_or, or_true, false_or, or_false, decide_eq_true_eq, Int.reduceAdd, Int.reduceSub, Int.reduceMul, Int.reduceNeg, Int.reduceEq, Int.reduceLT, Int.reduceLE, Int.reduceNe, lcmp_z, lcmp_le, lcmp_ge, lcmp_lt, lcmp_gt, decide_eq_true, decide_eq_false, if_pos, if_neg, gf_17, hQ]
      · simp (disch := omega) only [be_X7_findFirings_1, be_X7_findFirings_2, be_X7_findFirings_24, Option.bind_some, cond_true, cond_false, decide_true, decide_false, Bool.not_true, Bool.not_false, ite_true, ite_false, and_self, true_and, and_true, or_self, true_or, or_true, false_or, or_false, decide_eq_true_eq, Int.reduceAdd, Int.reduceSub, Int.reduceMul, Int.reduceNeg, Int.reduceEq, Int.reduceLT, Int.reduceLE, Int.reduceNe, lcmp_z, lcmp_le, lcmp_ge, lcmp_lt, lcmp_gt, decide_eq_true, decide_eq_false, if_pos, if_neg, gf_17, hQ]
    by_cases c : P r = r
    · have eR : am_ev am_PP nX7_findFirings 3 [17, 1, r] [] R = am_ev am_PP nX7_findFirings 6 [17, 1, r, 1, 0] [] R := by
        simp (disch := omega) only [be_X7_findFirings_3, be_X7_findFirings_5, Option.bind_some, cond_true, cond_false, decide_true, decide_false, Bool.not_true, Bool.not_false, ite_true, ite_false, and_self, true_and, and_true, or_self, true_or, or_true, false_or, or_false, decide_eq_true_eq, Int.reduceAdd, Int.reduceSub, Int.reduceMul, Int.reduceNeg, Int.reduceEq, Int.reduceLT, Int.reduceLE, Int.reduceNe, lcmp_z, lcmp_le, lcmp_ge, lcmp_lt, lcmp_gt, gf_17, q0, ra_3381, y1, decide_eq_true c]
      have eC : am_ev am_PP nX2_makeWhole 2 [12, W, r] [] C = (am_ev am_PP nX2_makePartWhole 1 [12, r, W, 1, r] [] C).bind fun q => bif !(decide (q.1 = 0)) then am_ev am_PP nX2_makeWhole 5 [12, W, r] [] q.2 else am_ev am_PP nX2_makeWhole 4 [] [] q.2 := by
        simp (disch := omega) only [be_X2_makeWhole_2, be_X2_makeWhole_3, be_X2_makePartWhole_m, be_X2_makePartWhole_0, Option.bind_some, cond_true, cond_false, decide_true, decide_false, Bool.not_true, Bool.not_false, ite_true, ite_false, and_self, true_and, and_true, or_self, true_or, or_true, false_or, or_false, decide_eq_true_eq, Int.reduceAdd, Int.reduceSub, Int.reduceMul, Int.reduceNeg, Int.reduceEq, Int.reduceLT, Int.reduceLE, Int.reduceNe, lcmp_z, lcmp_le, lcmp_ge, lcmp_lt, lcmp_gt, gf_12, cls_12, g0, ra_53, x1, decide_eq_true c]
      rw [eR, eC]
      have hsk := lcf_skip (P := P) (D := D) (r := r) (fun j j0 => (hP j j0).2) (n + 1) 1 r.toNat 0 (by omega) (by omega)
      have hc := cl_lc hC W1 r0 (fun j j0 j1 => ⟨(hD j j0 j1).1, (hD j j0 j1).2.1⟩) (n + 1) r 1 (by omega) (by omega) (by omega) (by omega)
      have hr := rf_lc (r := r) hR (by omega) (fun j j0 j1 => ⟨(hD j j0 (by omega)).1, (hD j j0 (by omega)).2.1⟩) (r.toNat + (n + 1)) 0 1 (by omega) (by omega) (by omega) (by omega)
      rw [hsk] at hr
      rcases hc with ⟨hc1, hc2⟩ | ⟨a, hc1, a0, a1, hc2⟩
      · rw [hc1] at hr
        rcases hr with ⟨_, z, hr⟩ | ⟨a', hr, _⟩
        · rw [hc2, hr]
          refine ⟨0, C, R, ?_, ?_, Or.inl rfl, fun _ _ _ => rfl, fun _ _ _ => rfl, fun q => by omega⟩
          · simp (disch := omega) only [be_X2_makeWhole_4, Option.bind_some, cond_true, cond_false, decide_true, decide_false, Bool.not_true, Bool.not_false, ite_true, ite_false, and_self, true_and, and_true, or_self, true_or, or_true, false_or, or_false, decide_eq_true_eq, Int.reduceAdd, Int.reduceSub, Int.reduceMul, Int.reduceNeg, Int.reduceEq, Int.reduceLT, Int.reduceLE, Int.reduceNe, lcmp_z, lcmp_le, lcmp_ge, lcmp_lt, lcmp_gt]
          · have e9 : am_ev am_PP nX7_findFirings 14 [17, 0, r, z] [] R = am_ev am_PP nX7_findFirings 23 [17, 0, r] [] R := by
              simp (disch := omega) only [be_X7_findFirings_14, be_X7_findFirings_15, be_X7_findFirings_16, Option.bind_some, cond_true, cond_false, decide_true, decide_false, Bool.not_true, Bool.not_false, ite_true, ite_false, and_self, true_and, and_true, or_self, true_or, or_true, false_or, or_false, decide_eq_true_eq, Int.reduceAdd, Int.reduceSub, Int.reduceMul, Int.reduceNeg, Int.reduceEq, Int.reduceLT, Int.reduceLE, Int.reduceNe, lcmp_z, lcmp_le, lcmp_ge, lcmp_lt, lcmp_gt, decide_eq_true, decide_eq_false, if_pos, if_neg, gf_17, hW]
            rw [e9]
            exact fail0 R hW
        · cases hr
      · rw [hc1] at hr
        rcases hr with ⟨hr, _⟩ | ⟨a', hr1, hr2⟩
        · cases hr
        · cases hr1
          rw [hc2, hr2, be_X7_findFirings_14, rf_fskip hR (by omega) (by omega) (fun j j0 => (hP j j0).2) r.toNat 0 (by omega) (by omega)]
          obtain ⟨c', C1, R1, k1, k2, k3, k4, k5, k6⟩ := two_f W1 r0 a0 a1 hD (n + 1) r C R (by omega) (by omega) hW hC hR h2
          rw [k1, k2, Option.bind_some]
          have hW1 : R1 17 0 = W := (k5 _ _ (by omega)).trans hW
          rcases k3 with z | z
          · subst z
            refine ⟨0, C1, R1, ?_, fail0 R1 hW1, Or.inl rfl, k4, k5, fun q => by omega⟩
            simp (disch := omega) only [be_X2_makeWhole_4, Option.bind_some, cond_true, cond_false, decide_true, decide_false, Bool.not_true, Bool.not_false, ite_true, ite_false, and_self, true_and, and_true, or_self, true_or, or_true, false_or, or_false, decide_eq_true_eq, Int.reduceAdd, Int.reduceSub, Int.reduceMul, Int.reduceNeg, Int.reduceEq, Int.reduceLT, Int.reduceLE, Int.reduceNe, lcmp_z, lcmp_le, lcmp_ge, lcmp_lt, lcmp_gt]
          · subst z
            have h2' := k6 rfl
            obtain ⟨c'', C', R', m1, m2, m3, m4, m5, m6⟩ := ih (r + 1) C1 R1 (by omega) (by omega) hW1 ⟨(k4 _ _ (by omega)).trans g0, (k4 _ _ (by omega)).trans g1, (k4 _ _ (by omega)).trans g2, fun j j0 j1 => ⟨(k4 _ _ (by omega)).trans (g3 j j0 j1).1, (k4 _ _ (by omega)).trans (g3 j j0 j1).2⟩⟩ ⟨(k5 _ _ (by omega)).trans q0, (k5 _ _ (by omega)).trans q1, (k5 _ _ (by omega)).trans q2, (k5 _ _ (by omega)).trans q3, fun j j0 j1 => by
              rw [hW1] at j1
              obtain ⟨z1, z2, z3⟩ := q4 j j0 (by omega)
              exact ⟨(k5 _ _ (by omega)).trans z1, (k5 _ _ (by omega)).trans z2, (k5 _ _ (by omega)).trans z3⟩⟩ (fun j j0 j1 => by
              obtain ⟨z1, z2⟩ := h2' j j0 j1
              have hj := hP j j0
              refine ⟨fun q => z1 (by omega), fun q => z2 (by omega)⟩)
            refine ⟨c'', C', R', ?_, ?_, m3, fun L j q => (m4 L j q).trans (k4 L j q), fun L j q => (m5 L j q).trans (k5 L j q), m6⟩
            · rw [← m1]
              simp (disch := omega) only [be_X2_makeWhole_5, Option.bind_some, cond_true, cond_false, decide_true, decide_false, Bool.not_true, Bool.not_false, ite_true, ite_false, and_self, true_and, and_true, or_self, true_or, or_true, false_or, or_false, decide_eq_true_eq, Int.reduceAdd, Int.reduceSub, Int.reduceMul, Int.reduceNeg, Int.reduceEq, Int.reduceLT, Int.reduceLE, Int.reduceNe, lcmp_z, lcmp_le, lcmp_ge, lcmp_lt, lcmp_gt, am_w32_ok]
            · rw [← m2]
              simp (disch := omega) only [be_X7_findFirings_23, am_w32_ok]
    · obtain ⟨c'', C', R', m1, m2, m3, m4, m5, m6⟩ := ih (r + 1) C R (by omega) (by omega) hW hC hR (fun j j0 j1 => by
        obtain ⟨z1, z2⟩ := h2 j j0 j1
        have hj := hP j j0
        have hne : P j ≠ r := fun e => c (by rw [← e]; exact hI j)
        exact ⟨fun q => z1 (by omega), fun q => z2 (by omega)⟩)
      refine ⟨c'', C', R', ?_, ?_, m3, m4, m5, m6⟩
      · rw [← m1]
        simp (disch := omega) only [be_X2_makeWhole_2, be_X2_makeWhole_5, Option.bind_some, cond_true, cond_false, decide_true, decide_false, Bool.not_true, Bool.not_false, ite_true, ite_false, and_self, true_and, and_true, or_self, true_or, or_true, false_or, or_false, decide_eq_true_eq, Int.reduceAdd, Int.reduceSub, Int.reduceMul, Int.reduceNeg, Int.reduceEq, Int.reduceLT, Int.reduceLE, Int.reduceNe, lcmp_z, lcmp_le, lcmp_ge, lcmp_lt, lcmp_gt, gf_12, g0, ra_53, x1, decide_eq_false c, am_w32_ok]
      · rw [← m2]
        simp (disch := omega) only [be_X7_findFirings_3, be_X7_findFirings_4, be_X7_findFirings_23, Option.bind_some, cond_true, cond_false, decide_true, decide_false, Bool.not_true, Bool.not_false, ite_true, ite_false, and_self, true_and, and_true, or_self, true_or, or_true, false_or, or_false, decide_eq_true_eq, Int.reduceAdd, Int.reduceSub, Int.reduceMul, Int.reduceNeg, Int.reduceEq, Int.reduceLT, Int.reduceLE, Int.reduceNe, lcmp_z, lcmp_le, lcmp_ge, lcmp_lt, lcmp_gt, gf_17, q0, ra_3381, y1, decide_eq_false c, am_w32_ok]
