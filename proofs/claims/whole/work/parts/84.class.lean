/-! the class spreads -/
/-- the rows of the rates in the hall -/
def rowU (C : am_M) (W : Int) (s : UD) : Prop := ∀ i, 0 ≤ i → i < W → C 54 i = s.1 i ∧ C 310 i = s.2 i
/-- all else of the hall -/
def sm (C0 C : am_M) : Prop := ∀ L i, ¬ (L = 54 ∨ L = 310 ∨ (L = 12 ∧ i = 3)) → C L i = C0 L i
theorem sm_refl (C : am_M) : sm C C := fun _ _ _ => rfl
theorem sm_trans {A B C : am_M} (h1 : sm A B) (h2 : sm B C) : sm A C := fun L i q => (h2 L i q).trans (h1 L i q)
def hin (C0 R : am_M) (W : Int) : Prop := C0 12 0 = 53 ∧ C0 12 1 = 54 ∧ C0 12 2 = 310 ∧ ∀ f, 0 ≤ f → f < W → C0 (15 + 256 * f) 6 = R 309 f ∧ C0 (15 + 256 * f) 7 = R 565 f
theorem cl_written {C R : am_M} {f : Int} (f0 : 0 ≤ f) (h6 : C (15 + 256 * f) 6 = R 309 f) (h7 : C (15 + 256 * f) 7 = R 565 f) : am_evm am_PP nX2_writtenByFiring [(2, 15 + 256 * f)] C = some (wrt R f, C) := by
  unfold wrt
  by_cases c : R 309 f = 2
  · rw [if_pos c]
    simp (disch := omega) only [be_X2_writtenByFiring_m, be_X2_writtenByFiring_0, be_X2_writtenByFiring_1, be_X2_writtenByFiring_3, Option.bind_some, cond_true, cond_false, decide_true, decide_false, Bool.not_true, Bool.not_false, ite_true, ite_false, and_self, true_and, and_true, or_self, true_or, or_true, false_or, or_false, decide_eq_true_eq, Int.reduceAdd, Int.reduceSub, Int.reduceMul, Int.reduceNeg, Int.reduceEq, Int.reduceLT, Int.reduceLE, Int.reduceNe, lcmp_z, lcmp_le, lcmp_ge, lcmp_lt, lcmp_gt, gf_15, h6, h7, c]
  · rw [if_neg c]
    simp (disch := omega) only [be_X2_writtenByFiring_m, be_X2_writtenByFiring_0, be_X2_writtenByFiring_2, be_X2_writtenByFiring_3, Option.bind_some, cond_true, cond_false, decide_true, decide_false, Bool.not_true, Bool.not_false, ite_true, ite_false, and_self, true_and, and_true, or_self, true_or, or_true, false_or, or_false, decide_eq_true_eq, Int.reduceAdd, Int.reduceSub, Int.reduceMul, Int.reduceNeg, Int.reduceEq, Int.reduceLT, Int.reduceLE, Int.reduceNe, lcmp_z, lcmp_le, lcmp_ge, lcmp_lt, lcmp_gt, gf_15, h6, decide_eq_false c]
theorem cl_frac {C0 C R : am_M} {W i x y : Int} {s : UD} (hi : hin C0 R W) (W1 : W ≤ 40) (hC : sm C0 C) (hU : rowU C W s) (h3 : C 12 3 = 0) (i0 : 0 ≤ i) (i1 : i < W) (x0 : 0 ≤ x) (x1 : x ≤ 20000000) (y0 : 0 ≤ y) (y1 : y ≤ 20000000) : ∃ C', am_evm am_PP nX2_setFraction [(2, 12), (0, i), (1, x), (1, y)] C = some (0, C') ∧ sm C0 C' ∧ ((frac i x y s = none ∧ C' 12 3 = 1) ∨ ∃ s', frac i x y s = some s' ∧ C' 12 3 = 0 ∧ rowU C' W s') := by
  obtain ⟨g0, g1, g2, -⟩ := hi
  have k1 := (hC 12 1 (by omega)).trans g1
  have k2 := (hC 12 2 (by omega)).trans g2
  have hg := cl_gd C x0 y0 (by omega)
  have bad : ∀ C', C' = am_up C 12 3 1 → sm C0 C' ∧ C' 12 3 = 1 := by
    rintro C' rfl
    exact ⟨fun L j q => (am_up_or _ _ _ _ _ _ (by omega)).trans (hC L j q), am_up_eq _ _ _ _⟩
  unfold frac
  by_cases cx : x = 0
  · refine ⟨am_up C 12 3 1, ?_, (bad _ rfl).1, Or.inl ⟨if_pos (Or.inl cx), (bad _ rfl).2⟩⟩
    simp (disch := omega) only [be_X2_setFraction_m, be_X2_setFraction_0, be_X2_setFraction_5, Option.bind_some, cond_true, cond_false, decide_true, decide_false, Bool.not_true, Bool.not_false, ite_true, ite_false, and_self, true_and, and_true, or_self, true_or, or_true, false_or, or_false, decide_eq_true_eq, Int.reduceAdd, Int.reduceSub, Int.reduceMul, Int.reduceNeg, Int.reduceEq, Int.reduceLT, Int.reduceLE, Int.reduceNe, lcmp_z, lcmp_le, lcmp_ge, lcmp_lt, lcmp_gt, hg, decide_eq_true cx, pb1_12]
  by_cases cy : y = 0
  · refine ⟨am_up C 12 3 1, ?_, (bad _ rfl).1, Or.inl ⟨if_pos (Or.inr (Or.inl cy)), (bad _ rfl).2⟩⟩
    simp (disch := omega) only [be_X2_setFraction_m, be_X2_setFraction_0, be_X2_setFraction_1, be_X2_setFraction_5, Option.bind_some, cond_true, cond_false, decide_true, decide_false, Bool.not_true, Bool.not_false, ite_true, ite_false, and_self, true_and, and_true, or_self, true_or, or_true, false_or, or_false, decide_eq_true_eq, Int.reduceAdd, Int.reduceSub, Int.reduceMul, Int.reduceNeg, Int.reduceEq, Int.reduceLT, Int.reduceLE, Int.reduceNe, lcmp_z, lcmp_le, lcmp_ge, lcmp_lt, lcmp_gt, hg, decide_eq_false cx, decide_eq_true cy, pb1_12]
  have gp := gd_pos (x := x) (y := y) (Or.inl (by omega))
  have dx := ldiv_ok (x := x) x0 (by omega) gp
  have dy := ldiv_ok (x := y) y0 (by omega) gp
  have cg : ¬ gd x y = 0 := by omega
  by_cases c1 : 1000000 < x / gd x y
  · refine ⟨am_up C 12 3 1, ?_, (bad _ rfl).1, Or.inl ⟨if_pos (Or.inr (Or.inr (Or.inl c1))), (bad _ rfl).2⟩⟩
    simp (disch := omega) only [be_X2_setFraction_m, be_X2_setFraction_0, be_X2_setFraction_1, be_X2_setFraction_2, be_X2_setFraction_3, be_X2_setFraction_5, Option.bind_some, cond_true, cond_false, decide_true, decide_false, Bool.not_true, Bool.not_false, ite_true, ite_false, and_self, true_and, and_true, or_self, true_or, or_true, false_or, or_false, decide_eq_true_eq, Int.reduceAdd, Int.reduceSub, Int.reduceMul, Int.reduceNeg, Int.reduceEq, Int.reduceLT, Int.reduceLE, Int.reduceNe, lcmp_z, lcmp_le, lcmp_ge, lcmp_lt, lcmp_gt, hg, decide_eq_false cx, decide_eq_false cy, decide_eq_false cg, dx, decide_eq_true c1, pb1_12]
  by_cases c2 : 1000000 < y / gd x y
  · have c2' : ¬ y / gd x y ≤ 1000000 := by omega
    refine ⟨am_up C 12 3 1, ?_, (bad _ rfl).1, Or.inl ⟨if_pos (Or.inr (Or.inr (Or.inr c2))), (bad _ rfl).2⟩⟩
    simp (disch := omega) only [be_X2_setFraction_m, be_X2_setFraction_0, be_X2_setFraction_1, be_X2_setFraction_2, be_X2_setFraction_3, be_X2_setFraction_4, be_X2_setFraction_5, Option.bind_some, cond_true, cond_false, decide_true, decide_false, Bool.not_true, Bool.not_false, ite_true, ite_false, and_self, true_and, and_true, or_self, true_or, or_true, false_or, or_false, decide_eq_true_eq, Int.reduceAdd, Int.reduceSub, Int.reduceMul, Int.reduceNeg, Int.reduceEq, Int.reduceLT, Int.reduceLE, Int.reduceNe, lcmp_z, lcmp_le, lcmp_ge, lcmp_lt, lcmp_gt, hg, decide_eq_false cx, decide_eq_false cy, decide_eq_false cg, dx, dy, decide_eq_false c1, decide_eq_false c2', pb1_12]
  · have c2' : y / gd x y ≤ 1000000 := by omega
    refine ⟨am_up (am_up C 54 i (x / gd x y)) 310 i (y / gd x y), ?_, fun L j q => ?_, Or.inr ⟨_, if_neg (by omega), ?_, fun j j0 j1 => ?_⟩⟩
    · simp (disch := omega) only [be_X2_setFraction_m, be_X2_setFraction_0, be_X2_setFraction_1, be_X2_setFraction_2, be_X2_setFraction_3, be_X2_setFraction_4, be_X2_setFraction_6, Option.bind_some, cond_true, cond_false, decide_true, decide_false, Bool.not_true, Bool.not_false, ite_true, ite_false, and_self, true_and, and_true, or_self, true_or, or_true, false_or, or_false, decide_eq_true_eq, Int.reduceAdd, Int.reduceSub, Int.reduceMul, Int.reduceNeg, Int.reduceEq, Int.reduceLT, Int.reduceLE, Int.reduceNe, lcmp_z, lcmp_le, lcmp_ge, lcmp_lt, lcmp_gt, am_up_eq, am_up_nl, am_up_ni, hg, decide_eq_false cx, decide_eq_false cy, decide_eq_false cg, dx, dy, decide_eq_false c1, decide_eq_true c2', gf_12, k1, k2, sa_54, sa_310]
    · rw [am_up_or _ _ _ _ _ _ (by omega), am_up_or _ _ _ _ _ _ (by omega)]
      exact hC L j q
    · simp (disch := omega) only [am_up_eq, am_up_nl, am_up_ni, h3]
    · obtain ⟨u1, u2⟩ := hU j j0 j1
      show am_up (am_up C 54 i (x / gd x y)) 310 i (y / gd x y) 54 j = setp s.1 i (x / gd x y) j ∧ am_up (am_up C 54 i (x / gd x y)) 310 i (y / gd x y) 310 j = setp s.2 i (y / gd x y) j
      unfold setp
      by_cases c : j = i
      · rw [if_pos c, if_pos c, c]
        simp (disch := omega) only [am_up_eq, am_up_nl, am_up_ni, and_self]
      · rw [if_neg c, if_neg c, am_up_nl _ _ _ _ _ _ (by omega), am_up_ni _ _ _ _ _ _ c, am_up_ni _ _ _ _ _ _ c, am_up_nl _ _ _ _ _ _ (by omega)]
        exact ⟨u1, u2⟩
theorem mul_b {a b : Int} (a0 : 0 ≤ a) (a1 : a ≤ 1000000) (b0 : 0 ≤ b) (b1 : b ≤ 20) : 0 ≤ a * b ∧ a * b ≤ 20000000 := by
  have h1 := Int.mul_nonneg a0 b0
  have h2 : a * b ≤ 1000000 * 20 := Int.mul_le_mul a1 b1 b0 (by omega)
  omega
theorem cl_spread {C0 C R : am_M} {W B b : Int} {s : UD} (hi : hin C0 R W) (hb : bnd C0 R W B) (hw : bw R W B) (W1 : W ≤ 40) (hC : sm C0 C) (hU : rowU C W s) (hl : low W s) (h3 : C 12 3 = 0) (b0 : 0 ≤ b) (b1 : b < B) : ∃ c C', am_evm am_PP nX2_spread [(2, 12), (2, 10 + 256 * b)] C = some (c, C') ∧ (c = 0 ∨ c = 1) ∧ sm C0 C' ∧ ((sp1 R b s = none ∧ C' 12 3 = 1) ∨ ∃ s', sp1 R b s = some s' ∧ C' 12 3 = 0 ∧ rowU C' W s' ∧ (c = 0 → s' = s ∧ (s.1 (R 61 b) = 0 ↔ s.1 (R 317 b) = 0))) := by
  obtain ⟨d1, d2, d3, d4, d5, f0, f1, t0, t1⟩ := hb b b0 b1
  obtain ⟨-, -, -, -, w0, w1⟩ := hw b b0 b1
  have lf := hl _ f0 f1
  have lt := hl _ t0 t1
  have uf := hU _ f0 f1
  have ut := hU _ t0 t1
  obtain ⟨g0, g1, g2, g3⟩ := id hi
  have k1 := (hC 12 1 (by omega)).trans g1
  have k2 := (hC 12 2 (by omega)).trans g2
  have x2 := (hC (10 + 256 * b) 2 (by omega)).trans d2
  have x3 := (hC (10 + 256 * b) 3 (by omega)).trans d3
  have x4 := (hC (15 + 256 * R 61 b) 0 (by omega)).trans d4
  have x5 := (hC (15 + 256 * R 317 b) 0 (by omega)).trans d5
  obtain ⟨h6, h7⟩ := g3 _ f0 f1
  have hwr := cl_written (C := C) (R := R) f0 ((hC _ 6 (by omega)).trans h6) ((hC _ 7 (by omega)).trans h7)
  obtain ⟨uf1, uf2⟩ := uf
  obtain ⟨ut1, ut2⟩ := ut
  unfold sp1
  generalize hwf : wrt R (R 61 b) = wr at *
  generalize hf : R 61 b = f at *
  generalize ht : R 317 b = t at *
  have e0 : am_evm am_PP nX2_spread [(2, 12), (2, 10 + 256 * b)] C = bif decide (s.1 f = 0) then am_ev am_PP nX2_spread 3 [12, f, t, wr] [] C else am_ev am_PP nX2_spread 1 [12, f, t, wr] [] C := by
    simp (disch := omega) only [be_X2_spread_m, be_X2_spread_0, Option.bind_some, cond_true, cond_false, decide_true, decide_false, Bool.not_true, Bool.not_false, ite_true, ite_false, and_self, true_and, and_true, or_self, true_or, or_true, false_or, or_false, decide_eq_true_eq, Int.reduceAdd, Int.reduceSub, Int.reduceMul, Int.reduceNeg, Int.reduceEq, Int.reduceLT, Int.reduceLE, Int.reduceNe, lcmp_z, lcmp_le, lcmp_ge, lcmp_lt, lcmp_gt, gf_10, gf_15, gf_12, x2, x3, x4, x5, hwr, k1, ra_54, uf1]
  rw [e0]
  by_cases cf : s.1 f = 0
  · rw [decide_eq_true cf, cond_true]
    by_cases ct : s.1 t = 0
    · refine ⟨0, C, ?_, Or.inl rfl, hC, Or.inr ⟨s, ?_, h3, hU, fun _ => ⟨rfl, by omega⟩⟩⟩
      · simp (disch := omega) only [be_X2_spread_3, be_X2_spread_4, be_X2_spread_6, Option.bind_some, cond_true, cond_false, decide_true, decide_false, Bool.not_true, Bool.not_false, ite_true, ite_false, and_self, true_and, and_true, or_self, true_or, or_true, false_or, or_false, decide_eq_true_eq, Int.reduceAdd, Int.reduceSub, Int.reduceMul, Int.reduceNeg, Int.reduceEq, Int.reduceLT, Int.reduceLE, Int.reduceNe, lcmp_z, lcmp_le, lcmp_ge, lcmp_lt, lcmp_gt, gf_12, k1, ra_54, uf1, ut1, cf, ct]
      · rw [if_neg (by omega), if_neg (by omega)]
    · rw [if_neg (by omega), if_pos ⟨cf, ct⟩]
      obtain ⟨m1, m2⟩ := mul_b (show 0 ≤ s.2 t by omega) lt.2.2.2.1 w0 w1
      obtain ⟨C', a1, a2, a3⟩ := cl_frac (i := f) (x := s.1 t) (y := s.2 t * wr) hi W1 hC hU h3 f0 f1 lt.1 (by omega) m1 m2
      refine ⟨1, C', ?_, Or.inr rfl, a2, ?_⟩
      · clear a3
        simp (disch := omega) only [be_X2_spread_3, be_X2_spread_4, be_X2_spread_5, Option.bind_some, cond_true, cond_false, decide_true, decide_false, Bool.not_true, Bool.not_false, ite_true, ite_false, and_self, true_and, and_true, or_self, true_or, or_true, false_or, or_false, decide_eq_true_eq, Int.reduceAdd, Int.reduceSub, Int.reduceMul, Int.reduceNeg, Int.reduceEq, Int.reduceLT, Int.reduceLE, Int.reduceNe, lcmp_z, lcmp_le, lcmp_ge, lcmp_lt, lcmp_gt, gf_12, cls_12, k1, k2, ra_54, ra_310, uf1, ut1, ut2, cf, decide_eq_false ct, am_w64_ok, a1]
      · rcases a3 with a3 | ⟨s', a4, a5, a6⟩
        · exact Or.inl a3
        · exact Or.inr ⟨s', a4, a5, a6, fun q => by omega⟩
  · rw [decide_eq_false cf, cond_false]
    by_cases ct : s.1 t = 0
    · rw [if_pos ⟨cf, ct⟩]
      obtain ⟨m1, m2⟩ := mul_b lf.1 lf.2.1 w0 w1
      obtain ⟨C', a1, a2, a3⟩ := cl_frac (i := t) (x := s.1 f * wr) (y := s.2 f) hi W1 hC hU h3 t0 t1 m1 m2 (by omega) (by omega)
      refine ⟨1, C', ?_, Or.inr rfl, a2, ?_⟩
      · clear a3
        simp (disch := omega) only [be_X2_spread_1, be_X2_spread_2, Option.bind_some, cond_true, cond_false, decide_true, decide_false, Bool.not_true, Bool.not_false, ite_true, ite_false, and_self, true_and, and_true, or_self, true_or, or_true, false_or, or_false, decide_eq_true_eq, Int.reduceAdd, Int.reduceSub, Int.reduceMul, Int.reduceNeg, Int.reduceEq, Int.reduceLT, Int.reduceLE, Int.reduceNe, lcmp_z, lcmp_le, lcmp_ge, lcmp_lt, lcmp_gt, gf_12, cls_12, k1, k2, ra_54, ra_310, uf1, uf2, ut1, ct, am_w64_ok, a1]
      · rcases a3 with a3 | ⟨s', a4, a5, a6⟩
        · exact Or.inl a3
        · exact Or.inr ⟨s', a4, a5, a6, fun q => by omega⟩
    · refine ⟨0, C, ?_, Or.inl rfl, hC, Or.inr ⟨s, ?_, h3, hU, fun _ => ⟨rfl, by omega⟩⟩⟩
      · simp (disch := omega) only [be_X2_spread_1, be_X2_spread_3, be_X2_spread_6, Option.bind_some, cond_true, cond_false, decide_true, decide_false, Bool.not_true, Bool.not_false, ite_true, ite_false, and_self, true_and, and_true, or_self, true_or, or_true, false_or, or_false, decide_eq_true_eq, Int.reduceAdd, Int.reduceSub, Int.reduceMul, Int.reduceNeg, Int.reduceEq, Int.reduceLT, Int.reduceLE, Int.reduceNe, lcmp_z, lcmp_le, lcmp_ge, lcmp_lt, lcmp_gt, gf_12, k1, ra_54, uf1, ut1, decide_eq_false cf, decide_eq_false ct]
      · rw [if_neg (by omega), if_neg (by omega)]
theorem cl_sb {C0 R : am_M} {W B : Int} (hi : hin C0 R W) (hb : bnd C0 R W B) (hw : bw R W B) (W1 : W ≤ 40) (B1 : B ≤ 60) (ps : Int) : ∀ (n : Nat) (b ch : Int) (C : am_M) (s : UD), 0 ≤ b → b + n = B → (ch = 0 ∨ ch = 1) → sm C0 C → rowU C W s → low W s → C 12 3 = 0 → ∃ ch' C', am_ev am_PP nX2_solve 11 [12, W, 51, B, ch, ps, b] [] C = am_ev am_PP nX2_solve 18 [12, W, 51, B, ch', ps] [] C' ∧ (ch' = 0 ∨ ch' = 1) ∧ sm C0 C' ∧ ((spb R n b s = none ∧ C' 12 3 = 1) ∨ ∃ s', spb R n b s = some s' ∧ C' 12 3 = 0 ∧ rowU C' W s' ∧ (ch' = 0 → ch = 0 ∧ s' = s ∧ ∀ d, b ≤ d → d < B → (s.1 (R 61 d) = 0 ↔ s.1 (R 317 d) = 0))) := by
  intro n
  induction n with
  | zero =>
    intro b ch C s b0 hn hc hC hU hl h3
    refine ⟨ch, C, ?_, hc, hC, Or.inr ⟨s, rfl, h3, hU, fun q => ⟨q, rfl, fun d p r => by omega⟩⟩⟩
    clear hc
    simp (disch := omega) only [be_X2_solve_11, Option.bind_some, cond_true, cond_false, decide_true, decide_false, Bool.not_true, Bool.not_false, ite_true, ite_false, and_self, true_and, and_true, or_self, true_or, or_true, false_or, or_false, decide_eq_true_eq, Int.reduceAdd, Int.reduceSub, Int.reduceMul, Int.reduceNeg, Int.reduceEq, Int.reduceLT, Int.reduceLE, Int.reduceNe, lcmp_z, lcmp_le, lcmp_ge, lcmp_lt, lcmp_gt, decide_eq_true, decide_eq_false, if_pos, if_neg]
  | succ n ih =>
    intro b ch C s b0 hn hc hC hU hl h3
    obtain ⟨c, C1, e1, e2, e3, e4⟩ := cl_spread hi hb hw W1 hC hU hl h3 b0 (by omega)
    have x1 : C 51 b = 10 + 256 * b := (hC _ _ (by omega)).trans (hb b b0 (by omega)).1
    have e11 : am_ev am_PP nX2_solve 11 [12, W, 51, B, ch, ps, b] [] C = am_ev am_PP nX2_solve 13 [12, W, 51, B, ch, ps, b] [] C := by
      clear hc e2 e4
      simp (disch := omega) only [be_X2_solve_11, be_X2_solve_12, Option.bind_some, cond_true, cond_false, decide_true, decide_false, Bool.not_true, Bool.not_false, ite_true, ite_false, and_self, true_and, and_true, or_self, true_or, or_true, false_or, or_false, decide_eq_true_eq, Int.reduceAdd, Int.reduceSub, Int.reduceMul, Int.reduceNeg, Int.reduceEq, Int.reduceLT, Int.reduceLE, Int.reduceNe, lcmp_z, lcmp_le, lcmp_ge, lcmp_lt, lcmp_gt, decide_eq_true, decide_eq_false, if_pos, if_neg, gf_12, h3]
    obtain ⟨g, hg⟩ : ∃ g, g = (if c = 0 ∧ ch = 0 then (0 : Int) else 1) := ⟨_, rfl⟩
    have e13 : am_ev am_PP nX2_solve 11 [12, W, 51, B, ch, ps, b] [] C = am_ev am_PP nX2_solve 11 [12, W, 51, B, g, ps, b + 1] [] C1 := by
      rw [e11]
      by_cases c1 : c = 0
      · by_cases c2 : ch = 0
        · rw [hg, if_pos ⟨c1, c2⟩, c2]
          rw [c1] at e1
          clear hc e2 e4 hg
          simp (disch := omega) only [be_X2_solve_13, be_X2_solve_14, be_X2_solve_16, be_X2_solve_17, Option.bind_some, cond_true, cond_false, decide_true, decide_false, Bool.not_true, Bool.not_false, ite_true, ite_false, and_self, true_and, and_true, or_self, true_or, or_true, false_or, or_false, decide_eq_true_eq, Int.reduceAdd, Int.reduceSub, Int.reduceMul, Int.reduceNeg, Int.reduceEq, Int.reduceLT, Int.reduceLE, Int.reduceNe, lcmp_z, lcmp_le, lcmp_ge, lcmp_lt, lcmp_gt, cls_12, ra_51, x1, e1, am_w32_ok]
        · have c3 : ch = 1 := by omega
          rw [hg, if_neg (fun q => c2 q.2), c3]
          rw [c1] at e1
          clear hc e2 e4 hg
          simp (disch := omega) only [be_X2_solve_13, be_X2_solve_14, be_X2_solve_15, be_X2_solve_17, Option.bind_some, cond_true, cond_false, decide_true, decide_false, Bool.not_true, Bool.not_false, ite_true, ite_false, and_self, true_and, and_true, or_self, true_or, or_true, false_or, or_false, decide_eq_true_eq, Int.reduceAdd, Int.reduceSub, Int.reduceMul, Int.reduceNeg, Int.reduceEq, Int.reduceLT, Int.reduceLE, Int.reduceNe, lcmp_z, lcmp_le, lcmp_ge, lcmp_lt, lcmp_gt, cls_12, ra_51, x1, e1, am_w32_ok]
      · have c3 : c = 1 := by omega
        rw [hg, if_neg (fun q => c1 q.1)]
        rw [c3] at e1
        clear hc e2 e4 hg
        simp (disch := omega) only [be_X2_solve_13, be_X2_solve_15, be_X2_solve_17, Option.bind_some, cond_true, cond_false, decide_true, decide_false, Bool.not_true, Bool.not_false, ite_true, ite_false, and_self, true_and, and_true, or_self, true_or, or_true, false_or, or_false, decide_eq_true_eq, Int.reduceAdd, Int.reduceSub, Int.reduceMul, Int.reduceNeg, Int.reduceEq, Int.reduceLT, Int.reduceLE, Int.reduceNe, lcmp_z, lcmp_le, lcmp_ge, lcmp_lt, lcmp_gt, cls_12, ra_51, x1, e1, am_w32_ok]
    have g01 : g = 0 ∨ g = 1 := by rw [hg]; split <;> omega
    show ∃ ch' C', _ ∧ _ ∧ _ ∧ (((sp1 R b s).bind (fun s' => spb R n (b + 1) s') = none ∧ _) ∨ ∃ s', (sp1 R b s).bind (fun s' => spb R n (b + 1) s') = some s' ∧ _ ∧ _ ∧ _)
    rcases e4 with ⟨e4, e5⟩ | ⟨s1, e4, e5, e6, e7⟩
    · refine ⟨g, C1, ?_, g01, e3, Or.inl ⟨by rw [e4]; rfl, e5⟩⟩
      rw [e13]
      clear hc e2 g01 hg e11 e13
      by_cases z : B ≤ b + 1
      · simp (disch := omega) only [be_X2_solve_11, Option.bind_some, cond_true, cond_false, decide_true, decide_false, Bool.not_true, Bool.not_false, ite_true, ite_false, and_self, true_and, and_true, or_self, true_or, or_true, false_or, or_false, decide_eq_true_eq, Int.reduceAdd, Int.reduceSub, Int.reduceMul, Int.reduceNeg, Int.reduceEq, Int.reduceLT, Int.reduceLE, Int.reduceNe, lcmp_z, lcmp_le, lcmp_ge, lcmp_lt, lcmp_gt, decide_eq_true, decide_eq_false, if_pos, if_neg]
      · simp (disch := omega) only [be_X2_solve_11, be_X2_solve_12, Option.bind_some, cond_true, cond_false, decide_true, decide_false, Bool.not_true, Bool.not_false, ite_true, ite_false, and_self, true_and, and_true, or_self, true_or, or_true, false_or, or_false, decide_eq_true_eq, Int.reduceAdd, Int.reduceSub, Int.reduceMul, Int.reduceNeg, Int.reduceEq, Int.reduceLT, Int.reduceLE, Int.reduceNe, lcmp_z, lcmp_le, lcmp_ge, lcmp_lt, lcmp_gt, decide_eq_true, decide_eq_false, if_pos, if_neg, gf_12, e5]
    · obtain ⟨ch', C', k1, k2, k3, k4⟩ := ih (b + 1) g C1 s1 (by omega) (by omega) g01 e3 e6 (sp1_ok hw b0 (by omega) hl e4).1 e5
      refine ⟨ch', C', by rw [e13, k1], k2, k3, ?_⟩
      rw [e4]
      rcases k4 with k4 | ⟨s', k4, k5, k6, k7⟩
      · exact Or.inl k4
      · refine Or.inr ⟨s', k4, k5, k6, fun q => ?_⟩
        obtain ⟨y1, y2, y3⟩ := k7 q
        have z : c = 0 ∧ ch = 0 := by
          rw [hg] at y1
          by_cases z : c = 0 ∧ ch = 0
          · exact z
          · rw [if_neg z] at y1; omega
        obtain ⟨v1, v2⟩ := e7 z.1
        subst v1
        refine ⟨z.2, y2, fun d p r => ?_⟩
        by_cases zd : d = b
        · rw [zd]; exact v2
        · exact y3 d (by omega) r
theorem cl_sn {C0 R : am_M} {W : Int} {B : Nat} (hi : hin C0 R W) (hb : bnd C0 R W B) (hw : bw R W B) (W1 : W ≤ 40) (B1 : B ≤ 60) : ∀ (n : Nat) (ps ch : Int) (C : am_M) (s : UD), 0 ≤ ps → ps + n = W → (ch = 0 ∧ clU R B s ∨ ch = 1) → sm C0 C → rowU C W s → low W s → C 12 3 = 0 → ∃ C', am_ev am_PP nX2_solve 7 [12, W, 51, B, ch, ps] [] C = am_ev am_PP nX2_solve 19 [12, W, 51, B] [] C' ∧ sm C0 C' ∧ ((spn R B n s = none ∧ C' 12 3 = 1) ∨ ∃ s', spn R B n s = some s' ∧ C' 12 3 = 0 ∧ rowU C' W s') := by
  intro n
  induction n with
  | zero =>
    intro ps ch C s p0 hn hc hC hU hl h3
    refine ⟨C, ?_, hC, Or.inr ⟨s, rfl, h3, hU⟩⟩
    clear hc
    simp (disch := omega) only [be_X2_solve_7, Option.bind_some, cond_true, cond_false, decide_true, decide_false, Bool.not_true, Bool.not_false, ite_true, ite_false, and_self, true_and, and_true, or_self, true_or, or_true, false_or, or_false, decide_eq_true_eq, Int.reduceAdd, Int.reduceSub, Int.reduceMul, Int.reduceNeg, Int.reduceEq, Int.reduceLT, Int.reduceLE, Int.reduceNe, lcmp_z, lcmp_le, lcmp_ge, lcmp_lt, lcmp_gt, decide_eq_true, decide_eq_false, if_pos, if_neg]
  | succ n ih =>
    intro ps ch C s p0 hn hc hC hU hl h3
    rcases hc with ⟨hc, hs⟩ | hc
    · subst hc
      refine ⟨C, ?_, hC, Or.inr ⟨s, spn_cl hs _, h3, hU⟩⟩
      simp (disch := omega) only [be_X2_solve_7, be_X2_solve_8, Option.bind_some, cond_true, cond_false, decide_true, decide_false, Bool.not_true, Bool.not_false, ite_true, ite_false, and_self, true_and, and_true, or_self, true_or, or_true, false_or, or_false, decide_eq_true_eq, Int.reduceAdd, Int.reduceSub, Int.reduceMul, Int.reduceNeg, Int.reduceEq, Int.reduceLT, Int.reduceLE, Int.reduceNe, lcmp_z, lcmp_le, lcmp_ge, lcmp_lt, lcmp_gt, decide_eq_true, decide_eq_false, if_pos, if_neg]
    · subst hc
      obtain ⟨ch', C1, k1, k2, k3, k4⟩ := cl_sb hi hb hw W1 (by omega) ps B 0 0 C s (by omega) (by omega) (Or.inl rfl) hC hU hl h3
      have e : am_ev am_PP nX2_solve 7 [12, W, 51, B, 1, ps] [] C = am_ev am_PP nX2_solve 11 [12, W, 51, B, 0, ps, 0] [] C := by
        clear k2 k4
        simp (disch := omega) only [be_X2_solve_7, be_X2_solve_8, be_X2_solve_9, be_X2_solve_10, Option.bind_some, cond_true, cond_false, decide_true, decide_false, Bool.not_true, Bool.not_false, ite_true, ite_false, and_self, true_and, and_true, or_self, true_or, or_true, false_or, or_false, decide_eq_true_eq, Int.reduceAdd, Int.reduceSub, Int.reduceMul, Int.reduceNeg, Int.reduceEq, Int.reduceLT, Int.reduceLE, Int.reduceNe, lcmp_z, lcmp_le, lcmp_ge, lcmp_lt, lcmp_gt, decide_eq_true, decide_eq_false, if_pos, if_neg, gf_12, h3]
      have e18 : am_ev am_PP nX2_solve 18 [12, W, 51, B, ch', ps] [] C1 = am_ev am_PP nX2_solve 7 [12, W, 51, B, ch', ps + 1] [] C1 := by
        clear k2 k4
        simp (disch := omega) only [be_X2_solve_18, am_w32_ok]
      show ∃ C', _ ∧ _ ∧ (((spb R B 0 s).bind (fun s' => spn R B n s') = none ∧ _) ∨ ∃ s', (spb R B 0 s).bind (fun s' => spn R B n s') = some s' ∧ _ ∧ _)
      rcases k4 with ⟨k4, k5⟩ | ⟨s1, k4, k5, k6, k7⟩
      · refine ⟨C1, ?_, k3, Or.inl ⟨by rw [k4]; rfl, k5⟩⟩
        rw [e, k1, e18]
        by_cases z : W ≤ ps + 1
        · clear k2
          simp (disch := omega) only [be_X2_solve_7, Option.bind_some, cond_true, cond_false, decide_true, decide_false, Bool.not_true, Bool.not_false, ite_true, ite_false, and_self, true_and, and_true, or_self, true_or, or_true, false_or, or_false, decide_eq_true_eq, Int.reduceAdd, Int.reduceSub, Int.reduceMul, Int.reduceNeg, Int.reduceEq, Int.reduceLT, Int.reduceLE, Int.reduceNe, lcmp_z, lcmp_le, lcmp_ge, lcmp_lt, lcmp_gt, decide_eq_true, decide_eq_false, if_pos, if_neg]
        · by_cases z2 : ch' = 0
          · clear k2
            simp (disch := omega) only [be_X2_solve_7, be_X2_solve_8, Option.bind_some, cond_true, cond_false, decide_true, decide_false, Bool.not_true, Bool.not_false, ite_true, ite_false, and_self, true_and, and_true, or_self, true_or, or_true, false_or, or_false, decide_eq_true_eq, Int.reduceAdd, Int.reduceSub, Int.reduceMul, Int.reduceNeg, Int.reduceEq, Int.reduceLT, Int.reduceLE, Int.reduceNe, lcmp_z, lcmp_le, lcmp_ge, lcmp_lt, lcmp_gt, decide_eq_true, decide_eq_false, if_pos, if_neg]
          · clear k2
            simp (disch := omega) only [be_X2_solve_7, be_X2_solve_8, be_X2_solve_9, Option.bind_some, cond_true, cond_false, decide_true, decide_false, Bool.not_true, Bool.not_false, ite_true, ite_false, and_self, true_and, and_true, or_self, true_or, or_true, false_or, or_false, decide_eq_true_eq, Int.reduceAdd, Int.reduceSub, Int.reduceMul, Int.reduceNeg, Int.reduceEq, Int.reduceLT, Int.reduceLE, Int.reduceNe, lcmp_z, lcmp_le, lcmp_ge, lcmp_lt, lcmp_gt, decide_eq_true, decide_eq_false, if_pos, if_neg, gf_12, k5]
      · rw [k4]
        have hl1 := (spb_ok hw B 0 s s1 (by omega) (by omega) hl k4).1
        obtain ⟨C', m1, m2, m3⟩ := ih (ps + 1) ch' C1 s1 (by omega) (by omega) (by
          rcases k2 with q | q
          · refine Or.inl ⟨q, ?_⟩
            obtain ⟨y1, y2, y3⟩ := k7 q
            rw [y2]
            exact fun d p r => y3 d p r
          · exact Or.inr q) k3 k6 hl1 k5
        exact ⟨C', by rw [e, k1, e18, m1], m2, m3⟩
theorem cl_si {C0 R : am_M} {W B : Int} {P : Int → Int} (hi : hin C0 R W) (W1 : W ≤ 40) (hP : ∀ i, 0 ≤ i → i < W → C0 53 i = P i) : ∀ (n : Nat) (i : Int) (C : am_M), 0 ≤ i → i + n = W → sm C0 C → (∀ j, 0 ≤ j → j < i → C 54 j = (s0 P).1 j ∧ C 310 j = (s0 P).2 j) → C 12 3 = 0 → ∃ C', am_ev am_PP nX2_solve 1 [12, W, 51, B, i] [] C = am_ev am_PP nX2_solve 7 [12, W, 51, B, 1, 0] [] C' ∧ sm C0 C' ∧ rowU C' W (s0 P) ∧ C' 12 3 = 0 := by
  intro n
  obtain ⟨g0, g1, g2, g3⟩ := id hi
  induction n with
  | zero =>
    intro i C i0 hn hC hU h3
    refine ⟨C, ?_, hC, fun j a b => hU j a (by omega), h3⟩
    simp (disch := omega) only [be_X2_solve_1, be_X2_solve_6, Option.bind_some, cond_true, cond_false, decide_true, decide_false, Bool.not_true, Bool.not_false, ite_true, ite_false, and_self, true_and, and_true, or_self, true_or, or_true, false_or, or_false, decide_eq_true_eq, Int.reduceAdd, Int.reduceSub, Int.reduceMul, Int.reduceNeg, Int.reduceEq, Int.reduceLT, Int.reduceLE, Int.reduceNe, lcmp_z, lcmp_le, lcmp_ge, lcmp_lt, lcmp_gt, decide_eq_true, decide_eq_false, if_pos, if_neg]
  | succ n ih =>
    intro i C i0 hn hC hU h3
    have k0 := (hC 12 0 (by omega)).trans g0
    have k1 := (hC 12 1 (by omega)).trans g1
    have k2 := (hC 12 2 (by omega)).trans g2
    have kp := (hC 53 i (by omega)).trans (hP i i0 (by omega))
    obtain ⟨v, hv⟩ : ∃ v, v = (if P i = i then (1 : Int) else 0) := ⟨_, rfl⟩
    obtain ⟨C', m1, m2, m3, m4⟩ := ih (i + 1) (am_up (am_up C 54 i v) 310 i 1) (by omega) (by omega) (fun L j q => by
      rw [am_up_or _ _ _ _ _ _ (by omega), am_up_or _ _ _ _ _ _ (by omega)]
      exact hC L j q) (fun j a b => by
      by_cases e : j = i
      · subst e
        show _ = (if P j = j then (1 : Int) else 0) ∧ _ = (1 : Int)
        rw [← hv]
        simp (disch := omega) only [am_up_eq, am_up_nl, am_up_ni, and_self]
      · rw [am_up_nl _ _ _ _ _ _ (by omega), am_up_ni _ _ _ _ _ _ e, am_up_ni _ _ _ _ _ _ e, am_up_nl _ _ _ _ _ _ (by omega)]
        exact hU j a (by omega)) (by simp (disch := omega) only [am_up_eq, am_up_nl, am_up_ni, h3])
    refine ⟨C', ?_, m2, m3, m4⟩
    rw [← m1]
    have e : am_ev am_PP nX2_solve 1 [12, W, 51, B, i] [] C = am_ev am_PP nX2_solve 2 [12, W, 51, B, i] [] C := by
      clear hv
      simp (disch := omega) only [be_X2_solve_1, Option.bind_some, cond_true, cond_false, decide_true, decide_false, Bool.not_true, Bool.not_false, ite_true, ite_false, and_self, true_and, and_true, or_self, true_or, or_true, false_or, or_false, decide_eq_true_eq, Int.reduceAdd, Int.reduceSub, Int.reduceMul, Int.reduceNeg, Int.reduceEq, Int.reduceLT, Int.reduceLE, Int.reduceNe, lcmp_z, lcmp_le, lcmp_ge, lcmp_lt, lcmp_gt, decide_eq_true, decide_eq_false, if_pos, if_neg]
    rw [e]
    by_cases c : P i = i
    · rw [hv, if_pos c]
      clear hv
      simp (disch := omega) only [be_X2_solve_2, be_X2_solve_3, be_X2_solve_5, Option.bind_some, cond_true, cond_false, decide_true, decide_false, Bool.not_true, Bool.not_false, ite_true, ite_false, and_self, true_and, and_true, or_self, true_or, or_true, false_or, or_false, decide_eq_true_eq, Int.reduceAdd, Int.reduceSub, Int.reduceMul, Int.reduceNeg, Int.reduceEq, Int.reduceLT, Int.reduceLE, Int.reduceNe, lcmp_z, lcmp_le, lcmp_ge, lcmp_lt, lcmp_gt, am_up_eq, am_up_nl, am_up_ni, gf_12, k0, k1, k2, ra_53, kp, c, sa_54, sa_310, am_w32_ok]
    · rw [hv, if_neg c]
      clear hv
      simp (disch := omega) only [be_X2_solve_2, be_X2_solve_4, be_X2_solve_5, Option.bind_some, cond_true, cond_false, decide_true, decide_false, Bool.not_true, Bool.not_false, ite_true, ite_false, and_self, true_and, and_true, or_self, true_or, or_true, false_or, or_false, decide_eq_true_eq, Int.reduceAdd, Int.reduceSub, Int.reduceMul, Int.reduceNeg, Int.reduceEq, Int.reduceLT, Int.reduceLE, Int.reduceNe, lcmp_z, lcmp_le, lcmp_ge, lcmp_lt, lcmp_gt, am_up_eq, am_up_nl, am_up_ni, gf_12, k0, k1, k2, ra_53, kp, decide_eq_false c, sa_54, sa_310, am_w32_ok]
theorem cl_ag {C R : am_M} {W B : Int} {s : UD} (hi : hin C R W) (hb : bnd C R W B) (hw : bw R W B) (W1 : W ≤ 40) (B1 : B ≤ 60) (hU : rowU C W s) (hl : low W s) : ∀ (n : Nat) (b : Int), 0 ≤ b → b + n = B → ∃ c, am_ev am_PP nX2_agreesWithAll 1 [12, 51, B, b] [] C = some (c, C) ∧ ((c = 1 ∧ ∀ d, b ≤ d → d < B → agr R d s) ∨ (c = 0 ∧ ∃ d, b ≤ d ∧ d < B ∧ ¬ agr R d s)) := by
  intro n
  obtain ⟨g0, g1, g2, g3⟩ := id hi
  induction n with
  | zero =>
    intro b b0 hn
    refine ⟨1, ?_, Or.inl ⟨rfl, fun d p q => by omega⟩⟩
    simp (disch := omega) only [be_X2_agreesWithAll_1, be_X2_agreesWithAll_5, Option.bind_some, cond_true, cond_false, decide_true, decide_false, Bool.not_true, Bool.not_false, ite_true, ite_false, and_self, true_and, and_true, or_self, true_or, or_true, false_or, or_false, decide_eq_true_eq, Int.reduceAdd, Int.reduceSub, Int.reduceMul, Int.reduceNeg, Int.reduceEq, Int.reduceLT, Int.reduceLE, Int.reduceNe, lcmp_z, lcmp_le, lcmp_ge, lcmp_lt, lcmp_gt, decide_eq_true, decide_eq_false, if_pos, if_neg]
  | succ n ih =>
    intro b b0 hn
    obtain ⟨d1, d2, d3, d4, d5, f0, f1, t0, t1⟩ := hb b b0 (by omega)
    obtain ⟨-, -, -, -, w0, w1⟩ := hw b b0 (by omega)
    have lf := hl _ f0 f1
    have lt := hl _ t0 t1
    obtain ⟨uf1, uf2⟩ := hU _ f0 f1
    obtain ⟨ut1, ut2⟩ := hU _ t0 t1
    obtain ⟨h6, h7⟩ := g3 _ f0 f1
    have hwr := cl_written (C := C) (R := R) f0 h6 h7
    have m1 := mul_b lf.1 lf.2.1 w0 w1
    have m2 : 0 ≤ s.1 (R 61 b) * wrt R (R 61 b) * s.2 (R 317 b) ∧ s.1 (R 61 b) * wrt R (R 61 b) * s.2 (R 317 b) ≤ 20000000000000 := by
      have h1 := Int.mul_nonneg m1.1 (show 0 ≤ s.2 (R 317 b) by omega)
      have h2 : s.1 (R 61 b) * wrt R (R 61 b) * s.2 (R 317 b) ≤ 20000000 * 1000000 := Int.mul_le_mul m1.2 lt.2.2.2.1 (by omega) (by omega)
      omega
    have m3 : 0 ≤ s.1 (R 317 b) * s.2 (R 61 b) ∧ s.1 (R 317 b) * s.2 (R 61 b) ≤ 1000000000000 := by
      have h1 := Int.mul_nonneg lt.1 (show 0 ≤ s.2 (R 61 b) by omega)
      have h2 : s.1 (R 317 b) * s.2 (R 61 b) ≤ 1000000 * 1000000 := Int.mul_le_mul lt.2.1 lf.2.2.2.1 (by omega) (by omega)
      omega
    have e1 : am_ev am_PP nX2_agreesWithAll 1 [12, 51, B, b] [] C = am_ev am_PP nX2_agreesWithAll 2 [12, 51, B, b] [] C := by
      simp (disch := omega) only [be_X2_agreesWithAll_1, Option.bind_some, cond_true, cond_false, decide_true, decide_false, Bool.not_true, Bool.not_false, ite_true, ite_false, and_self, true_and, and_true, or_self, true_or, or_true, false_or, or_false, decide_eq_true_eq, Int.reduceAdd, Int.reduceSub, Int.reduceMul, Int.reduceNeg, Int.reduceEq, Int.reduceLT, Int.reduceLE, Int.reduceNe, lcmp_z, lcmp_le, lcmp_ge, lcmp_lt, lcmp_gt, decide_eq_true, decide_eq_false, if_pos, if_neg]
    have e2 : am_ev am_PP nX2_agreesWithAll 2 [12, 51, B, b] [] C = bif decide (s.1 (R 61 b) * wrt R (R 61 b) * s.2 (R 317 b) = s.1 (R 317 b) * s.2 (R 61 b)) then am_ev am_PP nX2_agreesWithAll 4 [12, 51, B, b] [] C else am_ev am_PP nX2_agreesWithAll 3 [] [] C := by
      clear ih lf lt
      generalize hwf : wrt R (R 61 b) = wr at *
      generalize hsf : s.1 (R 61 b) = sf at *
      generalize hst : s.1 (R 317 b) = st' at *
      generalize hqf : s.2 (R 61 b) = qf at *
      generalize hqt : s.2 (R 317 b) = qt at *
      generalize hf : R 61 b = f at *
      generalize ht : R 317 b = t at *
      simp (disch := omega) only [be_X2_agreesWithAll_2, Option.bind_some, cond_true, cond_false, decide_true, decide_false, Bool.not_true, Bool.not_false, ite_true, ite_false, and_self, true_and, and_true, or_self, true_or, or_true, false_or, or_false, decide_eq_true_eq, Int.reduceAdd, Int.reduceSub, Int.reduceMul, Int.reduceNeg, Int.reduceEq, Int.reduceLT, Int.reduceLE, Int.reduceNe, lcmp_z, lcmp_le, lcmp_ge, lcmp_lt, lcmp_gt, gf_10, gf_15, gf_12, ra_51, d1, d2, d3, d4, d5, g1, g2, ra_54, ra_310, uf1, uf2, ut1, ut2, hwr, am_w64_ok]
    rw [e1, e2]
    by_cases c : agr R b s
    · have c' : s.1 (R 61 b) * wrt R (R 61 b) * s.2 (R 317 b) = s.1 (R 317 b) * s.2 (R 61 b) := c
      rw [decide_eq_true c', cond_true]
      obtain ⟨c1, k1, k2⟩ := ih (b + 1) (by omega) (by omega)
      refine ⟨c1, ?_, ?_⟩
      · rw [be_X2_agreesWithAll_4, am_w32_ok _ (by omega) (by omega), k1]
      · rcases k2 with ⟨k2, k3⟩ | ⟨k2, d, p, q, r⟩
        · refine Or.inl ⟨k2, fun d p q => ?_⟩
          by_cases z : d = b
          · rw [z]; exact c
          · exact k3 d (by omega) q
        · exact Or.inr ⟨k2, d, by omega, q, r⟩
    · have c' : ¬ s.1 (R 61 b) * wrt R (R 61 b) * s.2 (R 317 b) = s.1 (R 317 b) * s.2 (R 61 b) := c
      rw [decide_eq_false c', cond_false]
      refine ⟨0, ?_, Or.inr ⟨rfl, b, by omega, by omega, c⟩⟩
      rw [be_X2_agreesWithAll_3, if_pos (Or.inl rfl)]
