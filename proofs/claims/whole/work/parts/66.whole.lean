/-! whether every port has its band; run -/
theorem iw_in {R : am_M} {w : Int} (hR : rs R) (w0 : 0 ≤ w) (w1 : w < 40) : ∀ (n : Nat) (p s : Int), 0 ≤ p → p + n = k_in (R 309 w) → (s = 0 ∨ s = 1) → ∃ s', (s' = 0 ∨ s' = 1) ∧ (s' = 1 ↔ s = 1 ∧ ∀ q, p ≤ q → q < k_in (R 309 w) → 0 ≤ R 63 (3 * w + q)) ∧ am_ev am_PP nX7_isWhole 3 [17, s, w, p] [] R = am_ev am_PP nX7_isWhole 9 [17, s', w] [] R := by
  obtain ⟨r1, r2, r3, r4, r5, r6, r7, r8, r9, r10, r12, r13, r14, r15, r16, r18, r19, r20, r21, r22, r23, r24, r25, r26, r27, r28, r30, r31, r32, r33, r34, r35, r36, r37, r38, r39, r40, r41, r44, r49, r50, r51, r52, r54⟩ := hR
  have hk := kin_b (R 309 w)
  intro n
  induction n with
  | zero =>
    intro p s p0 hp hs
    refine ⟨s, hs, ⟨fun a => ⟨a, fun q a b => by omega⟩, fun a => a.1⟩, ?_⟩
    simp (disch := omega) only [be_X7_isWhole_3, Option.bind_some, cond_true, cond_false, decide_true, decide_false, Bool.not_true, Bool.not_false, ite_true, ite_false, and_self, true_and, and_true, or_self, true_or, or_true, false_or, or_false, decide_eq_true_eq, Int.reduceAdd, Int.reduceSub, Int.reduceMul, Int.reduceNeg, Int.reduceEq, Int.reduceLT, Int.reduceLE, Int.reduceNe, lcmp_z, lcmp_le, lcmp_ge, lcmp_lt, lcmp_gt, decide_eq_true, decide_eq_false, if_pos, if_neg, gf_17, r1, ra_309, rf_insOf]
  | succ n ih =>
    intro p s p0 hp hs
    have e3 : am_ev am_PP nX7_isWhole 3 [17, s, w, p] [] R = am_ev am_PP nX7_isWhole 4 [17, s, w, p] [] R := by
      simp (disch := omega) only [be_X7_isWhole_3, Option.bind_some, cond_true, cond_false, decide_true, decide_false, Bool.not_true, Bool.not_false, ite_true, ite_false, and_self, true_and, and_true, or_self, true_or, or_true, false_or, or_false, decide_eq_true_eq, Int.reduceAdd, Int.reduceSub, Int.reduceMul, Int.reduceNeg, Int.reduceEq, Int.reduceLT, Int.reduceLE, Int.reduceNe, lcmp_z, lcmp_le, lcmp_ge, lcmp_lt, lcmp_gt, decide_eq_true, decide_eq_false, if_pos, if_neg, gf_17, r1, ra_309, rf_insOf]
    by_cases c : s = 1 ∧ 0 ≤ R 63 (3 * w + p)
    · obtain ⟨c1, c2⟩ := c
      obtain ⟨s', a1, a2, a3⟩ := ih (p + 1) 1 (by omega) (by omega) (Or.inr rfl)
      refine ⟨s', a1, a2.trans ⟨fun a => ⟨c1, fun q b d => ?_⟩, fun a => ⟨rfl, fun q b d => a.2 q (by omega) d⟩⟩, ?_⟩
      · by_cases z : q = p
        · rw [z]; exact c2
        · exact a.2 q (by omega) d
      · rw [e3, ← a3, c1]
        simp (disch := omega) only [be_X7_isWhole_4, be_X7_isWhole_5, be_X7_isWhole_6, be_X7_isWhole_8, Option.bind_some, cond_true, cond_false, decide_true, decide_false, Bool.not_true, Bool.not_false, ite_true, ite_false, and_self, true_and, and_true, or_self, true_or, or_true, false_or, or_false, decide_eq_true_eq, Int.reduceAdd, Int.reduceSub, Int.reduceMul, Int.reduceNeg, Int.reduceEq, Int.reduceLT, Int.reduceLE, Int.reduceNe, lcmp_z, lcmp_le, lcmp_ge, lcmp_lt, lcmp_gt, decide_eq_true, decide_eq_false, if_pos, if_neg, gf_17, r3, ra_63, am_w32_ok]
    · obtain ⟨s', a1, a2, a3⟩ := ih (p + 1) 0 (by omega) (by omega) (Or.inl rfl)
      have z : s' ≠ 1 := fun q => absurd (a2.mp q).1 (by decide)
      refine ⟨s', a1, ⟨fun q => absurd q z, fun q => absurd ⟨q.1, q.2 p (by omega) (by omega)⟩ c⟩, ?_⟩
      rw [e3, ← a3]
      rcases hs with hs | hs
      · rw [hs]
        simp (disch := omega) only [be_X7_isWhole_4, be_X7_isWhole_7, be_X7_isWhole_8, Option.bind_some, cond_true, cond_false, decide_true, decide_false, Bool.not_true, Bool.not_false, ite_true, ite_false, and_self, true_and, and_true, or_self, true_or, or_true, false_or, or_false, decide_eq_true_eq, Int.reduceAdd, Int.reduceSub, Int.reduceMul, Int.reduceNeg, Int.reduceEq, Int.reduceLT, Int.reduceLE, Int.reduceNe, lcmp_z, lcmp_le, lcmp_ge, lcmp_lt, lcmp_gt, decide_eq_true, decide_eq_false, if_pos, if_neg, am_w32_ok]
      · have c2 : R 63 (3 * w + p) < 0 := by omega
        rw [hs]
        simp (disch := omega) only [be_X7_isWhole_4, be_X7_isWhole_5, be_X7_isWhole_7, be_X7_isWhole_8, Option.bind_some, cond_true, cond_false, decide_true, decide_false, Bool.not_true, Bool.not_false, ite_true, ite_false, and_self, true_and, and_true, or_self, true_or, or_true, false_or, or_false, decide_eq_true_eq, Int.reduceAdd, Int.reduceSub, Int.reduceMul, Int.reduceNeg, Int.reduceEq, Int.reduceLT, Int.reduceLE, Int.reduceNe, lcmp_z, lcmp_le, lcmp_ge, lcmp_lt, lcmp_gt, decide_eq_true, decide_eq_false, if_pos, if_neg, gf_17, r3, ra_63, am_w32_ok]
theorem iw_out {R : am_M} {w : Int} (hR : rs R) (w0 : 0 ≤ w) (w1 : w < 40) : ∀ (n : Nat) (p s : Int), 0 ≤ p → p + n = k_out (R 309 w) → (s = 0 ∨ s = 1) → ∃ s', (s' = 0 ∨ s' = 1) ∧ (s' = 1 ↔ s = 1 ∧ ∀ q, p ≤ q → q < k_out (R 309 w) → 0 ≤ R 62 (2 * w + q)) ∧ am_ev am_PP nX7_isWhole 10 [17, s, w, p] [] R = am_ev am_PP nX7_isWhole 16 [17, s', w] [] R := by
  obtain ⟨r1, r2, r3, r4, r5, r6, r7, r8, r9, r10, r12, r13, r14, r15, r16, r18, r19, r20, r21, r22, r23, r24, r25, r26, r27, r28, r30, r31, r32, r33, r34, r35, r36, r37, r38, r39, r40, r41, r44, r49, r50, r51, r52, r54⟩ := hR
  have hk := kout_b (R 309 w)
  intro n
  induction n with
  | zero =>
    intro p s p0 hp hs
    refine ⟨s, hs, ⟨fun a => ⟨a, fun q a b => by omega⟩, fun a => a.1⟩, ?_⟩
    simp (disch := omega) only [be_X7_isWhole_10, Option.bind_some, cond_true, cond_false, decide_true, decide_false, Bool.not_true, Bool.not_false, ite_true, ite_false, and_self, true_and, and_true, or_self, true_or, or_true, false_or, or_false, decide_eq_true_eq, Int.reduceAdd, Int.reduceSub, Int.reduceMul, Int.reduceNeg, Int.reduceEq, Int.reduceLT, Int.reduceLE, Int.reduceNe, lcmp_z, lcmp_le, lcmp_ge, lcmp_lt, lcmp_gt, decide_eq_true, decide_eq_false, if_pos, if_neg, gf_17, r1, ra_309, rf_outsOf]
  | succ n ih =>
    intro p s p0 hp hs
    have e3 : am_ev am_PP nX7_isWhole 10 [17, s, w, p] [] R = am_ev am_PP nX7_isWhole 11 [17, s, w, p] [] R := by
      simp (disch := omega) only [be_X7_isWhole_10, Option.bind_some, cond_true, cond_false, decide_true, decide_false, Bool.not_true, Bool.not_false, ite_true, ite_false, and_self, true_and, and_true, or_self, true_or, or_true, false_or, or_false, decide_eq_true_eq, Int.reduceAdd, Int.reduceSub, Int.reduceMul, Int.reduceNeg, Int.reduceEq, Int.reduceLT, Int.reduceLE, Int.reduceNe, lcmp_z, lcmp_le, lcmp_ge, lcmp_lt, lcmp_gt, decide_eq_true, decide_eq_false, if_pos, if_neg, gf_17, r1, ra_309, rf_outsOf]
    by_cases c : s = 1 ∧ 0 ≤ R 62 (2 * w + p)
    · obtain ⟨c1, c2⟩ := c
      obtain ⟨s', a1, a2, a3⟩ := ih (p + 1) 1 (by omega) (by omega) (Or.inr rfl)
      refine ⟨s', a1, a2.trans ⟨fun a => ⟨c1, fun q b d => ?_⟩, fun a => ⟨rfl, fun q b d => a.2 q (by omega) d⟩⟩, ?_⟩
      · by_cases z : q = p
        · rw [z]; exact c2
        · exact a.2 q (by omega) d
      · rw [e3, ← a3, c1]
        simp (disch := omega) only [be_X7_isWhole_11, be_X7_isWhole_12, be_X7_isWhole_13, be_X7_isWhole_15, Option.bind_some, cond_true, cond_false, decide_true, decide_false, Bool.not_true, Bool.not_false, ite_true, ite_false, and_self, true_and, and_true, or_self, true_or, or_true, false_or, or_false, decide_eq_true_eq, Int.reduceAdd, Int.reduceSub, Int.reduceMul, Int.reduceNeg, Int.reduceEq, Int.reduceLT, Int.reduceLE, Int.reduceNe, lcmp_z, lcmp_le, lcmp_ge, lcmp_lt, lcmp_gt, decide_eq_true, decide_eq_false, if_pos, if_neg, gf_17, r4, ra_62, am_w32_ok]
    · obtain ⟨s', a1, a2, a3⟩ := ih (p + 1) 0 (by omega) (by omega) (Or.inl rfl)
      have z : s' ≠ 1 := fun q => absurd (a2.mp q).1 (by decide)
      refine ⟨s', a1, ⟨fun q => absurd q z, fun q => absurd ⟨q.1, q.2 p (by omega) (by omega)⟩ c⟩, ?_⟩
      rw [e3, ← a3]
      rcases hs with hs | hs
      · rw [hs]
        simp (disch := omega) only [be_X7_isWhole_11, be_X7_isWhole_14, be_X7_isWhole_15, Option.bind_some, cond_true, cond_false, decide_true, decide_false, Bool.not_true, Bool.not_false, ite_true, ite_false, and_self, true_and, and_true, or_self, true_or, or_true, false_or, or_false, decide_eq_true_eq, Int.reduceAdd, Int.reduceSub, Int.reduceMul, Int.reduceNeg, Int.reduceEq, Int.reduceLT, Int.reduceLE, Int.reduceNe, lcmp_z, lcmp_le, lcmp_ge, lcmp_lt, lcmp_gt, decide_eq_true, decide_eq_false, if_pos, if_neg, am_w32_ok]
      · have c2 : R 62 (2 * w + p) < 0 := by omega
        rw [hs]
        simp (disch := omega) only [be_X7_isWhole_11, be_X7_isWhole_12, be_X7_isWhole_14, be_X7_isWhole_15, Option.bind_some, cond_true, cond_false, decide_true, decide_false, Bool.not_true, Bool.not_false, ite_true, ite_false, and_self, true_and, and_true, or_self, true_or, or_true, false_or, or_false, decide_eq_true_eq, Int.reduceAdd, Int.reduceSub, Int.reduceMul, Int.reduceNeg, Int.reduceEq, Int.reduceLT, Int.reduceLE, Int.reduceNe, lcmp_z, lcmp_le, lcmp_ge, lcmp_lt, lcmp_gt, decide_eq_true, decide_eq_false, if_pos, if_neg, gf_17, r4, ra_62, am_w32_ok]
theorem iw_loop {R : am_M} (hR : rs R) (h1 : R 17 0 ≤ 40) : ∀ (n : Nat) (w s : Int), 0 ≤ w → w + n = R 17 0 → (s = 0 ∨ s = 1) → ∃ s', (s' = 0 ∨ s' = 1) ∧ (s' = 1 ↔ s = 1 ∧ ∀ u, w ≤ u → u < R 17 0 → wwh R u) ∧ am_ev am_PP nX7_isWhole 1 [17, s, w] [] R = some (s', R) := by
  intro n
  induction n with
  | zero =>
    intro w s w0 hw hs
    refine ⟨s, hs, ⟨fun a => ⟨a, fun q a b => by omega⟩, fun a => a.1⟩, ?_⟩
    simp (disch := omega) only [be_X7_isWhole_1, be_X7_isWhole_17, Option.bind_some, cond_true, cond_false, decide_true, decide_false, Bool.not_true, Bool.not_false, ite_true, ite_false, and_self, true_and, and_true, or_self, true_or, or_true, false_or, or_false, decide_eq_true_eq, Int.reduceAdd, Int.reduceSub, Int.reduceMul, Int.reduceNeg, Int.reduceEq, Int.reduceLT, Int.reduceLE, Int.reduceNe, lcmp_z, lcmp_le, lcmp_ge, lcmp_lt, lcmp_gt, decide_eq_true, decide_eq_false, if_pos, if_neg, gf_17]
  | succ n ih =>
    intro w s w0 hw hs
    obtain ⟨s1, a1, a2, a3⟩ := iw_in hR w0 (by omega) (k_in (R 309 w)).toNat 0 s (by omega) (by have := kin_b (R 309 w); omega) hs
    obtain ⟨s2, b1, b2, b3⟩ := iw_out hR w0 (by omega) (k_out (R 309 w)).toNat 0 s1 (by omega) (by have := kout_b (R 309 w); omega) a1
    obtain ⟨s3, c1, c2, c3⟩ := ih (w + 1) s2 (by omega) (by omega) b1
    refine ⟨s3, c1, ?_, ?_⟩
    · rw [c2, b2, a2]
      constructor
      · rintro ⟨⟨⟨d1, d2⟩, d3⟩, d4⟩
        refine ⟨d1, fun u u0 u1 => ?_⟩
        by_cases z : u = w
        · rw [z]; exact ⟨d2, d3⟩
        · exact d4 u (by omega) u1
      · rintro ⟨d1, d2⟩
        have := d2 w (by omega) (by omega)
        exact ⟨⟨⟨d1, this.1⟩, this.2⟩, fun u u0 u1 => d2 u (by omega) u1⟩
    · rw [← c3]
      have e1 : am_ev am_PP nX7_isWhole 1 [17, s, w] [] R = am_ev am_PP nX7_isWhole 3 [17, s, w, 0] [] R := by
        simp (disch := omega) only [be_X7_isWhole_1, be_X7_isWhole_2, Option.bind_some, cond_true, cond_false, decide_true, decide_false, Bool.not_true, Bool.not_false, ite_true, ite_false, and_self, true_and, and_true, or_self, true_or, or_true, false_or, or_false, decide_eq_true_eq, Int.reduceAdd, Int.reduceSub, Int.reduceMul, Int.reduceNeg, Int.reduceEq, Int.reduceLT, Int.reduceLE, Int.reduceNe, lcmp_z, lcmp_le, lcmp_ge, lcmp_lt, lcmp_gt, decide_eq_true, decide_eq_false, if_pos, if_neg, gf_17]
      have e2 : am_ev am_PP nX7_isWhole 9 [17, s1, w] [] R = am_ev am_PP nX7_isWhole 10 [17, s1, w, 0] [] R := by
        simp (disch := omega) only [be_X7_isWhole_9]
      rw [e1, a3, e2, b3]
      simp (disch := omega) only [be_X7_isWhole_16, am_w32_ok]
theorem rf_isWhole {R : am_M} (hR : rs R) (h0 : 0 ≤ R 17 0) (h1 : R 17 0 ≤ 40) : am_evm am_PP nX7_isWhole [(2, 17)] R = some (if opc R = 0 then 1 else 0, R) := by
  obtain ⟨s, a1, a2, a3⟩ := iw_loop hR h1 (R 17 0).toNat 0 1 (by omega) (by omega) (Or.inr rfl)
  obtain ⟨_, _, o3⟩ := opc_b h0 h1
  have e : am_evm am_PP nX7_isWhole [(2, 17)] R = some (s, R) := by
    rw [← a3]
    simp (disch := omega) only [be_X7_isWhole_m, be_X7_isWhole_0]
  rw [e]
  by_cases c : opc R = 0
  · rw [if_pos c, a2.mpr ⟨rfl, o3.mp c⟩]
  · rw [if_neg c]
    rcases a1 with q | q
    · rw [q]
    · exact absurd (o3.mpr (a2.mp q).2) c
theorem api_run (way many x : Int) : API nX6_run nX7_run [(0, way), (0, many), (0, x)] := by
  intro C R H
  obtain ⟨hR, hh, hn, ho⟩ := INV_hall H
  obtain ⟨g0, g1, g2, g3, g4, g5, g6, g7, g8, g9, g10, g11, g12, g13⟩ := id hh
  obtain ⟨h6, H'⟩ := id H
  obtain ⟨o1, o2, o3⟩ := opc_b g9 g10
  have hw := rf_isWhole hR g9 g10
  have i1 := rf_in R way 0 3
  have i2 := rf_in R many 1 2000
  by_cases c1 : 0 ≤ way ∧ way ≤ 3
  · rw [if_pos c1] at i1
    by_cases c2 : 1 ≤ many ∧ many ≤ 2000
    · rw [if_pos c2] at i2
      by_cases c3 : opc R = 0
      · rw [if_pos c3] at hw
        rw [c3] at h6
        have eC : am_evm am_PP nX6_run [(2, 16), (0, way), (0, many), (0, x)] C = am_ev am_PP nX6_run 7 [16, way, many, x] [] C := by
          simp (disch := omega) only [be_X6_run_m, be_X6_run_0, be_X6_run_1, be_X6_run_2, be_X6_run_3, be_X6_run_5, Option.bind_some, cond_true, cond_false, decide_true, decide_false, Bool.not_true, Bool.not_false, ite_true, ite_false, and_self, true_and, and_true, or_self, true_or, or_true, false_or, or_false, decide_eq_true_eq, Int.reduceAdd, Int.reduceSub, Int.reduceMul, Int.reduceNeg, Int.reduceEq, Int.reduceLT, Int.reduceLE, Int.reduceNe, lcmp_z, lcmp_le, lcmp_ge, lcmp_lt, lcmp_gt, decide_eq_true, decide_eq_false, if_pos, if_neg, gf_16, h6]
        have eR : am_evm am_PP nX7_run [(2, 17), (0, way), (0, many), (0, x)] R = am_ev am_PP nX7_run 5 [17, way, many, x] [] R := by
          simp (disch := omega) only [be_X7_run_m, be_X7_run_0, be_X7_run_1, be_X7_run_3, Option.bind_some, cond_true, cond_false, decide_true, decide_false, Bool.not_true, Bool.not_false, ite_true, ite_false, and_self, true_and, and_true, or_self, true_or, or_true, false_or, or_false, decide_eq_true_eq, Int.reduceAdd, Int.reduceSub, Int.reduceMul, Int.reduceNeg, Int.reduceEq, Int.reduceLT, Int.reduceLE, Int.reduceNe, lcmp_z, lcmp_le, lcmp_ge, lcmp_lt, lcmp_gt, decide_eq_true, decide_eq_false, if_pos, if_neg, cls_17, i1, i2, hw]
        rcases H' with N | ⟨h, V, t, H', hwd⟩
        · obtain ⟨C1, R1, b1, b2, b3, b4, b5, b6, b7, b8, b9⟩ := begin_RR (way := way) (many := many) (x := x) N (o3.mp c3)
          obtain ⟨ans, C', R', h', V', t', k1, k2, k3, k4, k5, k6, k7, k8, k9⟩ := run_on b3 (way := way) (many := many) (x := x) c1.1 c1.2 c2.1 c2.2 (by omega) (by omega)
          obtain ⟨_, _, _, _, n1, n2, n3, n4, _⟩ := N
          refine ⟨ans, C', R', ?_, ?_, ⟨?_, Or.inr ⟨h', V', t', k3, k4⟩⟩, cf2_of (cfr_trans b8 k8), rfr_trans b9 k9⟩
          · show am_evm am_PP nX6_run [(2, 16), (0, way), (0, many), (0, x)] C = _
            rw [eC]
            simp (disch := omega) only [be_X6_run_7, be_X6_run_9, be_X6_run_10, be_X6_run_11, Option.bind_some, cond_true, cond_false, decide_true, decide_false, Bool.not_true, Bool.not_false, ite_true, ite_false, and_self, true_and, and_true, or_self, true_or, or_true, false_or, or_false, decide_eq_true_eq, Int.reduceAdd, Int.reduceSub, Int.reduceMul, Int.reduceNeg, Int.reduceEq, Int.reduceLT, Int.reduceLE, Int.reduceNe, lcmp_z, lcmp_le, lcmp_ge, lcmp_lt, lcmp_gt, decide_eq_true, decide_eq_false, if_pos, if_neg, gf_16, pb1_16, cls_16, n2, n4, b1, k1]
          · show am_evm am_PP nX7_run [(2, 17), (0, way), (0, many), (0, x)] R = _
            rw [eR]
            simp (disch := omega) only [be_X7_run_5, Option.bind_some, cond_true, cond_false, decide_true, decide_false, Bool.not_true, Bool.not_false, ite_true, ite_false, and_self, true_and, and_true, or_self, true_or, or_true, false_or, or_false, decide_eq_true_eq, Int.reduceAdd, Int.reduceSub, Int.reduceMul, Int.reduceNeg, Int.reduceEq, Int.reduceLT, Int.reduceLE, Int.reduceNe, lcmp_z, lcmp_le, lcmp_ge, lcmp_lt, lcmp_gt, decide_eq_true, decide_eq_false, if_pos, if_neg, gf_17, n1]
            rw [b2, ← k2]
            simp (disch := omega) only [be_X7_run_9, Option.bind_some, cond_true, cond_false, decide_true, decide_false, Bool.not_true, Bool.not_false, ite_true, ite_false, and_self, true_and, and_true, or_self, true_or, or_true, false_or, or_false, decide_eq_true_eq, Int.reduceAdd, Int.reduceSub, Int.reduceMul, Int.reduceNeg, Int.reduceEq, Int.reduceLT, Int.reduceLE, Int.reduceNe, lcmp_z, lcmp_le, lcmp_ge, lcmp_lt, lcmp_gt, decide_eq_true, decide_eq_false, if_pos, if_neg, gf_17, b4]
          · have q1 := k8 16 6 (Or.inr (Or.inr ⟨rfl, rfl⟩))
            have q2 := b8 16 6 (Or.inr (Or.inr ⟨rfl, rfl⟩))
            have q3 := (opc_b (R := R') (by omega) (by omega)).2.2.mpr k3.2.2.2.2.1
            rw [q1, q2, h6, q3]
        · have r1 := H'.2.2.2.2.2.1
          have r2 := H'.2.2.2.2.2.2.1
          have r3 := H'.2.2.2.2.2.2.2.1
          by_cases c4 : R 17 42 < 40000
          · obtain ⟨ans, C', R', h', V', t', k1, k2, k3, k4, k5, k6, k7, k8, k9⟩ := run_on H' (way := way) (many := many) (x := x) c1.1 c1.2 c2.1 c2.2 c4 hwd
            refine ⟨ans, C', R', ?_, ?_, ⟨?_, Or.inr ⟨h', V', t', k3, k4⟩⟩, cf2_of k8, k9⟩
            · show am_evm am_PP nX6_run [(2, 16), (0, way), (0, many), (0, x)] C = _
              rw [eC]
              simp (disch := omega) only [be_X6_run_7, be_X6_run_9, be_X6_run_11, Option.bind_some, cond_true, cond_false, decide_true, decide_false, Bool.not_true, Bool.not_false, ite_true, ite_false, and_self, true_and, and_true, or_self, true_or, or_true, false_or, or_false, decide_eq_true_eq, Int.reduceAdd, Int.reduceSub, Int.reduceMul, Int.reduceNeg, Int.reduceEq, Int.reduceLT, Int.reduceLE, Int.reduceNe, lcmp_z, lcmp_le, lcmp_ge, lcmp_lt, lcmp_gt, decide_eq_true, decide_eq_false, if_pos, if_neg, gf_16, cls_16, r2, r3, k1]
            · show am_evm am_PP nX7_run [(2, 17), (0, way), (0, many), (0, x)] R = _
              rw [eR, ← k2]
              simp (disch := omega) only [be_X7_run_5, be_X7_run_9, Option.bind_some, cond_true, cond_false, decide_true, decide_false, Bool.not_true, Bool.not_false, ite_true, ite_false, and_self, true_and, and_true, or_self, true_or, or_true, false_or, or_false, decide_eq_true_eq, Int.reduceAdd, Int.reduceSub, Int.reduceMul, Int.reduceNeg, Int.reduceEq, Int.reduceLT, Int.reduceLE, Int.reduceNe, lcmp_z, lcmp_le, lcmp_ge, lcmp_lt, lcmp_gt, decide_eq_true, decide_eq_false, if_pos, if_neg, gf_17, r1]
            · have q1 := k8 16 6 (Or.inr (Or.inr ⟨rfl, rfl⟩))
              have q3 := (opc_b (R := R') (by omega) (by omega)).2.2.mpr k3.2.2.2.2.1
              rw [q1, h6, q3]
          · refine ⟨-3, C, R, ?_, ?_, H, cf2_refl C, rfr_refl R⟩
            · show am_evm am_PP nX6_run [(2, 16), (0, way), (0, many), (0, x)] C = _
              rw [eC]
              simp (disch := omega) only [be_X6_run_7, be_X6_run_8, Option.bind_some, cond_true, cond_false, decide_true, decide_false, Bool.not_true, Bool.not_false, ite_true, ite_false, and_self, true_and, and_true, or_self, true_or, or_true, false_or, or_false, decide_eq_true_eq, Int.reduceAdd, Int.reduceSub, Int.reduceMul, Int.reduceNeg, Int.reduceEq, Int.reduceLT, Int.reduceLE, Int.reduceNe, lcmp_z, lcmp_le, lcmp_ge, lcmp_lt, lcmp_gt, decide_eq_true, decide_eq_false, if_pos, if_neg, gf_16, r3]
            · show am_evm am_PP nX7_run [(2, 17), (0, way), (0, many), (0, x)] R = _
              rw [eR]
              simp (disch := omega) only [be_X7_run_5, be_X7_run_9, be_X7_run_10, Option.bind_some, cond_true, cond_false, decide_true, decide_false, Bool.not_true, Bool.not_false, ite_true, ite_false, and_self, true_and, and_true, or_self, true_or, or_true, false_or, or_false, decide_eq_true_eq, Int.reduceAdd, Int.reduceSub, Int.reduceMul, Int.reduceNeg, Int.reduceEq, Int.reduceLT, Int.reduceLE, Int.reduceNe, lcmp_z, lcmp_le, lcmp_ge, lcmp_lt, lcmp_gt, decide_eq_true, decide_eq_false, if_pos, if_neg, gf_17, r1]
      · rw [if_neg c3] at hw
        refine ⟨-2, C, R, ?_, ?_, H, cf2_refl C, rfr_refl R⟩
        · show am_evm am_PP nX6_run [(2, 16), (0, way), (0, many), (0, x)] C = _
          simp (disch := omega) only [be_X6_run_m, be_X6_run_0, be_X6_run_1, be_X6_run_2, be_X6_run_3, be_X6_run_5, be_X6_run_6, Option.bind_some, cond_true, cond_false, decide_true, decide_false, Bool.not_true, Bool.not_false, ite_true, ite_false, and_self, true_and, and_true, or_self, true_or, or_true, false_or, or_false, decide_eq_true_eq, Int.reduceAdd, Int.reduceSub, Int.reduceMul, Int.reduceNeg, Int.reduceEq, Int.reduceLT, Int.reduceLE, Int.reduceNe, lcmp_z, lcmp_le, lcmp_ge, lcmp_lt, lcmp_gt, decide_eq_true, decide_eq_false, if_pos, if_neg, gf_16, h6]
        · show am_evm am_PP nX7_run [(2, 17), (0, way), (0, many), (0, x)] R = _
          simp (disch := omega) only [be_X7_run_m, be_X7_run_0, be_X7_run_1, be_X7_run_3, be_X7_run_4, Option.bind_some, cond_true, cond_false, decide_true, decide_false, Bool.not_true, Bool.not_false, ite_true, ite_false, and_self, true_and, and_true, or_self, true_or, or_true, false_or, or_false, decide_eq_true_eq, Int.reduceAdd, Int.reduceSub, Int.reduceMul, Int.reduceNeg, Int.reduceEq, Int.reduceLT, Int.reduceLE, Int.reduceNe, lcmp_z, lcmp_le, lcmp_ge, lcmp_lt, lcmp_gt, decide_eq_true, decide_eq_false, if_pos, if_neg, cls_17, i1, i2, hw]
    · rw [if_neg c2] at i2
      refine ⟨-1, C, R, ?_, ?_, H, cf2_refl C, rfr_refl R⟩
      · show am_evm am_PP nX6_run [(2, 16), (0, way), (0, many), (0, x)] C = _
        by_cases c : many < 1
        · simp (disch := omega) only [be_X6_run_m, be_X6_run_0, be_X6_run_1, be_X6_run_2, be_X6_run_4, Option.bind_some, cond_true, cond_false, decide_true, decide_false, Bool.not_true, Bool.not_false, ite_true, ite_false, and_self, true_and, and_true, or_self, true_or, or_true, false_or, or_false, decide_eq_true_eq, Int.reduceAdd, Int.reduceSub, Int.reduceMul, Int.reduceNeg, Int.reduceEq, Int.reduceLT, Int.reduceLE, Int.reduceNe, lcmp_z, lcmp_le, lcmp_ge, lcmp_lt, lcmp_gt, decide_eq_true, decide_eq_false, if_pos, if_neg]
        · simp (disch := omega) only [be_X6_run_m, be_X6_run_0, be_X6_run_1, be_X6_run_2, be_X6_run_3, be_X6_run_4, Option.bind_some, cond_true, cond_false, decide_true, decide_false, Bool.not_true, Bool.not_false, ite_true, ite_false, and_self, true_and, and_true, or_self, true_or, or_true, false_or, or_false, decide_eq_true_eq, Int.reduceAdd, Int.reduceSub, Int.reduceMul, Int.reduceNeg, Int.reduceEq, Int.reduceLT, Int.reduceLE, Int.reduceNe, lcmp_z, lcmp_le, lcmp_ge, lcmp_lt, lcmp_gt, decide_eq_true, decide_eq_false, if_pos, if_neg]
      · show am_evm am_PP nX7_run [(2, 17), (0, way), (0, many), (0, x)] R = _
        simp (disch := omega) only [be_X7_run_m, be_X7_run_0, be_X7_run_1, be_X7_run_2, Option.bind_some, cond_true, cond_false, decide_true, decide_false, Bool.not_true, Bool.not_false, ite_true, ite_false, and_self, true_and, and_true, or_self, true_or, or_true, false_or, or_false, decide_eq_true_eq, Int.reduceAdd, Int.reduceSub, Int.reduceMul, Int.reduceNeg, Int.reduceEq, Int.reduceLT, Int.reduceLE, Int.reduceNe, lcmp_z, lcmp_le, lcmp_ge, lcmp_lt, lcmp_gt, decide_eq_true, decide_eq_false, if_pos, if_neg, i1, i2]
  · rw [if_neg c1] at i1
    refine ⟨-1, C, R, ?_, ?_, H, cf2_refl C, rfr_refl R⟩
    · show am_evm am_PP nX6_run [(2, 16), (0, way), (0, many), (0, x)] C = _
      by_cases c : way < 0
      · simp (disch := omega) only [be_X6_run_m, be_X6_run_0, be_X6_run_4, Option.bind_some, cond_true, cond_false, decide_true, decide_false, Bool.not_true, Bool.not_false, ite_true, ite_false, and_self, true_and, and_true, or_self, true_or, or_true, false_or, or_false, decide_eq_true_eq, Int.reduceAdd, Int.reduceSub, Int.reduceMul, Int.reduceNeg, Int.reduceEq, Int.reduceLT, Int.reduceLE, Int.reduceNe, lcmp_z, lcmp_le, lcmp_ge, lcmp_lt, lcmp_gt, decide_eq_true, decide_eq_false, if_pos, if_neg]
      · simp (disch := omega) only [be_X6_run_m, be_X6_run_0, be_X6_run_1, be_X6_run_4, Option.bind_some, cond_true, cond_false, decide_true, decide_false, Bool.not_true, Bool.not_false, ite_true, ite_false, and_self, true_and, and_true, or_self, true_or, or_true, false_or, or_false, decide_eq_true_eq, Int.reduceAdd, Int.reduceSub, Int.reduceMul, Int.reduceNeg, Int.reduceEq, Int.reduceLT, Int.reduceLE, Int.reduceNe, lcmp_z, lcmp_le, lcmp_ge, lcmp_lt, lcmp_gt, decide_eq_true, decide_eq_false, if_pos, if_neg]
    · show am_evm am_PP nX7_run [(2, 17), (0, way), (0, many), (0, x)] R = _
      simp (disch := omega) only [be_X7_run_m, be_X7_run_0, be_X7_run_2, Option.bind_some, cond_true, cond_false, decide_true, decide_false, Bool.not_true, Bool.not_false, ite_true, ite_false, and_self, true_and, and_true, or_self, true_or, or_true, false_or, or_false, decide_eq_true_eq, Int.reduceAdd, Int.reduceSub, Int.reduceMul, Int.reduceNeg, Int.reduceEq, Int.reduceLT, Int.reduceLE, Int.reduceNe, lcmp_z, lcmp_le, lcmp_ge, lcmp_lt, lcmp_gt, decide_eq_true, decide_eq_false, if_pos, if_neg, i1]
