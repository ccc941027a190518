/-! the call band -/
def goodb (R : am_M) (f o t p wd : Int) : Prop := (0 ≤ f ∧ f < R 17 0) ∧ (0 ≤ t ∧ t < R 17 0) ∧ (1 ≤ wd ∧ wd ≤ 50) ∧ (0 ≤ o ∧ o < k_out (R 309 f)) ∧ (0 ≤ p ∧ p < k_in (R 309 t))
theorem band_heads {C R : am_M} (hR : rs R) (hh : hall C R) (hn : net C R) (f o t p wd : Int) : (goodb R f o t p wd ∧ am_evm am_PP nX6_band [(2, 16), (0, f), (0, o), (0, t), (0, p), (0, wd)] C = am_ev am_PP nX6_band 8 [16, o, p, wd, 15 + 256 * f, 15 + 256 * t] [] C ∧ am_evm am_PP nX7_band [(2, 17), (0, f), (0, o), (0, t), (0, p), (0, wd)] R = am_ev am_PP nX7_band 6 [17, f, o, t, p, wd] [] R) ∨ (am_evm am_PP nX6_band [(2, 16), (0, f), (0, o), (0, t), (0, p), (0, wd)] C = some (-1, C) ∧ am_evm am_PP nX7_band [(2, 17), (0, f), (0, o), (0, t), (0, p), (0, wd)] R = some (-1, R)) := by
  obtain ⟨g0, g1, g2, g3, g4, g5, g6, g7, g8, g9, g10, g11, g12, g13⟩ := id hh
  have af := at_w hh hn f
  have at' := at_w hh hn t
  have wf := rf_isWeaver f g9 g10
  have wt := rf_isWeaver t g9 g10
  by_cases cf : 0 ≤ f ∧ f < R 17 0
  · rw [if_pos cf] at af wf
    by_cases ct : 0 ≤ t ∧ t < R 17 0
    · rw [if_pos ct] at at' wt
      have e1 : am_evm am_PP nX6_band [(2, 16), (0, f), (0, o), (0, t), (0, p), (0, wd)] C = am_ev am_PP nX6_band 2 [16, o, p, wd, 15 + 256 * f, 15 + 256 * t] [] C := by
        simp (disch := omega) only [be_X6_band_m, be_X6_band_0, be_X6_band_1, Option.bind_some, cond_true, cond_false, decide_true, decide_false, Bool.not_true, Bool.not_false, ite_true, ite_false, and_self, true_and, and_true, or_self, true_or, or_true, false_or, or_false, decide_eq_true_eq, Int.reduceAdd, Int.reduceSub, Int.reduceMul, Int.reduceNeg, Int.reduceEq, Int.reduceLT, Int.reduceLE, Int.reduceNe, lcmp_z, lcmp_le, lcmp_ge, lcmp_lt, lcmp_gt, decide_eq_true, decide_eq_false, if_pos, if_neg, cls_16, af, at']
      have e2 : am_evm am_PP nX7_band [(2, 17), (0, f), (0, o), (0, t), (0, p), (0, wd)] R = am_ev am_PP nX7_band 2 [17, f, o, t, p, wd] [] R := by
        simp (disch := omega) only [be_X7_band_m, be_X7_band_0, be_X7_band_1, Option.bind_some, cond_true, cond_false, decide_true, decide_false, Bool.not_true, Bool.not_false, ite_true, ite_false, and_self, true_and, and_true, or_self, true_or, or_true, false_or, or_false, decide_eq_true_eq, Int.reduceAdd, Int.reduceSub, Int.reduceMul, Int.reduceNeg, Int.reduceEq, Int.reduceLT, Int.reduceLE, Int.reduceNe, lcmp_z, lcmp_le, lcmp_ge, lcmp_lt, lcmp_gt, decide_eq_true, decide_eq_false, if_pos, if_neg, cls_17, wf, wt]
      rw [e1, e2]
      clear e1 e2 af at' wf wt
      obtain ⟨f0, f1⟩ := cf
      obtain ⟨t0, t1⟩ := ct
      have hkf := (hn.1 f f0 f1).2.1.2.1
      have hkt := (hn.1 t t0 t1).2.1.2.1
      have kf0 := (hn.1 f f0 f1).2.1.2.2.2.1
      have kf1 := (hn.1 f f0 f1).2.1.2.2.2.2.1
      have kt0 := (hn.1 t t0 t1).2.1.2.2.2.1
      have kt1 := (hn.1 t t0 t1).2.1.2.2.2.2.1
      have tf := (g13 _ kf0 (by omega)).2
      have tt := (g13 _ kt0 (by omega)).1
      have bo := kout_b (R 309 f)
      have bi := kin_b (R 309 t)
      have hw := cl_isToldWidth C wd
      have iw := rf_in R wd 1 50
      have io := rf_in R o 0 (k_out (R 309 f) - 1)
      have ip := rf_in R p 0 (k_in (R 309 t) - 1)
      have fo := rf_outsOf R (R 309 f)
      have fi := rf_insOf R (R 309 t)
      obtain ⟨r1, r2, r3, r4, r5, r6, r7, r8, r9, r10, r12, r13, r14, r15, r16, r18, r19, r20, r21, r22, r23, r24, r25, r26, r27, r28, r30, r31, r32, r33, r34, r35, r36, r37, r38, r39, r40, r41, r44, r49, r50, r51, r52, r54⟩ := hR
      generalize hko : k_out (R 309 f) = ko at *
      generalize hki : k_in (R 309 t) = ki at *
      by_cases cw : 1 ≤ wd ∧ wd ≤ 50
      · rw [if_pos cw] at hw iw
        by_cases co : 0 ≤ o ∧ o < ko
        · rw [if_pos (by omega)] at io
          by_cases cp : 0 ≤ p ∧ p < ki
          · rw [if_pos (by omega)] at ip
            refine Or.inl ⟨⟨⟨f0, f1⟩, ⟨t0, t1⟩, cw, by rw [hko]; exact co, by rw [hki]; exact cp⟩, ?_, ?_⟩
            · simp (disch := omega) only [be_X6_band_2, be_X6_band_3, be_X6_band_4, be_X6_band_5, be_X6_band_6, Option.bind_some, cond_true, cond_false, decide_true, decide_false, Bool.not_true, Bool.not_false, ite_true, ite_false, and_self, true_and, and_true, or_self, true_or, or_true, false_or, or_false, decide_eq_true_eq, Int.reduceAdd, Int.reduceSub, Int.reduceMul, Int.reduceNeg, Int.reduceEq, Int.reduceLT, Int.reduceLE, Int.reduceNe, lcmp_z, lcmp_le, lcmp_ge, lcmp_lt, lcmp_gt, decide_eq_true, decide_eq_false, if_pos, if_neg, gf_15, hw, hkf, hkt, am_ald_2, am_ald_3, tf, tt]
            · simp (disch := omega) only [be_X7_band_2, be_X7_band_3, be_X7_band_4, Option.bind_some, cond_true, cond_false, decide_true, decide_false, Bool.not_true, Bool.not_false, ite_true, ite_false, and_self, true_and, and_true, or_self, true_or, or_true, false_or, or_false, decide_eq_true_eq, Int.reduceAdd, Int.reduceSub, Int.reduceMul, Int.reduceNeg, Int.reduceEq, Int.reduceLT, Int.reduceLE, Int.reduceNe, lcmp_z, lcmp_le, lcmp_ge, lcmp_lt, lcmp_gt, decide_eq_true, decide_eq_false, if_pos, if_neg, gf_17, r1, ra_309, fo, fi, am_w32_ok, io, ip, iw]
          · rw [if_neg (by omega)] at ip
            refine Or.inr ⟨?_, ?_⟩
            · by_cases c : p < 0
              · simp (disch := omega) only [be_X6_band_2, be_X6_band_3, be_X6_band_4, be_X6_band_5, be_X6_band_7, Option.bind_some, cond_true, cond_false, decide_true, decide_false, Bool.not_true, Bool.not_false, ite_true, ite_false, and_self, true_and, and_true, or_self, true_or, or_true, false_or, or_false, decide_eq_true_eq, Int.reduceAdd, Int.reduceSub, Int.reduceMul, Int.reduceNeg, Int.reduceEq, Int.reduceLT, Int.reduceLE, Int.reduceNe, lcmp_z, lcmp_le, lcmp_ge, lcmp_lt, lcmp_gt, decide_eq_true, decide_eq_false, if_pos, if_neg, gf_15, hw, hkf, am_ald_3, tf]
              · simp (disch := omega) only [be_X6_band_2, be_X6_band_3, be_X6_band_4, be_X6_band_5, be_X6_band_6, be_X6_band_7, Option.bind_some, cond_true, cond_false, decide_true, decide_false, Bool.not_true, Bool.not_false, ite_true, ite_false, and_self, true_and, and_true, or_self, true_or, or_true, false_or, or_false, decide_eq_true_eq, Int.reduceAdd, Int.reduceSub, Int.reduceMul, Int.reduceNeg, Int.reduceEq, Int.reduceLT, Int.reduceLE, Int.reduceNe, lcmp_z, lcmp_le, lcmp_ge, lcmp_lt, lcmp_gt, decide_eq_true, decide_eq_false, if_pos, if_neg, gf_15, hw, hkf, hkt, am_ald_2, am_ald_3, tf, tt]
            · simp (disch := omega) only [be_X7_band_2, be_X7_band_3, be_X7_band_5, Option.bind_some, cond_true, cond_false, decide_true, decide_false, Bool.not_true, Bool.not_false, ite_true, ite_false, and_self, true_and, and_true, or_self, true_or, or_true, false_or, or_false, decide_eq_true_eq, Int.reduceAdd, Int.reduceSub, Int.reduceMul, Int.reduceNeg, Int.reduceEq, Int.reduceLT, Int.reduceLE, Int.reduceNe, lcmp_z, lcmp_le, lcmp_ge, lcmp_lt, lcmp_gt, decide_eq_true, decide_eq_false, if_pos, if_neg, gf_17, r1, ra_309, fo, fi, am_w32_ok, io, ip]
        · rw [if_neg (by omega)] at io
          refine Or.inr ⟨?_, ?_⟩
          · by_cases c : o < 0
            · simp (disch := omega) only [be_X6_band_2, be_X6_band_3, be_X6_band_7, Option.bind_some, cond_true, cond_false, decide_true, decide_false, Bool.not_true, Bool.not_false, ite_true, ite_false, and_self, true_and, and_true, or_self, true_or, or_true, false_or, or_false, decide_eq_true_eq, Int.reduceAdd, Int.reduceSub, Int.reduceMul, Int.reduceNeg, Int.reduceEq, Int.reduceLT, Int.reduceLE, Int.reduceNe, lcmp_z, lcmp_le, lcmp_ge, lcmp_lt, lcmp_gt, decide_eq_true, decide_eq_false, if_pos, if_neg, hw]
            · simp (disch := omega) only [be_X6_band_2, be_X6_band_3, be_X6_band_4, be_X6_band_7, Option.bind_some, cond_true, cond_false, decide_true, decide_false, Bool.not_true, Bool.not_false, ite_true, ite_false, and_self, true_and, and_true, or_self, true_or, or_true, false_or, or_false, decide_eq_true_eq, Int.reduceAdd, Int.reduceSub, Int.reduceMul, Int.reduceNeg, Int.reduceEq, Int.reduceLT, Int.reduceLE, Int.reduceNe, lcmp_z, lcmp_le, lcmp_ge, lcmp_lt, lcmp_gt, decide_eq_true, decide_eq_false, if_pos, if_neg, gf_15, hw, hkf, am_ald_3, tf]
          · simp (disch := omega) only [be_X7_band_2, be_X7_band_5, Option.bind_some, cond_true, cond_false, decide_true, decide_false, Bool.not_true, Bool.not_false, ite_true, ite_false, and_self, true_and, and_true, or_self, true_or, or_true, false_or, or_false, decide_eq_true_eq, Int.reduceAdd, Int.reduceSub, Int.reduceMul, Int.reduceNeg, Int.reduceEq, Int.reduceLT, Int.reduceLE, Int.reduceNe, lcmp_z, lcmp_le, lcmp_ge, lcmp_lt, lcmp_gt, decide_eq_true, decide_eq_false, if_pos, if_neg, gf_17, r1, ra_309, fo, am_w32_ok, io]
      · rw [if_neg cw] at hw iw
        refine Or.inr ⟨?_, ?_⟩
        · simp (disch := omega) only [be_X6_band_2, be_X6_band_7, Option.bind_some, cond_true, cond_false, decide_true, decide_false, Bool.not_true, Bool.not_false, ite_true, ite_false, and_self, true_and, and_true, or_self, true_or, or_true, false_or, or_false, decide_eq_true_eq, Int.reduceAdd, Int.reduceSub, Int.reduceMul, Int.reduceNeg, Int.reduceEq, Int.reduceLT, Int.reduceLE, Int.reduceNe, lcmp_z, lcmp_le, lcmp_ge, lcmp_lt, lcmp_gt, decide_eq_true, decide_eq_false, if_pos, if_neg, hw]
        · by_cases co : 0 ≤ o ∧ o < ko
          · rw [if_pos (by omega)] at io
            by_cases cp : 0 ≤ p ∧ p < ki
            · rw [if_pos (by omega)] at ip
              simp (disch := omega) only [be_X7_band_2, be_X7_band_3, be_X7_band_4, be_X7_band_5, Option.bind_some, cond_true, cond_false, decide_true, decide_false, Bool.not_true, Bool.not_false, ite_true, ite_false, and_self, true_and, and_true, or_self, true_or, or_true, false_or, or_false, decide_eq_true_eq, Int.reduceAdd, Int.reduceSub, Int.reduceMul, Int.reduceNeg, Int.reduceEq, Int.reduceLT, Int.reduceLE, Int.reduceNe, lcmp_z, lcmp_le, lcmp_ge, lcmp_lt, lcmp_gt, decide_eq_true, decide_eq_false, if_pos, if_neg, gf_17, r1, ra_309, fo, fi, am_w32_ok, io, ip, iw]
            · rw [if_neg (by omega)] at ip
              simp (disch := omega) only [be_X7_band_2, be_X7_band_3, be_X7_band_5, Option.bind_some, cond_true, cond_false, decide_true, decide_false, Bool.not_true, Bool.not_false, ite_true, ite_false, and_self, true_and, and_true, or_self, true_or, or_true, false_or, or_false, decide_eq_true_eq, Int.reduceAdd, Int.reduceSub, Int.reduceMul, Int.reduceNeg, Int.reduceEq, Int.reduceLT, Int.reduceLE, Int.reduceNe, lcmp_z, lcmp_le, lcmp_ge, lcmp_lt, lcmp_gt, decide_eq_true, decide_eq_false, if_pos, if_neg, gf_17, r1, ra_309, fo, fi, am_w32_ok, io, ip]
          · rw [if_neg (by omega)] at io
            simp (disch := omega) only [be_X7_band_2, be_X7_band_5, Option.bind_some, cond_true, cond_false, decide_true, decide_false, Bool.not_true, Bool.not_false, ite_true, ite_false, and_self, true_and, and_true, or_self, true_or, or_true, false_or, or_false, decide_eq_true_eq, Int.reduceAdd, Int.reduceSub, Int.reduceMul, Int.reduceNeg, Int.reduceEq, Int.reduceLT, Int.reduceLE, Int.reduceNe, lcmp_z, lcmp_le, lcmp_ge, lcmp_lt, lcmp_gt, decide_eq_true, decide_eq_false, if_pos, if_neg, gf_17, r1, ra_309, fo, am_w32_ok, io]
    · rw [if_neg ct] at at' wt
      refine Or.inr ⟨?_, ?_⟩
      · simp (disch := omega) only [be_X6_band_m, be_X6_band_0, be_X6_band_1, be_X6_band_7, Option.bind_some, cond_true, cond_false, decide_true, decide_false, Bool.not_true, Bool.not_false, ite_true, ite_false, and_self, true_and, and_true, or_self, true_or, or_true, false_or, or_false, decide_eq_true_eq, Int.reduceAdd, Int.reduceSub, Int.reduceMul, Int.reduceNeg, Int.reduceEq, Int.reduceLT, Int.reduceLE, Int.reduceNe, lcmp_z, lcmp_le, lcmp_ge, lcmp_lt, lcmp_gt, decide_eq_true, decide_eq_false, if_pos, if_neg, cls_16, af, at']
      · simp (disch := omega) only [be_X7_band_m, be_X7_band_0, be_X7_band_1, be_X7_band_5, Option.bind_some, cond_true, cond_false, decide_true, decide_false, Bool.not_true, Bool.not_false, ite_true, ite_false, and_self, true_and, and_true, or_self, true_or, or_true, false_or, or_false, decide_eq_true_eq, Int.reduceAdd, Int.reduceSub, Int.reduceMul, Int.reduceNeg, Int.reduceEq, Int.reduceLT, Int.reduceLE, Int.reduceNe, lcmp_z, lcmp_le, lcmp_ge, lcmp_lt, lcmp_gt, decide_eq_true, decide_eq_false, if_pos, if_neg, cls_17, wf, wt]
  · rw [if_neg cf] at af wf
    refine Or.inr ⟨?_, ?_⟩
    · simp (disch := omega) only [be_X6_band_m, be_X6_band_0, be_X6_band_7, Option.bind_some, cond_true, cond_false, decide_true, decide_false, Bool.not_true, Bool.not_false, ite_true, ite_false, and_self, true_and, and_true, or_self, true_or, or_true, false_or, or_false, decide_eq_true_eq, Int.reduceAdd, Int.reduceSub, Int.reduceMul, Int.reduceNeg, Int.reduceEq, Int.reduceLT, Int.reduceLE, Int.reduceNe, lcmp_z, lcmp_le, lcmp_ge, lcmp_lt, lcmp_gt, decide_eq_true, decide_eq_false, if_pos, if_neg, cls_16, af, at']
    · simp (disch := omega) only [be_X7_band_m, be_X7_band_0, be_X7_band_5, Option.bind_some, cond_true, cond_false, decide_true, decide_false, Bool.not_true, Bool.not_false, ite_true, ite_false, and_self, true_and, and_true, or_self, true_or, or_true, false_or, or_false, decide_eq_true_eq, Int.reduceAdd, Int.reduceSub, Int.reduceMul, Int.reduceNeg, Int.reduceEq, Int.reduceLT, Int.reduceLE, Int.reduceNe, lcmp_z, lcmp_le, lcmp_ge, lcmp_lt, lcmp_gt, decide_eq_true, decide_eq_false, if_pos, if_neg, cls_17, wf]
theorem bl_z (x : Int) : (bl x = 0 ↔ x < 0) := by
  unfold bl
  split <;> omega
theorem rf_band {R : am_M} {B f o t p wd : Int} (hR : rs R) (hB : R 17 11 = B) (B0 : 0 ≤ B) (B1 : B < 60) (h17 : R 17 17 = 0) (f0 : 0 ≤ f) (f1 : f < 40) (t0 : 0 ≤ t) (t1 : t < 40) (o0 : 0 ≤ o) (o1 : o < 2) (p0 : 0 ≤ p) (p1 : p < 3) (u62 : R 62 (2 * f + o) < 0) (u63 : R 63 (3 * t + p) < 0) : am_ev am_PP nX7_band 6 [17, f, o, t, p, wd] [] R = some (B, am_up (am_up (am_up (am_up (am_up (am_up (am_up (am_up R 61 B f) 317 B t) 573 B o) 829 B p) 1085 B wd) 62 (2 * f + o) B) 63 (3 * t + p) B) 17 11 (B + 1)) := by
  obtain ⟨r1, r2, r3, r4, r5, r6, r7, r8, r9, r10, r12, r13, r14, r15, r16, r18, r19, r20, r21, r22, r23, r24, r25, r26, r27, r28, r30, r31, r32, r33, r34, r35, r36, r37, r38, r39, r40, r41, r44, r49, r50, r51, r52, r54⟩ := hR
  simp (disch := omega) only [be_X7_band_6, be_X7_band_7, be_X7_band_8, be_X7_band_10, be_X7_band_12, Option.bind_some, cond_true, cond_false, decide_true, decide_false, Bool.not_true, Bool.not_false, ite_true, ite_false, and_self, true_and, and_true, or_self, true_or, or_true, false_or, or_false, decide_eq_true_eq, Int.reduceAdd, Int.reduceSub, Int.reduceMul, Int.reduceNeg, Int.reduceEq, Int.reduceLT, Int.reduceLE, Int.reduceNe, lcmp_z, lcmp_le, lcmp_ge, lcmp_lt, lcmp_gt, decide_eq_true, decide_eq_false, if_pos, if_neg, am_up_eq, am_up_nl, am_up_ni, gf_17, pf_17, h17, hB, r3, r4, r12, r13, r14, r15, r16, ra_62, ra_63, sa_61, sa_317, sa_573, sa_829, sa_1085, sa_62, sa_63, am_w32_ok]
set_option maxHeartbeats 4000000 in
theorem api_band (f o t p wd : Int) : API nX6_band nX7_band [(0, f), (0, o), (0, t), (0, p), (0, wd)] := by
  intro C R H
  obtain ⟨hR, hh, hn, ho⟩ := INV_hall H
  obtain ⟨g0, g1, g2, g3, g4, g5, g6, g7, g8, g9, g10, g11, g12, g13⟩ := id hh
  rcases band_heads hR hh hn f o t p wd with ⟨⟨⟨f0, f1⟩, ⟨t0, t1⟩, ⟨d0, d1⟩, ⟨o0, o1⟩, ⟨p0, p1⟩⟩, e1, e2⟩ | ⟨e1, e2⟩
  · have bo := kout_b (R 309 f)
    have bi := kin_b (R 309 t)
    rcases INV_run H with ⟨q1, q2, N⟩ | ⟨q1, q2⟩
    · obtain ⟨x1, x2, x3⟩ := hn.1 f f0 f1
      obtain ⟨y1, y2, y3⟩ := hn.1 t t0 t1
      have co := (x3.2 o o0 (by omega)).1
      have ci := (y3.1 p p0 (by omega)).1
      have c2 := x2.1.2.2.1
      have c1 := y2.1.2.1
      have zo := bl_z (R 62 (2 * f + o))
      have zi := bl_z (R 63 (3 * t + p))
      by_cases u62 : R 62 (2 * f + o) < 0
      · have co0 : C (56 + 256 * f) o = 0 := co.trans (zo.mpr u62)
        by_cases u63 : R 63 (3 * t + p) < 0
        · have ci0 : C (55 + 256 * t) p = 0 := ci.trans (zi.mpr u63)
          clear zo zi
          by_cases cB : R 17 11 = 60
          · refine ⟨-3, C, R, e1.trans ?_, e2.trans ?_, H, cf2_refl C, rfr_refl R⟩
            · simp (disch := omega) only [be_X6_band_8, be_X6_band_9, be_X6_band_10, be_X6_band_12, be_X6_band_13, Option.bind_some, cond_true, cond_false, decide_true, decide_false, Bool.not_true, Bool.not_false, ite_true, ite_false, and_self, true_and, and_true, or_self, true_or, or_true, false_or, or_false, decide_eq_true_eq, Int.reduceAdd, Int.reduceSub, Int.reduceMul, Int.reduceNeg, Int.reduceEq, Int.reduceLT, Int.reduceLE, Int.reduceNe, lcmp_z, lcmp_le, lcmp_ge, lcmp_lt, lcmp_gt, decide_eq_true, decide_eq_false, if_pos, if_neg, gf_15, gf_16, ra_55, ra_56, q2, c1, c2, co0, ci0, g8, cB]
            · obtain ⟨r1, r2, r3, r4, r5, r6, r7, r8, r9, r10, r12, r13, r14, r15, r16, r18, r19, r20, r21, r22, r23, r24, r25, r26, r27, r28, r30, r31, r32, r33, r34, r35, r36, r37, r38, r39, r40, r41, r44, r49, r50, r51, r52, r54⟩ := hR
              simp (disch := omega) only [be_X7_band_6, be_X7_band_7, be_X7_band_8, be_X7_band_10, be_X7_band_11, Option.bind_some, cond_true, cond_false, decide_true, decide_false, Bool.not_true, Bool.not_false, ite_true, ite_false, and_self, true_and, and_true, or_self, true_or, or_true, false_or, or_false, decide_eq_true_eq, Int.reduceAdd, Int.reduceSub, Int.reduceMul, Int.reduceNeg, Int.reduceEq, Int.reduceLT, Int.reduceLE, Int.reduceNe, lcmp_z, lcmp_le, lcmp_ge, lcmp_lt, lcmp_gt, decide_eq_true, decide_eq_false, if_pos, if_neg, gf_17, q1, r3, r4, ra_62, ra_63, am_w32_ok, cB]
          · obtain ⟨B, hB⟩ : ∃ B, R 17 11 = B := ⟨_, rfl⟩
            rw [hB] at g8 g11 g12 cB
            have hmk : ∃ C1, am_ev am_PP nX6_band 8 [16, o, p, wd, 15 + 256 * f, 15 + 256 * t] [] C = am_ev am_PP nX6_band 16 [16, o, p, wd, 15 + 256 * f, 15 + 256 * t, 10 + 256 * B] [] C1 ∧ C1 51 B = 10 + 256 * B ∧ bsh C1 B ∧ ∀ L i, ¬ (bt B L ∨ L = -2 ∨ (L = -1 ∧ bt B i) ∨ (L = 51 ∧ i = B)) → C1 L i = C L i := by
              rcases ho.2 B (by omega) (by omega) with ⟨z, y⟩ | ⟨z, fm, to, td, wn, tw, o', mo, mk, n, V0, t0, y⟩
              · obtain ⟨C1, m1, m2, m3, m4⟩ := mk_band (x := o) (y := p) (z := wd) (f := 15 + 256 * f) (t := 15 + 256 * t) g11 (by omega) g1 g8 y
                refine ⟨C1, ?_, m2, m3, m4⟩
                rw [← m1]
                simp (disch := omega) only [be_X6_band_8, be_X6_band_9, be_X6_band_10, be_X6_band_12, be_X6_band_14, Option.bind_some, cond_true, cond_false, decide_true, decide_false, Bool.not_true, Bool.not_false, ite_true, ite_false, and_self, true_and, and_true, or_self, true_or, or_true, false_or, or_false, decide_eq_true_eq, Int.reduceAdd, Int.reduceSub, Int.reduceMul, Int.reduceNeg, Int.reduceEq, Int.reduceLT, Int.reduceLE, Int.reduceNe, lcmp_z, lcmp_le, lcmp_ge, lcmp_lt, lcmp_gt, decide_eq_true, decide_eq_false, if_pos, if_neg, gf_15, gf_16, ra_55, ra_56, ra_51, q2, c1, c2, co0, ci0, g8, g1, z]
              · refine ⟨C, ?_, z, ?_, fun _ _ _ => rfl⟩
                · simp (disch := omega) only [be_X6_band_8, be_X6_band_9, be_X6_band_10, be_X6_band_12, be_X6_band_14, Option.bind_some, cond_true, cond_false, decide_true, decide_false, Bool.not_true, Bool.not_false, ite_true, ite_false, and_self, true_and, and_true, or_self, true_or, or_true, false_or, or_false, decide_eq_true_eq, Int.reduceAdd, Int.reduceSub, Int.reduceMul, Int.reduceNeg, Int.reduceEq, Int.reduceLT, Int.reduceLE, Int.reduceNe, lcmp_z, lcmp_le, lcmp_ge, lcmp_lt, lcmp_gt, decide_eq_true, decide_eq_false, if_pos, if_neg, gf_15, gf_16, ra_55, ra_56, ra_51, q2, c1, c2, co0, ci0, g8, g1, z]
                · obtain ⟨a0, a1, _, _, _, _, _, _, _, a9, a10⟩ := y
                  exact ⟨a0, a1, _, _, _, _, a9, a10⟩
            obtain ⟨C1, m1, m2, m3, m4⟩ := hmk
            have hrb := rf_band (wd := wd) hR hB (by omega) (by omega) q1 f0 (by omega) t0 (by omega) o0 (by omega) p0 (by omega) u62 u63
            obtain ⟨C2, j1, j2, j3⟩ := join_ev (f := f) (t := t) (wd := wd) (by omega) (by omega) m3
            have eC : ∀ L i, ¬ (bt B L ∨ L = -2 ∨ (L = -1 ∧ bt B i) ∨ (L = 51 ∧ i = B)) → C2 L i = C L i := fun L i q => (j2 L i (fun z => q (Or.inl z)) (fun z => q (Or.inr (Or.inl z))) (fun z y => q (Or.inr (Or.inr (Or.inl ⟨z, y⟩))))).trans (m4 L i q)
            have k2 : C2 (15 + 256 * f) 2 = 56 + 256 * f := (eC _ _ (by unfold bt; omega)).trans c2
            have k1 : C2 (15 + 256 * t) 1 = 55 + 256 * t := (eC _ _ (by unfold bt; omega)).trans c1
            have k6 : C2 16 6 = opc R := (eC _ _ (by unfold bt; omega)).trans H.1
            have k5 : C2 16 5 = B := (eC _ _ (by unfold bt; omega)).trans g8
            have kn : C2 (10 + 256 * B) 0 = B := (j3 (fun _ => 0) 0).1
            obtain ⟨o1', o2', o3'⟩ := opc_b g9 g10
            have xx : ∀ L i, ¬ ((L = 16 ∧ (i = 5 ∨ i = 6)) ∨ (L = 56 + 256 * f ∧ i = o) ∨ (L = 55 + 256 * t ∧ i = p)) → am_up (am_up (am_up (am_up C2 (56 + 256 * f) o (10 + 256 * B)) (55 + 256 * t) p (10 + 256 * B)) 16 6 (opc R - 2)) 16 5 (B + 1) L i = C2 L i := fun L i q => by simp (disch := omega) only [am_up_or]
            obtain ⟨i1, i2, i3⟩ := INV_join (C' := am_up (am_up (am_up (am_up C2 (56 + 256 * f) o (10 + 256 * B)) (55 + 256 * t) p (10 + 256 * B)) 16 6 (opc R - 2)) 16 5 (B + 1)) (R' := am_up (am_up (am_up (am_up (am_up (am_up (am_up (am_up R 61 B f) 317 B t) 573 B o) 829 B p) 1085 B wd) 62 (2 * f + o) B) 63 (3 * t + p) B) 17 11 (B + 1)) (wd := wd) H.1 N hB (by omega) f0 f1 t0 t1 o0 o1 p0 p1 d0 d1 u62 u63 (fun L i q => (xx L i (fun z => q (Or.inr (Or.inr (Or.inr (Or.inr z)))))).trans (eC L i (fun z => q (z.elim Or.inl (fun z => Or.inr (z.elim Or.inl (fun z => Or.inr (z.elim Or.inl (fun z => Or.inr (Or.inl z)))))))))) (fun L i q => by unfold rtj at q; simp (disch := omega) only [am_up_or]) (by simp (disch := omega) only [am_up_eq, am_up_nl, am_up_ni]) (by simp (disch := omega) only [am_up_eq, am_up_nl, am_up_ni]) (by simp (disch := omega) only [am_up_eq, am_up_nl, am_up_ni]) (by simp (disch := omega) only [am_up_eq, am_up_nl, am_up_ni]) (by simp (disch := omega) only [am_up_eq, am_up_nl, am_up_ni]) (by simp (disch := omega) only [am_up_eq, am_up_nl, am_up_ni])
              (by rw [xx _ _ (by omega)]; exact (j2 _ _ (by unfold bt; omega) (by omega) (by omega)).trans m2) (by simp (disch := omega) only [am_up_eq, am_up_nl, am_up_ni]) (by rw [H.1]; simp (disch := omega) only [am_up_eq, am_up_nl, am_up_ni]) (by simp (disch := omega) only [am_up_eq, am_up_nl, am_up_ni]) (by simp (disch := omega) only [am_up_eq, am_up_nl, am_up_ni])
              (fun V t' => bcl_ext (by omega) (by omega) (j3 V t') (fun L i q => xx _ _ (by unfold bt at q; omega)) (fun L q => xx _ _ (by omega)) (fun _ _ _ _ => rfl) (fun _ _ _ => rfl))
            refine ⟨B, _, _, e1.trans (m1.trans ?_), e2.trans hrb, i1, i2, i3⟩
            clear i1 i2 i3
            simp (disch := omega) only [be_X6_band_16, Option.bind_some, cond_true, cond_false, decide_true, decide_false, Bool.not_true, Bool.not_false, ite_true, ite_false, and_self, true_and, and_true, or_self, true_or, or_true, false_or, or_false, decide_eq_true_eq, Int.reduceAdd, Int.reduceSub, Int.reduceMul, Int.reduceNeg, Int.reduceEq, Int.reduceLT, Int.reduceLE, Int.reduceNe, lcmp_z, lcmp_le, lcmp_ge, lcmp_lt, lcmp_gt, am_up_eq, am_up_nl, am_up_ni, gf_16, pf_16, gf_15, gf_10, cls_10, pos_10, sa_55, sa_56, j1, k1, k2, k5, k6, kn, am_w32_ok]
        · have ci0 : ¬ C (55 + 256 * t) p = 0 := fun z => u63 (zi.mp (ci.symm.trans z))
          clear zo zi
          refine ⟨-2, C, R, e1.trans ?_, e2.trans ?_, H, cf2_refl C, rfr_refl R⟩
          · simp (disch := omega) only [be_X6_band_8, be_X6_band_9, be_X6_band_10, be_X6_band_11, Option.bind_some, cond_true, cond_false, decide_true, decide_false, Bool.not_true, Bool.not_false, ite_true, ite_false, and_self, true_and, and_true, or_self, true_or, or_true, false_or, or_false, decide_eq_true_eq, Int.reduceAdd, Int.reduceSub, Int.reduceMul, Int.reduceNeg, Int.reduceEq, Int.reduceLT, Int.reduceLE, Int.reduceNe, lcmp_z, lcmp_le, lcmp_ge, lcmp_lt, lcmp_gt, gf_15, gf_16, ra_55, ra_56, q2, c1, c2, co0, decide_eq_false ci0]
          · obtain ⟨r1, r2, r3, r4, r5, r6, r7, r8, r9, r10, r12, r13, r14, r15, r16, r18, r19, r20, r21, r22, r23, r24, r25, r26, r27, r28, r30, r31, r32, r33, r34, r35, r36, r37, r38, r39, r40, r41, r44, r49, r50, r51, r52, r54⟩ := hR
            simp (disch := omega) only [be_X7_band_6, be_X7_band_7, be_X7_band_8, be_X7_band_9, Option.bind_some, cond_true, cond_false, decide_true, decide_false, Bool.not_true, Bool.not_false, ite_true, ite_false, and_self, true_and, and_true, or_self, true_or, or_true, false_or, or_false, decide_eq_true_eq, Int.reduceAdd, Int.reduceSub, Int.reduceMul, Int.reduceNeg, Int.reduceEq, Int.reduceLT, Int.reduceLE, Int.reduceNe, lcmp_z, lcmp_le, lcmp_ge, lcmp_lt, lcmp_gt, decide_eq_true, decide_eq_false, if_pos, if_neg, gf_17, q1, r3, r4, ra_62, ra_63, am_w32_ok]
      · have co0 : ¬ C (56 + 256 * f) o = 0 := fun z => u62 (zo.mp (co.symm.trans z))
        clear zo zi
        refine ⟨-2, C, R, e1.trans ?_, e2.trans ?_, H, cf2_refl C, rfr_refl R⟩
        · simp (disch := omega) only [be_X6_band_8, be_X6_band_9, be_X6_band_11, Option.bind_some, cond_true, cond_false, decide_true, decide_false, Bool.not_true, Bool.not_false, ite_true, ite_false, and_self, true_and, and_true, or_self, true_or, or_true, false_or, or_false, decide_eq_true_eq, Int.reduceAdd, Int.reduceSub, Int.reduceMul, Int.reduceNeg, Int.reduceEq, Int.reduceLT, Int.reduceLE, Int.reduceNe, lcmp_z, lcmp_le, lcmp_ge, lcmp_lt, lcmp_gt, gf_15, gf_16, ra_56, q2, c2, decide_eq_false co0]
        · obtain ⟨r1, r2, r3, r4, r5, r6, r7, r8, r9, r10, r12, r13, r14, r15, r16, r18, r19, r20, r21, r22, r23, r24, r25, r26, r27, r28, r30, r31, r32, r33, r34, r35, r36, r37, r38, r39, r40, r41, r44, r49, r50, r51, r52, r54⟩ := hR
          simp (disch := omega) only [be_X7_band_6, be_X7_band_7, be_X7_band_9, Option.bind_some, cond_true, cond_false, decide_true, decide_false, Bool.not_true, Bool.not_false, ite_true, ite_false, and_self, true_and, and_true, or_self, true_or, or_true, false_or, or_false, decide_eq_true_eq, Int.reduceAdd, Int.reduceSub, Int.reduceMul, Int.reduceNeg, Int.reduceEq, Int.reduceLT, Int.reduceLE, Int.reduceNe, lcmp_z, lcmp_le, lcmp_ge, lcmp_lt, lcmp_gt, decide_eq_true, decide_eq_false, if_pos, if_neg, gf_17, q1, r4, ra_62, am_w32_ok]
    · refine ⟨-2, C, R, e1.trans ?_, e2.trans ?_, H, cf2_refl C, rfr_refl R⟩
      · simp (disch := omega) only [be_X6_band_8, be_X6_band_11, Option.bind_some, cond_true, cond_false, decide_true, decide_false, Bool.not_true, Bool.not_false, ite_true, ite_false, and_self, true_and, and_true, or_self, true_or, or_true, false_or, or_false, decide_eq_true_eq, Int.reduceAdd, Int.reduceSub, Int.reduceMul, Int.reduceNeg, Int.reduceEq, Int.reduceLT, Int.reduceLE, Int.reduceNe, lcmp_z, lcmp_le, lcmp_ge, lcmp_lt, lcmp_gt, gf_16, q2]
      · simp (disch := omega) only [be_X7_band_6, be_X7_band_9, Option.bind_some, cond_true, cond_false, decide_true, decide_false, Bool.not_true, Bool.not_false, ite_true, ite_false, and_self, true_and, and_true, or_self, true_or, or_true, false_or, or_false, decide_eq_true_eq, Int.reduceAdd, Int.reduceSub, Int.reduceMul, Int.reduceNeg, Int.reduceEq, Int.reduceLT, Int.reduceLE, Int.reduceNe, lcmp_z, lcmp_le, lcmp_ge, lcmp_lt, lcmp_gt, gf_17, q1]
  · exact ⟨-1, C, R, e1, e2, H, cf2_refl C, rfr_refl R⟩
