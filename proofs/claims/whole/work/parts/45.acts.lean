/-! an act -/
/-- both have done an act of w -/
def actd (C R : am_M) (w : Int) : Prop := ∃ C' R' h' V' t', am_evm am_PP nX5_act [(2, 15 + 256 * w)] C = some (0, C') ∧ am_evm am_PP nX7_doAct [(2, 17), (0, w)] R = some (0, R') ∧ C' 16 8 = C 16 8 ∧ RR (am_up C' 16 8 (C 16 8 + 1)) R' h' V' t' ∧ R' 17 42 = R 17 42 + 1 ∧ R' 17 43 = R 17 43 ∧ R' 17 0 = R 17 0 ∧ R' 17 11 = R 17 11 ∧ cfr C C' ∧ rfr R R'
theorem st_over {C R : am_M} {u : Int} (hs : sw C R u) (h : st C R u) : ((C (15 + 256 * u) 8 = 4 ∨ C (15 + 256 * u) 8 = 5) = (2 < R 1333 u)) ∧ ((C (15 + 256 * u) 8 = 5) = (R 1333 u = 4)) := by
  rcases h with ⟨a, b⟩ | ⟨a, b, _⟩ | ⟨a, _, b⟩
  · constructor <;> apply propext <;> omega
  · constructor <;> apply propext <;> omega
  · have := (ws_port hs b).1
    constructor <;> apply propext <;> omega
theorem da_ev {R R1 : am_M} {w : Int} (hR1 : rs R1) (hlk : am_evm am_PP nX7_look [(2, 17), (0, w)] R = some (0, R1)) (z0 : 0 ≤ R1 17 42) (z1 : R1 17 42 < 42000) :
    (R1 17 45 = 0 → am_evm am_PP nX7_doAct [(2, 17), (0, w)] R = (am_evm am_PP nX7_doRead [(2, 17), (0, w)] (am_up R1 17 42 (R1 17 42 + 1))).bind fun q => some (0, q.2)) ∧
    (R1 17 45 = 1 → am_evm am_PP nX7_doAct [(2, 17), (0, w)] R = (am_evm am_PP nX7_doWrite [(2, 17), (0, w)] (am_up R1 17 42 (R1 17 42 + 1))).bind fun q => some (0, q.2)) ∧
    (R1 17 45 = 2 → 0 ≤ w → w < 40 → am_evm am_PP nX7_doAct [(2, 17), (0, w)] R = some (0, am_up (am_up (am_up (am_up R1 17 42 (R1 17 42 + 1)) 1333 w 3) 2357 w w) 2613 w 0)) ∧
    (R1 17 45 = 3 → 0 ≤ w → w < 40 → am_evm am_PP nX7_doAct [(2, 17), (0, w)] R = some (0, am_up (am_up (am_up (am_up R1 17 42 (R1 17 42 + 1)) 1333 w 4) 2357 w w) 2613 w (R1 17 48))) := by
  obtain ⟨r1, r2, r3, r4, r5, r6, r7, r8, r9, r10, r12, r13, r14, r15, r16, r18, r19, r20, r21, r22, r23, r24, r25, r26, r27, r28, r30, r31, r32, r33, r34, r35, r36, r37, r38, r39, r40, r41, r44, r49, r50, r51, r52, r54⟩ := hR1
  refine ⟨fun q => ?_, fun q => ?_, fun q w0 w1 => ?_, fun q w0 w1 => ?_⟩
  · simp (disch := omega) only [be_X7_doAct_m, be_X7_doAct_0, be_X7_doAct_1, be_X7_doAct_5, Option.bind_some, cond_true, cond_false, decide_true, decide_false, Bool.not_true, Bool.not_false, ite_true, ite_false, and_self, true_and, and_true, or_self, true_or, or_true, false_or, or_false, decide_eq_true_eq, Int.reduceAdd, Int.reduceSub, Int.reduceMul, Int.reduceNeg, Int.reduceEq, Int.reduceLT, Int.reduceLE, Int.reduceNe, lcmp_z, lcmp_le, lcmp_ge, lcmp_lt, lcmp_gt, am_up_eq, am_up_nl, am_up_ni, gf_17, pf_17, cls_17, pb0_17, pb1_17, ra_50, sa_50, ra_51, sa_51, ra_52, sa_52, ra_53, sa_53, ra_54, sa_54, ra_310, sa_310, ra_309, sa_309, ra_565, sa_565, ra_63, sa_63, ra_62, sa_62, ra_821, sa_821, ra_68, sa_68, ra_1077, sa_1077, ra_64, sa_64, ra_320, sa_320, ra_576, sa_576, ra_61, sa_61, ra_317, sa_317, ra_573, sa_573, ra_829, sa_829, ra_1085, sa_1085, ra_1341, sa_1341, ra_1597, sa_1597, ra_1853, sa_1853, ra_2109, sa_2109, ra_2365, sa_2365, ra_65, sa_65, ra_2621, sa_2621, ra_2877, sa_2877, ra_3133, sa_3133, ra_69, sa_69, ra_70, sa_70, ra_1333, sa_1333, ra_1589, sa_1589, ra_566, sa_566, ra_822, sa_822, ra_1845, sa_1845, ra_2101, sa_2101, ra_2357, sa_2357, ra_2613, sa_2613, ra_66, sa_66, ra_67, sa_67, ra_2869, sa_2869, ra_3125, sa_3125, ra_308, sa_308, ra_71, sa_71, ra_1078, sa_1078, ra_1334, sa_1334, ra_3381, sa_3381, ra_1590, sa_1590, ra_2, ra_3, hlk, q, am_w32_ok]
  · simp (disch := omega) only [be_X7_doAct_m, be_X7_doAct_0, be_X7_doAct_2, be_X7_doAct_5, Option.bind_some, cond_true, cond_false, decide_true, decide_false, Bool.not_true, Bool.not_false, ite_true, ite_false, and_self, true_and, and_true, or_self, true_or, or_true, false_or, or_false, decide_eq_true_eq, Int.reduceAdd, Int.reduceSub, Int.reduceMul, Int.reduceNeg, Int.reduceEq, Int.reduceLT, Int.reduceLE, Int.reduceNe, lcmp_z, lcmp_le, lcmp_ge, lcmp_lt, lcmp_gt, am_up_eq, am_up_nl, am_up_ni, gf_17, pf_17, cls_17, pb0_17, pb1_17, ra_50, sa_50, ra_51, sa_51, ra_52, sa_52, ra_53, sa_53, ra_54, sa_54, ra_310, sa_310, ra_309, sa_309, ra_565, sa_565, ra_63, sa_63, ra_62, sa_62, ra_821, sa_821, ra_68, sa_68, ra_1077, sa_1077, ra_64, sa_64, ra_320, sa_320, ra_576, sa_576, ra_61, sa_61, ra_317, sa_317, ra_573, sa_573, ra_829, sa_829, ra_1085, sa_1085, ra_1341, sa_1341, ra_1597, sa_1597, ra_1853, sa_1853, ra_2109, sa_2109, ra_2365, sa_2365, ra_65, sa_65, ra_2621, sa_2621, ra_2877, sa_2877, ra_3133, sa_3133, ra_69, sa_69, ra_70, sa_70, ra_1333, sa_1333, ra_1589, sa_1589, ra_566, sa_566, ra_822, sa_822, ra_1845, sa_1845, ra_2101, sa_2101, ra_2357, sa_2357, ra_2613, sa_2613, ra_66, sa_66, ra_67, sa_67, ra_2869, sa_2869, ra_3125, sa_3125, ra_308, sa_308, ra_71, sa_71, ra_1078, sa_1078, ra_1334, sa_1334, ra_3381, sa_3381, ra_1590, sa_1590, ra_2, ra_3, hlk, q, am_w32_ok]
  · simp (disch := omega) only [be_X7_doAct_m, be_X7_doAct_0, be_X7_doAct_3, be_X7_doAct_5, be_X7_end_m, be_X7_end_0, Option.bind_some, cond_true, cond_false, decide_true, decide_false, Bool.not_true, Bool.not_false, ite_true, ite_false, and_self, true_and, and_true, or_self, true_or, or_true, false_or, or_false, decide_eq_true_eq, Int.reduceAdd, Int.reduceSub, Int.reduceMul, Int.reduceNeg, Int.reduceEq, Int.reduceLT, Int.reduceLE, Int.reduceNe, lcmp_z, lcmp_le, lcmp_ge, lcmp_lt, lcmp_gt, am_up_eq, am_up_nl, am_up_ni, gf_17, pf_17, cls_17, pb0_17, pb1_17, ra_50, sa_50, ra_51, sa_51, ra_52, sa_52, ra_53, sa_53, ra_54, sa_54, ra_310, sa_310, ra_309, sa_309, ra_565, sa_565, ra_63, sa_63, ra_62, sa_62, ra_821, sa_821, ra_68, sa_68, ra_1077, sa_1077, ra_64, sa_64, ra_320, sa_320, ra_576, sa_576, ra_61, sa_61, ra_317, sa_317, ra_573, sa_573, ra_829, sa_829, ra_1085, sa_1085, ra_1341, sa_1341, ra_1597, sa_1597, ra_1853, sa_1853, ra_2109, sa_2109, ra_2365, sa_2365, ra_65, sa_65, ra_2621, sa_2621, ra_2877, sa_2877, ra_3133, sa_3133, ra_69, sa_69, ra_70, sa_70, ra_1333, sa_1333, ra_1589, sa_1589, ra_566, sa_566, ra_822, sa_822, ra_1845, sa_1845, ra_2101, sa_2101, ra_2357, sa_2357, ra_2613, sa_2613, ra_66, sa_66, ra_67, sa_67, ra_2869, sa_2869, ra_3125, sa_3125, ra_308, sa_308, ra_71, sa_71, ra_1078, sa_1078, ra_1334, sa_1334, ra_3381, sa_3381, ra_1590, sa_1590, ra_2, ra_3, r1, r2, r3, r4, r5, r6, r7, r8, r9, r10, r12, r13, r14, r15, r16, r18, r19, r20, r21, r22, r23, r24, r25, r26, r27, r28, r30, r31, r32, r33, r34, r35, r36, r37, r38, r39, r40, r41, r44, r49, r50, r51, r52, r54, hlk, q, am_w32_ok]
  · simp (disch := omega) only [be_X7_doAct_m, be_X7_doAct_0, be_X7_doAct_4, be_X7_doAct_5, be_X7_end_m, be_X7_end_0, Option.bind_some, cond_true, cond_false, decide_true, decide_false, Bool.not_true, Bool.not_false, ite_true, ite_false, and_self, true_and, and_true, or_self, true_or, or_true, false_or, or_false, decide_eq_true_eq, Int.reduceAdd, Int.reduceSub, Int.reduceMul, Int.reduceNeg, Int.reduceEq, Int.reduceLT, Int.reduceLE, Int.reduceNe, lcmp_z, lcmp_le, lcmp_ge, lcmp_lt, lcmp_gt, am_up_eq, am_up_nl, am_up_ni, gf_17, pf_17, cls_17, pb0_17, pb1_17, ra_50, sa_50, ra_51, sa_51, ra_52, sa_52, ra_53, sa_53, ra_54, sa_54, ra_310, sa_310, ra_309, sa_309, ra_565, sa_565, ra_63, sa_63, ra_62, sa_62, ra_821, sa_821, ra_68, sa_68, ra_1077, sa_1077, ra_64, sa_64, ra_320, sa_320, ra_576, sa_576, ra_61, sa_61, ra_317, sa_317, ra_573, sa_573, ra_829, sa_829, ra_1085, sa_1085, ra_1341, sa_1341, ra_1597, sa_1597, ra_1853, sa_1853, ra_2109, sa_2109, ra_2365, sa_2365, ra_65, sa_65, ra_2621, sa_2621, ra_2877, sa_2877, ra_3133, sa_3133, ra_69, sa_69, ra_70, sa_70, ra_1333, sa_1333, ra_1589, sa_1589, ra_566, sa_566, ra_822, sa_822, ra_1845, sa_1845, ra_2101, sa_2101, ra_2357, sa_2357, ra_2613, sa_2613, ra_66, sa_66, ra_67, sa_67, ra_2869, sa_2869, ra_3125, sa_3125, ra_308, sa_308, ra_71, sa_71, ra_1078, sa_1078, ra_1334, sa_1334, ra_3381, sa_3381, ra_1590, sa_1590, ra_2, ra_3, r1, r2, r3, r4, r5, r6, r7, r8, r9, r10, r12, r13, r14, r15, r16, r18, r19, r20, r21, r22, r23, r24, r25, r26, r27, r28, r30, r31, r32, r33, r34, r35, r36, r37, r38, r39, r40, r41, r44, r49, r50, r51, r52, r54, hlk, q, am_w32_ok]
/-- the look before an act -/
theorem act_look {C R : am_M} {h V : Int → Int → Int} {t : Int → Int} {w : Int} (H : RR C R h V t) (w0 : 0 ≤ w) (w1 : w < R 17 0) (hac : R 17 42 < 42000) (hn4 : C (15 + 256 * w) 8 ≠ 4) (hn5 : C (15 + 256 * w) 8 ≠ 5) : R 1333 w = 0 ∧ ∃ R1, am_evm am_PP nX7_look [(2, 17), (0, w)] R = some (0, R1) ∧ fr2 (rtl w) R R1 ∧ R1 17 45 = C (15 + 256 * w) 8 ∧ (C (15 + 256 * w) 8 = 0 → R1 17 46 = C (15 + 256 * w) 9) ∧ (C (15 + 256 * w) 8 = 1 → R1 17 46 = C (15 + 256 * w) 9 ∧ R1 17 47 = C (15 + 256 * w) 10) ∧ (C (15 + 256 * w) 8 = 3 → R1 17 48 = C (15 + 256 * w) 15) ∧ wl C R1 w ∧ RR C R1 h V t := by
  obtain ⟨hR, w2, hsw, hpr, ⟨x1, x2, x3, x4, x5, x6, x7, x8⟩, h50, h8, z1, z2, z3, z4, z5, z6⟩ := RR_w H w0 w1
  have hs0 : R 1333 w = 0 ∧ ws C R w := by
    rcases x7 with q | q | q
    · omega
    · omega
    · exact ⟨q.1, q.2.2⟩
  obtain ⟨R1, e1, e2, e3, e4, e5, e6, e7⟩ := look_all hR w0 w2 hsw hs0.2
  exact ⟨hs0.1, R1, e1, e2, e3, e4, e5, e6, e7, RR_look H w0 w1 e2 hs0.1 (wl_ws e7)⟩
theorem rtl_hall {w : Int} {R R1 : am_M} (e : fr2 (rtl w) R R1) : R1 17 42 = R 17 42 ∧ R1 17 43 = R 17 43 ∧ R1 17 0 = R 17 0 ∧ R1 17 11 = R 17 11 ∧ R1 17 29 = R 17 29 := ⟨e _ _ (by unfold rtl; omega), e _ _ (by unfold rtl; omega), e _ _ (by unfold rtl; omega), e _ _ (by unfold rtl; omega), e _ _ (by unfold rtl; omega)⟩
theorem rtl_rfr {w : Int} {R R1 : am_M} (e : fr2 (rtl w) R R1) : rfr R R1 := fun L i q => e L i (by unfold FR at q; unfold rtl; omega)
theorem rfr_trans {A B C : am_M} (h1 : rfr A B) (h2 : rfr B C) : rfr A C := fun L i q => (h2 L i q).trans (h1 L i q)
theorem cfr_trans {A B C : am_M} (h1 : cfr A B) (h2 : cfr B C) : cfr A C := fun L i q => (h2 L i q).trans (h1 L i q)
theorem act_end {C R : am_M} {h V : Int → Int → Int} {t : Int → Int} {w : Int} (H : RR C R h V t) (w0 : 0 ≤ w) (w1 : w < R 17 0) (hac : R 17 42 < 42000) (hn : C (15 + 256 * w) 8 = 2 ∨ C (15 + 256 * w) 8 = 3) : actd C R w := by
  obtain ⟨hs0, R1, e1, e2, e3, e4, e5, e6, e7, e8⟩ := act_look H w0 w1 hac (by omega) (by omega)
  obtain ⟨y1, y2, y3, y4, y5⟩ := rtl_hall e2
  obtain ⟨hR, w2, hsw, hpr, ⟨x1, x2, x3, x4, x5, x6, x7, x8⟩, h50, h8, z1, z2, z3, z4, z5, z6⟩ := RR_w e8 w0 (by omega)
  have h14 : C (15 + 256 * w) 14 = w := by
    rcases x7 with q | q | q
    · omega
    · omega
    · exact q.2.1
  obtain ⟨-, -, d2, d3⟩ := da_ev hR e1 z1 (by omega)
  rcases hn with hn | hn
  · refine ⟨am_up C (15 + 256 * w) 8 4, _, h, V, t, ?_, d2 (by omega) w0 w2, by simp (disch := omega) only [am_up_eq, am_up_nl, am_up_ni], RR_over e8 w0 (by omega) (by omega) (Or.inl ⟨rfl, rfl, rfl⟩) ?_ (by simp (disch := omega) only [am_up_eq, am_up_nl, am_up_ni]; rfl) (fun q => by omega), by simp (disch := omega) only [am_up_eq, am_up_nl, am_up_ni]; omega, by simp (disch := omega) only [am_up_eq, am_up_nl, am_up_ni]; omega, by simp (disch := omega) only [am_up_eq, am_up_nl, am_up_ni]; omega, by simp (disch := omega) only [am_up_eq, am_up_nl, am_up_ni]; omega, fun L i q => ?_, rfr_trans (rtl_rfr e2) (fun L i q => ?_)⟩
    · simp (disch := omega) only [be_X5_act_m, be_X5_act_0, be_X5_act_3, be_X5_act_5, be_X5_askScript_m, be_X5_askScript_0, be_X5_askScript_1, Option.bind_some, cond_true, cond_false, decide_true, decide_false, Bool.not_true, Bool.not_false, ite_true, ite_false, and_self, true_and, and_true, or_self, true_or, or_true, false_or, or_false, decide_eq_true_eq, Int.reduceAdd, Int.reduceSub, Int.reduceMul, Int.reduceNeg, Int.reduceEq, Int.reduceLT, Int.reduceLE, Int.reduceNe, lcmp_z, lcmp_le, lcmp_ge, lcmp_lt, lcmp_gt, am_up_eq, am_up_nl, am_up_ni, gf_15, pf_15, cls_15, pos_15, gf_10, pf_10, cls_10, pos_10, gf_14, pf_14, cls_14, pos_14, hn]
    · exact fr2_up (by omega) (fr2_refl _ _)
    · unfold FR at q; simp (disch := omega) only [am_up_eq, am_up_nl, am_up_ni]
    · unfold FR at q; simp (disch := omega) only [am_up_eq, am_up_nl, am_up_ni]
  · refine ⟨am_up C (15 + 256 * w) 8 5, _, h, V, t, ?_, d3 (by omega) w0 w2, by simp (disch := omega) only [am_up_eq, am_up_nl, am_up_ni], RR_over e8 w0 (by omega) (by omega) (Or.inr rfl) ?_ (by simp (disch := omega) only [am_up_eq, am_up_nl, am_up_ni]; rfl) (fun _ => ⟨?_, ?_⟩), by simp (disch := omega) only [am_up_eq, am_up_nl, am_up_ni]; omega, by simp (disch := omega) only [am_up_eq, am_up_nl, am_up_ni]; omega, by simp (disch := omega) only [am_up_eq, am_up_nl, am_up_ni]; omega, by simp (disch := omega) only [am_up_eq, am_up_nl, am_up_ni]; omega, fun L i q => ?_, rfr_trans (rtl_rfr e2) (fun L i q => ?_)⟩
    · simp (disch := omega) only [be_X5_act_m, be_X5_act_0, be_X5_act_4, be_X5_act_5, be_X5_askScript_m, be_X5_askScript_0, be_X5_askScript_1, Option.bind_some, cond_true, cond_false, decide_true, decide_false, Bool.not_true, Bool.not_false, ite_true, ite_false, and_self, true_and, and_true, or_self, true_or, or_true, false_or, or_false, decide_eq_true_eq, Int.reduceAdd, Int.reduceSub, Int.reduceMul, Int.reduceNeg, Int.reduceEq, Int.reduceLT, Int.reduceLE, Int.reduceNe, lcmp_z, lcmp_le, lcmp_ge, lcmp_lt, lcmp_gt, am_up_eq, am_up_nl, am_up_ni, gf_15, pf_15, cls_15, pos_15, gf_10, pf_10, cls_10, pos_10, gf_14, pf_14, cls_14, pos_14, hn]
    · exact fr2_up (by omega) (fr2_refl _ _)
    · simp (disch := omega) only [am_up_eq, am_up_nl, am_up_ni, h14]
    · simp (disch := omega) only [am_up_eq, am_up_nl, am_up_ni]; exact (e6 hn).symm
    · unfold FR at q; simp (disch := omega) only [am_up_eq, am_up_nl, am_up_ni]
    · unfold FR at q; simp (disch := omega) only [am_up_eq, am_up_nl, am_up_ni]
/-- what is known of the band that w is about to read or write -/
theorem RR_b {C R : am_M} {h V : Int → Int → Int} {t : Int → Int} {b : Int} (H : RR C R h V t) (b0 : 0 ≤ b) (b1 : b < R 17 11) : b < 60 ∧ br C R (h b) (V b) (t b) b ∧ 0 ≤ R 61 b ∧ R 61 b < R 17 0 ∧ 0 ≤ R 317 b ∧ R 317 b < R 17 0 := by
  obtain ⟨hR, ⟨g0, g1, g2, g3, g4, g5, g6, g7, g8, g9, g10, g11, g12, g13⟩, ⟨hn1, hn2⟩, ho, hwh, r1, r2, r3, r4, r5, r6, r7, r8, r9, r10, r11, r12, r13, r14⟩ := H
  obtain ⟨x1, x2, x3, x4, x5, x6⟩ := hn2 b b0 b1
  exact ⟨by omega, r13 b b0 b1, x2, x3, x4, x5⟩
theorem RR_in {C R : am_M} {h V : Int → Int → Int} {t : Int → Int} {w : Int} (H : RR C R h V t) (w0 : 0 ≤ w) (w1 : w < R 17 0) {p : Int} (p0 : 0 ≤ p) (p1 : p < k_in (R 309 w)) (p2 : p < 3) : 0 ≤ R 63 (3 * w + p) ∧ R 63 (3 * w + p) < R 17 11 ∧ R 317 (R 63 (3 * w + p)) = w ∧ C (55 + 256 * w) p = 10 + 256 * R 63 (3 * w + p) := by
  obtain ⟨hR, hh, ⟨hn1, hn2⟩, ho, hwh, _⟩ := H
  obtain ⟨_, _, x3⟩ := hn1 w w0 w1
  have a := (hwh w w0 w1).1 p p0 p1
  obtain ⟨y1, y2⟩ := x3.1 p p0 p2
  obtain ⟨y3, y4⟩ := y2 a
  refine ⟨a, y3, y4, ?_⟩
  rw [y1, bl, if_neg (by omega)]
theorem RR_out {C R : am_M} {h V : Int → Int → Int} {t : Int → Int} {w : Int} (H : RR C R h V t) (w0 : 0 ≤ w) (w1 : w < R 17 0) {p : Int} (p0 : 0 ≤ p) (p1 : p < k_out (R 309 w)) (p2 : p < 2) : 0 ≤ R 62 (2 * w + p) ∧ R 62 (2 * w + p) < R 17 11 ∧ R 61 (R 62 (2 * w + p)) = w ∧ C (56 + 256 * w) p = 10 + 256 * R 62 (2 * w + p) := by
  obtain ⟨hR, hh, ⟨hn1, hn2⟩, ho, hwh, _⟩ := H
  obtain ⟨_, _, x3⟩ := hn1 w w0 w1
  have a := (hwh w w0 w1).2 p p0 p1
  obtain ⟨y1, y2⟩ := x3.2 p p0 p2
  obtain ⟨y3, y4⟩ := y2 a
  refine ⟨a, y3, y4, ?_⟩
  rw [y1, bl, if_neg (by omega)]
