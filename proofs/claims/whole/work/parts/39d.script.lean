/-! SCRIPT: a look; behind a pattern, a writing, an end -/
theorem rtf_rtl {w L i : Int} (h : rtf w L i) : rtl w L i := by unfold rtf rtq at h; unfold rtl; omega
theorem rtl_rtw {w L i : Int} (h : rtl w L i) : rtw w L i := by unfold rtl at h; unfold rtw; omega
set_option maxHeartbeats 4000000 in
theorem look_13 {C R : am_M} {w : Int} (hR : rs R) (hw : 0 ≤ w) (hw2 : w < 40) (hk : R 309 w = 13) (hs : st13 C R w) (h : ws13 C R w) :
    ∃ R', am_evm am_PP nX7_look [(2, 17), (0, w)] R = some (0, R') ∧ fr2 (rtl w) R R' ∧ R' 17 45 = C (15 + 256 * w) 8 ∧ (C (15 + 256 * w) 8 = 0 → R' 17 46 = C (15 + 256 * w) 9) ∧ (C (15 + 256 * w) 8 = 1 → R' 17 46 = C (15 + 256 * w) 9 ∧ R' 17 47 = C (15 + 256 * w) 10) ∧ (C (15 + 256 * w) 8 = 3 → R' 17 48 = C (15 + 256 * w) 15) ∧ wl13 C R' w := by
  have hR0 := hR
  obtain ⟨r1, r2, r3, r4, r5, r6, r7, r8, r9, r10, r12, r13, r14, r15, r16, r18, r19, r20, r21, r22, r23, r24, r25, r26, r27, r28, r30, r31, r32, r33, r34, r35, r36, r37, r38, r39, r40, r41, r44, r49, r50, r51, r52, r54⟩ := hR
  rcases h with ⟨h1, h2, h3⟩ | ⟨h1, h2, h3⟩ | ⟨h1, h2, h3, h4⟩ | ⟨h1, h2, h3, s, q, r, h4, h5, h6, h7⟩
  · simp (disch := omega) only [be_X7_look_m, be_X7_look_0, be_X7_look_1, be_X7_look_2, be_X7_toFail_m, be_X7_toFail_0, Option.bind_some, cond_true, cond_false, decide_true, decide_false, Bool.not_true, Bool.not_false, ite_true, ite_false, and_self, true_and, and_true, or_self, true_or, or_true, false_or, or_false, decide_eq_true_eq, Int.reduceAdd, Int.reduceSub, Int.reduceMul, Int.reduceNeg, Int.reduceEq, Int.reduceLT, Int.reduceLE, Int.reduceNe, lcmp_z, lcmp_le, lcmp_ge, lcmp_lt, lcmp_gt, am_up_eq, am_up_nl, am_up_ni, gf_17, pf_17, cls_17, pb0_17, pb1_17, ra_50, sa_50, ra_51, sa_51, ra_52, sa_52, ra_53, sa_53, ra_54, sa_54, ra_310, sa_310, ra_309, sa_309, ra_565, sa_565, ra_63, sa_63, ra_62, sa_62, ra_821, sa_821, ra_68, sa_68, ra_1077, sa_1077, ra_64, sa_64, ra_320, sa_320, ra_576, sa_576, ra_61, sa_61, ra_317, sa_317, ra_573, sa_573, ra_829, sa_829, ra_1085, sa_1085, ra_1341, sa_1341, ra_1597, sa_1597, ra_1853, sa_1853, ra_2109, sa_2109, ra_2365, sa_2365, ra_65, sa_65, ra_2621, sa_2621, ra_2877, sa_2877, ra_3133, sa_3133, ra_69, sa_69, ra_70, sa_70, ra_1333, sa_1333, ra_1589, sa_1589, ra_566, sa_566, ra_822, sa_822, ra_1845, sa_1845, ra_2101, sa_2101, ra_2357, sa_2357, ra_2613, sa_2613, ra_66, sa_66, ra_67, sa_67, ra_2869, sa_2869, ra_3125, sa_3125, ra_308, sa_308, ra_71, sa_71, ra_1078, sa_1078, ra_1334, sa_1334, ra_3381, sa_3381, ra_1590, sa_1590, ra_2, ra_3, r1, r2, r3, r4, r5, r6, r7, r8, r9, r10, r12, r13, r14, r15, r16, r18, r19, r20, r21, r22, r23, r24, r25, r26, r27, r28, r30, r31, r32, r33, r34, r35, r36, r37, r38, r39, r40, r41, r44, r49, r50, r51, r52, r54, hk, h1]
    refine ⟨_, rfl, ?_, ?_, ?_, ?_, ?_, Or.inl ⟨?_, h2, h3⟩⟩
    · (repeat' first | exact fr2_refl _ _ | refine fr2_up ?_ ?_) <;> (unfold rtl; omega)
    · simp (disch := omega) only [am_up_eq, am_up_nl, am_up_ni, h2]
    · intro c; omega
    · intro c; omega
    · intro c; simp (disch := omega) only [am_up_eq, am_up_nl, am_up_ni, h3]
    · simp (disch := omega) only [am_up_eq, am_up_nl, am_up_ni, h1]
  · simp (disch := omega) only [be_X7_look_m, be_X7_look_0, be_X7_look_1, be_X7_look_3, be_X7_look_4, be_X7_look_7, be_X7_look_8, be_X7_find_m, be_X7_find_0, be_X7_find_1, Option.bind_some, cond_true, cond_false, decide_true, decide_false, Bool.not_true, Bool.not_false, ite_true, ite_false, and_self, true_and, and_true, or_self, true_or, or_true, false_or, or_false, decide_eq_true_eq, Int.reduceAdd, Int.reduceSub, Int.reduceMul, Int.reduceNeg, Int.reduceEq, Int.reduceLT, Int.reduceLE, Int.reduceNe, lcmp_z, lcmp_le, lcmp_ge, lcmp_lt, lcmp_gt, am_up_eq, am_up_nl, am_up_ni, gf_17, pf_17, cls_17, pb0_17, pb1_17, ra_50, sa_50, ra_51, sa_51, ra_52, sa_52, ra_53, sa_53, ra_54, sa_54, ra_310, sa_310, ra_309, sa_309, ra_565, sa_565, ra_63, sa_63, ra_62, sa_62, ra_821, sa_821, ra_68, sa_68, ra_1077, sa_1077, ra_64, sa_64, ra_320, sa_320, ra_576, sa_576, ra_61, sa_61, ra_317, sa_317, ra_573, sa_573, ra_829, sa_829, ra_1085, sa_1085, ra_1341, sa_1341, ra_1597, sa_1597, ra_1853, sa_1853, ra_2109, sa_2109, ra_2365, sa_2365, ra_65, sa_65, ra_2621, sa_2621, ra_2877, sa_2877, ra_3133, sa_3133, ra_69, sa_69, ra_70, sa_70, ra_1333, sa_1333, ra_1589, sa_1589, ra_566, sa_566, ra_822, sa_822, ra_1845, sa_1845, ra_2101, sa_2101, ra_2357, sa_2357, ra_2613, sa_2613, ra_66, sa_66, ra_67, sa_67, ra_2869, sa_2869, ra_3125, sa_3125, ra_308, sa_308, ra_71, sa_71, ra_1078, sa_1078, ra_1334, sa_1334, ra_3381, sa_3381, ra_1590, sa_1590, ra_2, ra_3, r1, r2, r3, r4, r5, r6, r7, r8, r9, r10, r12, r13, r14, r15, r16, r18, r19, r20, r21, r22, r23, r24, r25, r26, r27, r28, r30, r31, r32, r33, r34, r35, r36, r37, r38, r39, r40, r41, r44, r49, r50, r51, r52, r54, hk, h1, h2]
    refine ⟨_, rfl, ?_, ?_, ?_, ?_, ?_, Or.inr (Or.inl ⟨?_, ?_, h3⟩)⟩
    · (repeat' first | exact fr2_refl _ _ | refine fr2_up ?_ ?_) <;> (unfold rtl; omega)
    · simp (disch := omega) only [am_up_eq, am_up_nl, am_up_ni, h3]
    · intro c; omega
    · intro c; omega
    · intro c; omega
    · simp (disch := omega) only [am_up_eq, am_up_nl, am_up_ni]
    · simp (disch := omega) only [am_up_eq, am_up_nl, am_up_ni, h2]
  · simp (disch := omega) only [be_X7_look_m, be_X7_look_0, be_X7_look_1, be_X7_look_3, be_X7_find_m, be_X7_find_0, be_X7_find_2, Option.bind_some, cond_true, cond_false, decide_true, decide_false, Bool.not_true, Bool.not_false, ite_true, ite_false, and_self, true_and, and_true, or_self, true_or, or_true, false_or, or_false, decide_eq_true_eq, Int.reduceAdd, Int.reduceSub, Int.reduceMul, Int.reduceNeg, Int.reduceEq, Int.reduceLT, Int.reduceLE, Int.reduceNe, lcmp_z, lcmp_le, lcmp_ge, lcmp_lt, lcmp_gt, am_up_eq, am_up_nl, am_up_ni, gf_17, pf_17, cls_17, pb0_17, pb1_17, ra_50, sa_50, ra_51, sa_51, ra_52, sa_52, ra_53, sa_53, ra_54, sa_54, ra_310, sa_310, ra_309, sa_309, ra_565, sa_565, ra_63, sa_63, ra_62, sa_62, ra_821, sa_821, ra_68, sa_68, ra_1077, sa_1077, ra_64, sa_64, ra_320, sa_320, ra_576, sa_576, ra_61, sa_61, ra_317, sa_317, ra_573, sa_573, ra_829, sa_829, ra_1085, sa_1085, ra_1341, sa_1341, ra_1597, sa_1597, ra_1853, sa_1853, ra_2109, sa_2109, ra_2365, sa_2365, ra_65, sa_65, ra_2621, sa_2621, ra_2877, sa_2877, ra_3133, sa_3133, ra_69, sa_69, ra_70, sa_70, ra_1333, sa_1333, ra_1589, sa_1589, ra_566, sa_566, ra_822, sa_822, ra_1845, sa_1845, ra_2101, sa_2101, ra_2357, sa_2357, ra_2613, sa_2613, ra_66, sa_66, ra_67, sa_67, ra_2869, sa_2869, ra_3125, sa_3125, ra_308, sa_308, ra_71, sa_71, ra_1078, sa_1078, ra_1334, sa_1334, ra_3381, sa_3381, ra_1590, sa_1590, ra_2, ra_3, r1, r2, r3, r4, r5, r6, r7, r8, r9, r10, r12, r13, r14, r15, r16, r18, r19, r20, r21, r22, r23, r24, r25, r26, r27, r28, r30, r31, r32, r33, r34, r35, r36, r37, r38, r39, r40, r41, r44, r49, r50, r51, r52, r54, hk, h1, h3]
    simp (disch := omega) only [be_X7_find_31, be_X7_find_35, be_X7_look_4, be_X7_look_7, be_X7_look_8, be_X7_findScript_m, be_X7_findScript_0, be_X7_findScript_1, Option.bind_some, cond_true, cond_false, decide_true, decide_false, Bool.not_true, Bool.not_false, ite_true, ite_false, and_self, true_and, and_true, or_self, true_or, or_true, false_or, or_false, decide_eq_true_eq, Int.reduceAdd, Int.reduceSub, Int.reduceMul, Int.reduceNeg, Int.reduceEq, Int.reduceLT, Int.reduceLE, Int.reduceNe, lcmp_z, lcmp_le, lcmp_ge, lcmp_lt, lcmp_gt, am_up_eq, am_up_nl, am_up_ni, gf_17, pf_17, cls_17, pb0_17, pb1_17, ra_50, sa_50, ra_51, sa_51, ra_52, sa_52, ra_53, sa_53, ra_54, sa_54, ra_310, sa_310, ra_309, sa_309, ra_565, sa_565, ra_63, sa_63, ra_62, sa_62, ra_821, sa_821, ra_68, sa_68, ra_1077, sa_1077, ra_64, sa_64, ra_320, sa_320, ra_576, sa_576, ra_61, sa_61, ra_317, sa_317, ra_573, sa_573, ra_829, sa_829, ra_1085, sa_1085, ra_1341, sa_1341, ra_1597, sa_1597, ra_1853, sa_1853, ra_2109, sa_2109, ra_2365, sa_2365, ra_65, sa_65, ra_2621, sa_2621, ra_2877, sa_2877, ra_3133, sa_3133, ra_69, sa_69, ra_70, sa_70, ra_1333, sa_1333, ra_1589, sa_1589, ra_566, sa_566, ra_822, sa_822, ra_1845, sa_1845, ra_2101, sa_2101, ra_2357, sa_2357, ra_2613, sa_2613, ra_66, sa_66, ra_67, sa_67, ra_2869, sa_2869, ra_3125, sa_3125, ra_308, sa_308, ra_71, sa_71, ra_1078, sa_1078, ra_1334, sa_1334, ra_3381, sa_3381, ra_1590, sa_1590, ra_2, ra_3, r1, r2, r3, r4, r5, r6, r7, r8, r9, r10, r12, r13, r14, r15, r16, r18, r19, r20, r21, r22, r23, r24, r25, r26, r27, r28, r30, r31, r32, r33, r34, r35, r36, r37, r38, r39, r40, r41, r44, r49, r50, r51, r52, r54, hk, h1, h2, h3]
    refine ⟨_, rfl, ?_, ?_, ?_, ?_, ?_, Or.inr (Or.inr (Or.inl ⟨?_, ?_, ?_, h4⟩))⟩
    · (repeat' first | exact fr2_refl _ _ | refine fr2_up ?_ ?_) <;> (unfold rtl; omega)
    · simp (disch := omega) only [am_up_eq, am_up_nl, am_up_ni, h4]
    · intro c; omega
    · intro c; omega
    · intro c; omega
    · simp (disch := omega) only [am_up_eq, am_up_nl, am_up_ni]
    · simp (disch := omega) only [am_up_eq, am_up_nl, am_up_ni, h2]
    · simp (disch := omega) only [am_up_eq, am_up_nl, am_up_ni, h3]
  · have hsr := st13_sr hs
    have f0 : fr2 (rtl w) R (am_up R 17 45 2) := by
      (repeat' first | exact fr2_refl _ _ | refine fr2_up ?_ ?_) <;> (unfold rtl; omega)
    have hs2 : sr (am_up R 17 45 2) w := by
      refine ⟨?_, ?_, fun i a b => ?_⟩
      · simp (disch := omega) only [am_up_eq, am_up_nl, am_up_ni]; exact hsr.1
      · simp (disch := omega) only [am_up_eq, am_up_nl, am_up_ni]; exact hsr.2.1
      · simp (disch := omega) only [am_up_eq, am_up_nl, am_up_ni] at b ⊢; exact hsr.2.2 i a b
    obtain ⟨R1, e1, e2, e3, e4, e5, e6, e7, e8⟩ := fs_loop (S := am_up R 17 45 2) hw hw2 hs2 100 (am_up R 17 45 2) (R 1589 w) (fun k => R 66 (4 * w + k)) (by omega) (rs_rtl hR0 f0) (fr2_refl _ _) h2 (by simp (disch := omega) only [am_up_eq, am_up_nl, am_up_ni]; exact h3) (by simp (disch := omega) only [am_up_eq, am_up_nl, am_up_ni]) (fun k a b => by simp (disch := omega) only [am_up_eq, am_up_nl, am_up_ni])
    rw [qs_rtl f0, h4] at e3 e4 e5 e6 e7 e8
    rw [show (100 : Int) - ((100 : Nat) : Int) = 0 from rfl] at e1
    dsimp only at e3 e4 e5 e6 e7 e8
    have q77 : am_up R 17 45 2 1077 w = R 1077 w := by simp (disch := omega) only [am_up_eq, am_up_nl, am_up_ni]
    have q64 : ∀ i, am_up R 17 45 2 64 i = R 64 i := fun i => by simp (disch := omega) only [am_up_eq, am_up_nl, am_up_ni]
    have q320 : ∀ i, am_up R 17 45 2 320 i = R 320 i := fun i => by simp (disch := omega) only [am_up_eq, am_up_nl, am_up_ni]
    have q576 : ∀ i, am_up R 17 45 2 576 i = R 576 i := fun i => by simp (disch := omega) only [am_up_eq, am_up_nl, am_up_ni]
    rw [q77] at e1
    rw [q77] at e6
    rw [q64] at e8
    unfold fsa at e7
    rw [q320, q576] at e7
    have f1 : fr2 (rtl w) R R1 := fr2_trans f0 (fr2_mono (fun _ _ p => rtf_rtl p) e2)
    have hn0 : (R 1077 w = 0) = False := eq_false (by omega)
    have fev : am_evm am_PP nX7_find [(2, 17), (0, w)] R = some (0, R1) := by
      have n1 := hsr.2.1
      simp (disch := omega) only [be_X7_find_m, be_X7_find_0, be_X7_find_2, Option.bind_some, cond_true, cond_false, decide_true, decide_false, Bool.not_true, Bool.not_false, ite_true, ite_false, and_self, true_and, and_true, or_self, true_or, or_true, false_or, or_false, decide_eq_true_eq, Int.reduceAdd, Int.reduceSub, Int.reduceMul, Int.reduceNeg, Int.reduceEq, Int.reduceLT, Int.reduceLE, Int.reduceNe, lcmp_z, lcmp_le, lcmp_ge, lcmp_lt, lcmp_gt, am_up_eq, am_up_nl, am_up_ni, gf_17, pf_17, cls_17, pb0_17, pb1_17, ra_50, sa_50, ra_51, sa_51, ra_52, sa_52, ra_53, sa_53, ra_54, sa_54, ra_310, sa_310, ra_309, sa_309, ra_565, sa_565, ra_63, sa_63, ra_62, sa_62, ra_821, sa_821, ra_68, sa_68, ra_1077, sa_1077, ra_64, sa_64, ra_320, sa_320, ra_576, sa_576, ra_61, sa_61, ra_317, sa_317, ra_573, sa_573, ra_829, sa_829, ra_1085, sa_1085, ra_1341, sa_1341, ra_1597, sa_1597, ra_1853, sa_1853, ra_2109, sa_2109, ra_2365, sa_2365, ra_65, sa_65, ra_2621, sa_2621, ra_2877, sa_2877, ra_3133, sa_3133, ra_69, sa_69, ra_70, sa_70, ra_1333, sa_1333, ra_1589, sa_1589, ra_566, sa_566, ra_822, sa_822, ra_1845, sa_1845, ra_2101, sa_2101, ra_2357, sa_2357, ra_2613, sa_2613, ra_66, sa_66, ra_67, sa_67, ra_2869, sa_2869, ra_3125, sa_3125, ra_308, sa_308, ra_71, sa_71, ra_1078, sa_1078, ra_1334, sa_1334, ra_3381, sa_3381, ra_1590, sa_1590, ra_2, ra_3, r1, r2, r3, r4, r5, r6, r7, r8, r9, r10, r12, r13, r14, r15, r16, r18, r19, r20, r21, r22, r23, r24, r25, r26, r27, r28, r30, r31, r32, r33, r34, r35, r36, r37, r38, r39, r40, r41, r44, r49, r50, r51, r52, r54, hk, decide_eq_true h2]
      simp (disch := omega) only [be_X7_find_31, be_X7_find_35, be_X7_findScript_m, be_X7_findScript_0, be_X7_findScript_2, Option.bind_some, cond_true, cond_false, decide_true, decide_false, Bool.not_true, Bool.not_false, ite_true, ite_false, and_self, true_and, and_true, or_self, true_or, or_true, false_or, or_false, decide_eq_true_eq, Int.reduceAdd, Int.reduceSub, Int.reduceMul, Int.reduceNeg, Int.reduceEq, Int.reduceLT, Int.reduceLE, Int.reduceNe, lcmp_z, lcmp_le, lcmp_ge, lcmp_lt, lcmp_gt, am_up_eq, am_up_nl, am_up_ni, gf_17, pf_17, cls_17, pb0_17, pb1_17, ra_50, sa_50, ra_51, sa_51, ra_52, sa_52, ra_53, sa_53, ra_54, sa_54, ra_310, sa_310, ra_309, sa_309, ra_565, sa_565, ra_63, sa_63, ra_62, sa_62, ra_821, sa_821, ra_68, sa_68, ra_1077, sa_1077, ra_64, sa_64, ra_320, sa_320, ra_576, sa_576, ra_61, sa_61, ra_317, sa_317, ra_573, sa_573, ra_829, sa_829, ra_1085, sa_1085, ra_1341, sa_1341, ra_1597, sa_1597, ra_1853, sa_1853, ra_2109, sa_2109, ra_2365, sa_2365, ra_65, sa_65, ra_2621, sa_2621, ra_2877, sa_2877, ra_3133, sa_3133, ra_69, sa_69, ra_70, sa_70, ra_1333, sa_1333, ra_1589, sa_1589, ra_566, sa_566, ra_822, sa_822, ra_1845, sa_1845, ra_2101, sa_2101, ra_2357, sa_2357, ra_2613, sa_2613, ra_66, sa_66, ra_67, sa_67, ra_2869, sa_2869, ra_3125, sa_3125, ra_308, sa_308, ra_71, sa_71, ra_1078, sa_1078, ra_1334, sa_1334, ra_3381, sa_3381, ra_1590, sa_1590, ra_2, ra_3, r1, r2, r3, r4, r5, r6, r7, r8, r9, r10, r12, r13, r14, r15, r16, r18, r19, r20, r21, r22, r23, r24, r25, r26, r27, r28, r30, r31, r32, r33, r34, r35, r36, r37, r38, r39, r40, r41, r44, r49, r50, r51, r52, r54, hn0, e1]
    obtain ⟨t1, -⟩ := rs_rtl hR0 f1
    have t49 : R1 17 49 = 71 := by rw [f1 17 49 (by unfold rtl; omega)]; exact r49
    have tk : R1 309 w = 13 := by rw [f1 309 w (by unfold rtl; omega)]; exact hk
    have lev : am_evm am_PP nX7_look [(2, 17), (0, w)] R = some (0, am_up R1 71 w (if R1 17 45 = 3 ∧ R1 17 48 = 3 then 1 else 0)) := by
      simp (disch := omega) only [be_X7_look_m, be_X7_look_0, be_X7_look_1, be_X7_look_3, Option.bind_some, cond_true, cond_false, decide_true, decide_false, Bool.not_true, Bool.not_false, ite_true, ite_false, and_self, true_and, and_true, or_self, true_or, or_true, false_or, or_false, decide_eq_true_eq, Int.reduceAdd, Int.reduceSub, Int.reduceMul, Int.reduceNeg, Int.reduceEq, Int.reduceLT, Int.reduceLE, Int.reduceNe, lcmp_z, lcmp_le, lcmp_ge, lcmp_lt, lcmp_gt, am_up_eq, am_up_nl, am_up_ni, gf_17, pf_17, cls_17, pb0_17, pb1_17, ra_50, sa_50, ra_51, sa_51, ra_52, sa_52, ra_53, sa_53, ra_54, sa_54, ra_310, sa_310, ra_309, sa_309, ra_565, sa_565, ra_63, sa_63, ra_62, sa_62, ra_821, sa_821, ra_68, sa_68, ra_1077, sa_1077, ra_64, sa_64, ra_320, sa_320, ra_576, sa_576, ra_61, sa_61, ra_317, sa_317, ra_573, sa_573, ra_829, sa_829, ra_1085, sa_1085, ra_1341, sa_1341, ra_1597, sa_1597, ra_1853, sa_1853, ra_2109, sa_2109, ra_2365, sa_2365, ra_65, sa_65, ra_2621, sa_2621, ra_2877, sa_2877, ra_3133, sa_3133, ra_69, sa_69, ra_70, sa_70, ra_1333, sa_1333, ra_1589, sa_1589, ra_566, sa_566, ra_822, sa_822, ra_1845, sa_1845, ra_2101, sa_2101, ra_2357, sa_2357, ra_2613, sa_2613, ra_66, sa_66, ra_67, sa_67, ra_2869, sa_2869, ra_3125, sa_3125, ra_308, sa_308, ra_71, sa_71, ra_1078, sa_1078, ra_1334, sa_1334, ra_3381, sa_3381, ra_1590, sa_1590, ra_2, ra_3, r1, r2, r3, r4, r5, r6, r7, r8, r9, r10, r12, r13, r14, r15, r16, r18, r19, r20, r21, r22, r23, r24, r25, r26, r27, r28, r30, r31, r32, r33, r34, r35, r36, r37, r38, r39, r40, r41, r44, r49, r50, r51, r52, r54, hk, h1, fev, t1, t49, tk]
      by_cases d1 : R1 17 45 = 3
      · by_cases d2 : R1 17 48 = 3
        · simp (disch := omega) only [be_X7_look_4, be_X7_look_5, be_X7_look_6, be_X7_look_7, be_X7_look_8, Option.bind_some, cond_true, cond_false, decide_true, decide_false, Bool.not_true, Bool.not_false, ite_true, ite_false, and_self, true_and, and_true, or_self, true_or, or_true, false_or, or_false, decide_eq_true_eq, Int.reduceAdd, Int.reduceSub, Int.reduceMul, Int.reduceNeg, Int.reduceEq, Int.reduceLT, Int.reduceLE, Int.reduceNe, lcmp_z, lcmp_le, lcmp_ge, lcmp_lt, lcmp_gt, gf_17, pf_17, cls_17, pb0_17, pb1_17, ra_50, sa_50, ra_51, sa_51, ra_52, sa_52, ra_53, sa_53, ra_54, sa_54, ra_310, sa_310, ra_309, sa_309, ra_565, sa_565, ra_63, sa_63, ra_62, sa_62, ra_821, sa_821, ra_68, sa_68, ra_1077, sa_1077, ra_64, sa_64, ra_320, sa_320, ra_576, sa_576, ra_61, sa_61, ra_317, sa_317, ra_573, sa_573, ra_829, sa_829, ra_1085, sa_1085, ra_1341, sa_1341, ra_1597, sa_1597, ra_1853, sa_1853, ra_2109, sa_2109, ra_2365, sa_2365, ra_65, sa_65, ra_2621, sa_2621, ra_2877, sa_2877, ra_3133, sa_3133, ra_69, sa_69, ra_70, sa_70, ra_1333, sa_1333, ra_1589, sa_1589, ra_566, sa_566, ra_822, sa_822, ra_1845, sa_1845, ra_2101, sa_2101, ra_2357, sa_2357, ra_2613, sa_2613, ra_66, sa_66, ra_67, sa_67, ra_2869, sa_2869, ra_3125, sa_3125, ra_308, sa_308, ra_71, sa_71, ra_1078, sa_1078, ra_1334, sa_1334, ra_3381, sa_3381, ra_1590, sa_1590, ra_2, ra_3, d1, d2]
        · simp (disch := omega) only [be_X7_look_4, be_X7_look_5, be_X7_look_6, be_X7_look_7, be_X7_look_8, Option.bind_some, cond_true, cond_false, decide_true, decide_false, Bool.not_true, Bool.not_false, ite_true, ite_false, and_self, true_and, and_true, or_self, true_or, or_true, false_or, or_false, decide_eq_true_eq, Int.reduceAdd, Int.reduceSub, Int.reduceMul, Int.reduceNeg, Int.reduceEq, Int.reduceLT, Int.reduceLE, Int.reduceNe, lcmp_z, lcmp_le, lcmp_ge, lcmp_lt, lcmp_gt, gf_17, pf_17, cls_17, pb0_17, pb1_17, ra_50, sa_50, ra_51, sa_51, ra_52, sa_52, ra_53, sa_53, ra_54, sa_54, ra_310, sa_310, ra_309, sa_309, ra_565, sa_565, ra_63, sa_63, ra_62, sa_62, ra_821, sa_821, ra_68, sa_68, ra_1077, sa_1077, ra_64, sa_64, ra_320, sa_320, ra_576, sa_576, ra_61, sa_61, ra_317, sa_317, ra_573, sa_573, ra_829, sa_829, ra_1085, sa_1085, ra_1341, sa_1341, ra_1597, sa_1597, ra_1853, sa_1853, ra_2109, sa_2109, ra_2365, sa_2365, ra_65, sa_65, ra_2621, sa_2621, ra_2877, sa_2877, ra_3133, sa_3133, ra_69, sa_69, ra_70, sa_70, ra_1333, sa_1333, ra_1589, sa_1589, ra_566, sa_566, ra_822, sa_822, ra_1845, sa_1845, ra_2101, sa_2101, ra_2357, sa_2357, ra_2613, sa_2613, ra_66, sa_66, ra_67, sa_67, ra_2869, sa_2869, ra_3125, sa_3125, ra_308, sa_308, ra_71, sa_71, ra_1078, sa_1078, ra_1334, sa_1334, ra_3381, sa_3381, ra_1590, sa_1590, ra_2, ra_3, d1, d2, and_false]
      · simp (disch := omega) only [be_X7_look_4, be_X7_look_5, be_X7_look_6, be_X7_look_7, be_X7_look_8, Option.bind_some, cond_true, cond_false, decide_true, decide_false, Bool.not_true, Bool.not_false, ite_true, ite_false, and_self, true_and, and_true, or_self, true_or, or_true, false_or, or_false, decide_eq_true_eq, Int.reduceAdd, Int.reduceSub, Int.reduceMul, Int.reduceNeg, Int.reduceEq, Int.reduceLT, Int.reduceLE, Int.reduceNe, lcmp_z, lcmp_le, lcmp_ge, lcmp_lt, lcmp_gt, gf_17, pf_17, cls_17, pb0_17, pb1_17, ra_50, sa_50, ra_51, sa_51, ra_52, sa_52, ra_53, sa_53, ra_54, sa_54, ra_310, sa_310, ra_309, sa_309, ra_565, sa_565, ra_63, sa_63, ra_62, sa_62, ra_821, sa_821, ra_68, sa_68, ra_1077, sa_1077, ra_64, sa_64, ra_320, sa_320, ra_576, sa_576, ra_61, sa_61, ra_317, sa_317, ra_573, sa_573, ra_829, sa_829, ra_1085, sa_1085, ra_1341, sa_1341, ra_1597, sa_1597, ra_1853, sa_1853, ra_2109, sa_2109, ra_2365, sa_2365, ra_65, sa_65, ra_2621, sa_2621, ra_2877, sa_2877, ra_3133, sa_3133, ra_69, sa_69, ra_70, sa_70, ra_1333, sa_1333, ra_1589, sa_1589, ra_566, sa_566, ra_822, sa_822, ra_1845, sa_1845, ra_2101, sa_2101, ra_2357, sa_2357, ra_2613, sa_2613, ra_66, sa_66, ra_67, sa_67, ra_2869, sa_2869, ra_3125, sa_3125, ra_308, sa_308, ra_71, sa_71, ra_1078, sa_1078, ra_1334, sa_1334, ra_3381, sa_3381, ra_1590, sa_1590, ra_2, ra_3, d1, false_and]
    refine ⟨_, lev, fr2_up (by unfold rtl; omega) f1, ?_⟩
    have g17 : ∀ i, am_up R1 71 w (if R1 17 45 = 3 ∧ R1 17 48 = 3 then 1 else 0) 17 i = R1 17 i := fun i => by simp (disch := omega) only [am_up_eq, am_up_nl, am_up_ni]
    rw [g17, g17, g17, g17]
    have g71 : R1 71 w = 0 := by rw [e2 71 w (by unfold rtf rtq; omega), ← h1]; simp (disch := omega) only [am_up_eq, am_up_nl, am_up_ni]
    unfold scn at h7
    have k320 : R1 320 (12 * w + q) = R 320 (12 * w + q) := f1 _ _ (by unfold rtl; omega)
    have k576 : R1 576 (12 * w + q) = R 576 (12 * w + q) := f1 _ _ (by unfold rtl; omega)
    have k64 : R1 64 (12 * w + q) = R 64 (12 * w + q) := f1 _ _ (by unfold rtl; omega)
    have k77 : R1 1077 w = R 1077 w := f1 _ _ (by unfold rtl; omega)
    have mk : s ≠ 9 → ¬ (R1 17 45 = 3 ∧ R1 17 48 = 3) → wl13 C (am_up R1 71 w (if R1 17 45 = 3 ∧ R1 17 48 = 3 then 1 else 0)) w := by
      intro s9 n33
      rw [if_neg n33]
      obtain ⟨u1, u2⟩ := e8 s9
      refine Or.inr (Or.inr (Or.inr ⟨?_, ?_, ?_, ?_, fun k a b => ?_, ?_, ?_⟩))
      · simp (disch := omega) only [am_up_eq, am_up_nl, am_up_ni]
      · simp (disch := omega) only [am_up_eq, am_up_nl, am_up_ni, e3]; exact e5
      · simp (disch := omega) only [am_up_eq, am_up_nl, am_up_ni, e3, k77]; exact e6
      · simp (disch := omega) only [am_up_eq, am_up_nl, am_up_ni, e3]; exact h5
      · simp (disch := omega) only [am_up_eq, am_up_nl, am_up_ni, e4 k a b]; exact h6 k a b
      · simp (disch := omega) only [am_up_eq, am_up_nl, am_up_ni, e3, k64]; exact u1
      · have v := (hs.2.2.2 q e5 e6).2.2.2
        unfold scn
        simp (disch := omega) only [am_up_eq, am_up_nl, am_up_ni, e3, k64, k320, k576, ← u2]
        unfold sv at v
        rcases h7 with h | ⟨x1, x2, x3, x4⟩ | h | h
        · exact Or.inl h
        · refine Or.inr (Or.inl ⟨x1, x2, x3, ?_⟩)
          rw [e4 _ (by omega) (by omega)]; exact x4
        · exact Or.inr (Or.inr (Or.inl h))
        · exact Or.inr (Or.inr (Or.inr h))
    rcases h7 with ⟨x1, x2, x3⟩ | ⟨x1, x2, x3, x4⟩ | ⟨x1, x2, x3⟩ | ⟨x1, x2, x3⟩
    · rcases e7 with ⟨y1, y2, y3⟩ | ⟨y1, y2, y3, y4⟩ | ⟨y1, y2, y3⟩ | ⟨y1, y2, y3⟩
      · exact ⟨by omega, fun _ => by omega, fun _ => by omega, fun _ => by omega, mk (by omega) (by omega)⟩
      all_goals omega
    · rcases e7 with ⟨y1, y2, y3⟩ | ⟨y1, y2, y3, y4⟩ | ⟨y1, y2, y3⟩ | ⟨y1, y2, y3⟩
      · omega
      · exact ⟨by omega, fun _ => by omega, fun _ => ⟨by omega, by omega⟩, fun _ => by omega, mk (by omega) (by omega)⟩
      all_goals omega
    · rcases e7 with ⟨y1, y2, y3⟩ | ⟨y1, y2, y3, y4⟩ | ⟨y1, y2, y3⟩ | ⟨y1, y2, y3⟩
      · omega
      · omega
      · exact ⟨by omega, fun _ => by omega, fun _ => by omega, fun _ => by omega, mk (by omega) (by omega)⟩
      · omega
    · rcases e7 with ⟨y1, y2, y3⟩ | ⟨y1, y2, y3, y4⟩ | ⟨y1, y2, y3⟩ | ⟨y1, y2, y3⟩
      · omega
      · omega
      · omega
      · refine ⟨by omega, fun _ => by omega, fun _ => by omega, fun _ => by omega, Or.inl ⟨?_, x2, x3⟩⟩
        rw [if_pos ⟨y2, y3⟩, am_up_eq]
