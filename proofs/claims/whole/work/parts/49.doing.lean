/-! what a weaver does -/
def dgr (C R : am_M) (w : Int) : Int :=
  if C (15 + 256 * w) 8 = 0 then (if 0 < R 1597 (R 63 (3 * w + C (15 + 256 * w) 9)) ∨ 2 < R 1333 (R 61 (R 63 (3 * w + C (15 + 256 * w) 9))) then 0 else 1)
  else if C (15 + 256 * w) 8 = 1 then (if R 1597 (R 62 (2 * w + C (15 + 256 * w) 9)) < R 1341 (R 62 (2 * w + C (15 + 256 * w) 9)) ∨ 2 < R 1333 (R 317 (R 62 (2 * w + C (15 + 256 * w) 9))) then 0 else 2)
  else if C (15 + 256 * w) 8 = 4 then 3 else if C (15 + 256 * w) 8 = 5 then 4 else 0
theorem dgr_look {C R R1 : am_M} {u : Int} (e : fr2 (rtl u) R R1) (w : Int) : dgr C R1 w = dgr C R w := by
  unfold dgr
  rw [e 63 _ (by unfold rtl; omega), e 62 _ (by unfold rtl; omega), e 1597 _ (by unfold rtl; omega), e 61 _ (by unfold rtl; omega), e 1333 _ (by unfold rtl; omega), e 1597 _ (by unfold rtl; omega), e 1341 _ (by unfold rtl; omega), e 317 _ (by unfold rtl; omega), e 1333 _ (by unfold rtl; omega)]
theorem dgr_val (C R : am_M) (w : Int) : dgr C R w = 0 ∨ dgr C R w = 1 ∨ dgr C R w = 2 ∨ dgr C R w = 3 ∨ dgr C R w = 4 := by
  unfold dgr
  split
  · split <;> simp
  · split
    · split <;> simp
    · split
      · simp
      · split <;> simp
/-- the ports of what is next -/
theorem RR_next {C R : am_M} {h V : Int → Int → Int} {t : Int → Int} {w : Int} (H : RR C R h V t) (w0 : 0 ≤ w) (w1 : w < R 17 0) : (C (15 + 256 * w) 8 = 0 → 0 ≤ C (15 + 256 * w) 9 ∧ C (15 + 256 * w) 9 < k_in (R 309 w) ∧ C (15 + 256 * w) 9 < 3) ∧ (C (15 + 256 * w) 8 = 1 → 0 ≤ C (15 + 256 * w) 9 ∧ C (15 + 256 * w) 9 < k_out (R 309 w) ∧ C (15 + 256 * w) 9 < 2) ∧ ((C (15 + 256 * w) 8 = 4 ∧ R 1333 w = 3) ∨ (C (15 + 256 * w) 8 = 5 ∧ R 1333 w = 4) ∨ (R 1333 w = 0 ∧ (C (15 + 256 * w) 8 = 0 ∨ C (15 + 256 * w) 8 = 1 ∨ C (15 + 256 * w) 8 = 2 ∨ C (15 + 256 * w) 8 = 3))) := by
  obtain ⟨hR, w2, hsw, hpr, ⟨x1, x2, x3, x4, x5, x6, x7, x8⟩, h50, h8, z1, z2, z3, z4, z5, z6⟩ := RR_w H w0 w1
  rcases x7 with q | q | q
  · exact ⟨fun a => by omega, fun a => by omega, Or.inl ⟨q.2, q.1⟩⟩
  · exact ⟨fun a => by omega, fun a => by omega, Or.inr (Or.inl ⟨q.2.1, q.1⟩)⟩
  · obtain ⟨p1, p2, p3⟩ := ws_port hsw q.2.2
    exact ⟨fun a => ⟨(p2 a).1, (p2 a).2.1, (p2 a).2.2.1⟩, p3, Or.inr (Or.inr ⟨q.1, p1⟩)⟩
theorem cl_doing {C R : am_M} {h V : Int → Int → Int} {t : Int → Int} {w : Int} (H : RR C R h V t) (w0 : 0 ≤ w) (w1 : w < R 17 0) : am_evm am_PP nX5_doing [(2, 15 + 256 * w)] C = some (dgr C R w, C) := by
  obtain ⟨hR, w2, hsw, hpr, hwr, h50, h8, z1, z2, z3, z4, z5, z6⟩ := RR_w H w0 w1
  obtain ⟨n1, n2, n3⟩ := RR_next H w0 w1
  obtain ⟨hc, _⟩ := id hsw
  obtain ⟨c0, c1, c2, c3, c4, c5, d0, d1, d2, s0, s1, s2, s3⟩ := hc
  unfold dgr
  rcases n3 with ⟨q, q2⟩ | ⟨q, q2⟩ | ⟨q2, q | q | q | q⟩
  · simp (disch := omega) only [be_X5_doing_m, be_X5_doing_0, be_X5_doing_11, Option.bind_some, cond_true, cond_false, decide_true, decide_false, Bool.not_true, Bool.not_false, ite_true, ite_false, and_self, true_and, and_true, or_self, true_or, or_true, false_or, or_false, decide_eq_true_eq, Int.reduceAdd, Int.reduceSub, Int.reduceMul, Int.reduceNeg, Int.reduceEq, Int.reduceLT, Int.reduceLE, Int.reduceNe, lcmp_z, lcmp_le, lcmp_ge, lcmp_lt, lcmp_gt, gf_15, pf_15, cls_15, pos_15, gf_10, pf_10, cls_10, pos_10, q]
  · simp (disch := omega) only [be_X5_doing_m, be_X5_doing_0, be_X5_doing_12, Option.bind_some, cond_true, cond_false, decide_true, decide_false, Bool.not_true, Bool.not_false, ite_true, ite_false, and_self, true_and, and_true, or_self, true_or, or_true, false_or, or_false, decide_eq_true_eq, Int.reduceAdd, Int.reduceSub, Int.reduceMul, Int.reduceNeg, Int.reduceEq, Int.reduceLT, Int.reduceLE, Int.reduceNe, lcmp_z, lcmp_le, lcmp_ge, lcmp_lt, lcmp_gt, gf_15, pf_15, cls_15, pos_15, gf_10, pf_10, cls_10, pos_10, q]
  · obtain ⟨p0, p1, p2⟩ := n1 q
    obtain ⟨b0, b1, b2, b3⟩ := RR_in H w0 w1 p0 p1 p2
    obtain ⟨b60, ⟨hbcl, hrb, _⟩, f0, f1, t0, t1⟩ := RR_b H b0 b1
    have hfw := RR_w H f0 f1
    obtain ⟨ov1, ov2⟩ := st_over hfw.2.2.1 hfw.2.2.2.2.1.2.2.2.2.2.2.1
    have hfm := hbcl.2.2.1
    have hld := (bcl_len hbcl).2.1
    have hcr := cl_canBeRead (C := C) b0 f0 hfm
    have nb : (10 + 256 * R 63 (3 * w + C (15 + 256 * w) 9) = 0) = False := eq_false (by omega)
    by_cases c : 0 < R 1597 (R 63 (3 * w + C (15 + 256 * w) 9)) ∨ 2 < R 1333 (R 61 (R 63 (3 * w + C (15 + 256 * w) 9)))
    · rw [if_pos (by rw [hld, ov1]; exact c)] at hcr
      rw [if_pos q, if_pos c]
      simp (disch := omega) only [be_X5_doing_m, be_X5_doing_0, Option.bind_some, cond_true, cond_false, decide_true, decide_false, Bool.not_true, Bool.not_false, ite_true, ite_false, and_self, true_and, and_true, or_self, true_or, or_true, false_or, or_false, decide_eq_true_eq, Int.reduceAdd, Int.reduceSub, Int.reduceMul, Int.reduceNeg, Int.reduceEq, Int.reduceLT, Int.reduceLE, Int.reduceNe, lcmp_z, lcmp_le, lcmp_ge, lcmp_lt, lcmp_gt, gf_15, pf_15, cls_15, pos_15, gf_10, pf_10, cls_10, pos_10, q]
      simp (disch := omega) only [be_X5_doing_1, be_X5_doing_2, be_X5_doing_3, be_X5_doing_5, Option.bind_some, cond_true, cond_false, decide_true, decide_false, Bool.not_true, Bool.not_false, ite_true, ite_false, and_self, true_and, and_true, or_self, true_or, or_true, false_or, or_false, decide_eq_true_eq, Int.reduceAdd, Int.reduceSub, Int.reduceMul, Int.reduceNeg, Int.reduceEq, Int.reduceLT, Int.reduceLE, Int.reduceNe, lcmp_z, lcmp_le, lcmp_ge, lcmp_lt, lcmp_gt, gf_15, pf_15, cls_15, pos_15, gf_10, pf_10, cls_10, pos_10, c0, c1, c2, c3, c4, c5, d0, d1, d2, s0, s1, s2, s3, ra_55, b3, nb, hcr]
    · rw [if_neg (by rw [hld, ov1]; exact c)] at hcr
      rw [if_pos q, if_neg c]
      simp (disch := omega) only [be_X5_doing_m, be_X5_doing_0, Option.bind_some, cond_true, cond_false, decide_true, decide_false, Bool.not_true, Bool.not_false, ite_true, ite_false, and_self, true_and, and_true, or_self, true_or, or_true, false_or, or_false, decide_eq_true_eq, Int.reduceAdd, Int.reduceSub, Int.reduceMul, Int.reduceNeg, Int.reduceEq, Int.reduceLT, Int.reduceLE, Int.reduceNe, lcmp_z, lcmp_le, lcmp_ge, lcmp_lt, lcmp_gt, gf_15, pf_15, cls_15, pos_15, gf_10, pf_10, cls_10, pos_10, q]
      simp (disch := omega) only [be_X5_doing_1, be_X5_doing_2, be_X5_doing_4, be_X5_doing_5, Option.bind_some, cond_true, cond_false, decide_true, decide_false, Bool.not_true, Bool.not_false, ite_true, ite_false, and_self, true_and, and_true, or_self, true_or, or_true, false_or, or_false, decide_eq_true_eq, Int.reduceAdd, Int.reduceSub, Int.reduceMul, Int.reduceNeg, Int.reduceEq, Int.reduceLT, Int.reduceLE, Int.reduceNe, lcmp_z, lcmp_le, lcmp_ge, lcmp_lt, lcmp_gt, gf_15, pf_15, cls_15, pos_15, gf_10, pf_10, cls_10, pos_10, c0, c1, c2, c3, c4, c5, d0, d1, d2, s0, s1, s2, s3, ra_55, b3, nb, hcr]
  · obtain ⟨p0, p1, p2⟩ := n2 q
    obtain ⟨b0, b1, b2, b3⟩ := RR_out H w0 w1 p0 p1 p2
    obtain ⟨b60, ⟨hbcl, hrb, _⟩, f0, f1, t0, t1⟩ := RR_b H b0 b1
    have hfw := RR_w H t0 t1
    obtain ⟨ov1, ov2⟩ := st_over hfw.2.2.1 hfw.2.2.2.2.1.2.2.2.2.2.2.1
    have hfm := hbcl.2.2.2.1
    have hld := (bcl_len hbcl).2.1
    have hwn := hbcl.2.2.2.2.2.1
    have hcr := cl_canBeWritten (C := C) b0 t0 hfm
    have nb : (10 + 256 * R 62 (2 * w + C (15 + 256 * w) 9) = 0) = False := eq_false (by omega)
    by_cases c : R 1597 (R 62 (2 * w + C (15 + 256 * w) 9)) < R 1341 (R 62 (2 * w + C (15 + 256 * w) 9)) ∨ 2 < R 1333 (R 317 (R 62 (2 * w + C (15 + 256 * w) 9)))
    · rw [if_pos (by rw [hld, hwn, ov1]; exact c)] at hcr
      rw [if_neg (by omega), if_pos q, if_pos c]
      simp (disch := omega) only [be_X5_doing_m, be_X5_doing_0, Option.bind_some, cond_true, cond_false, decide_true, decide_false, Bool.not_true, Bool.not_false, ite_true, ite_false, and_self, true_and, and_true, or_self, true_or, or_true, false_or, or_false, decide_eq_true_eq, Int.reduceAdd, Int.reduceSub, Int.reduceMul, Int.reduceNeg, Int.reduceEq, Int.reduceLT, Int.reduceLE, Int.reduceNe, lcmp_z, lcmp_le, lcmp_ge, lcmp_lt, lcmp_gt, gf_15, pf_15, cls_15, pos_15, gf_10, pf_10, cls_10, pos_10, q]
      simp (disch := omega) only [be_X5_doing_6, be_X5_doing_7, be_X5_doing_8, be_X5_doing_10, Option.bind_some, cond_true, cond_false, decide_true, decide_false, Bool.not_true, Bool.not_false, ite_true, ite_false, and_self, true_and, and_true, or_self, true_or, or_true, false_or, or_false, decide_eq_true_eq, Int.reduceAdd, Int.reduceSub, Int.reduceMul, Int.reduceNeg, Int.reduceEq, Int.reduceLT, Int.reduceLE, Int.reduceNe, lcmp_z, lcmp_le, lcmp_ge, lcmp_lt, lcmp_gt, gf_15, pf_15, cls_15, pos_15, gf_10, pf_10, cls_10, pos_10, c0, c1, c2, c3, c4, c5, d0, d1, d2, s0, s1, s2, s3, ra_56, b3, nb, hcr]
    · rw [if_neg (by rw [hld, hwn, ov1]; exact c)] at hcr
      rw [if_neg (by omega), if_pos q, if_neg c]
      simp (disch := omega) only [be_X5_doing_m, be_X5_doing_0, Option.bind_some, cond_true, cond_false, decide_true, decide_false, Bool.not_true, Bool.not_false, ite_true, ite_false, and_self, true_and, and_true, or_self, true_or, or_true, false_or, or_false, decide_eq_true_eq, Int.reduceAdd, Int.reduceSub, Int.reduceMul, Int.reduceNeg, Int.reduceEq, Int.reduceLT, Int.reduceLE, Int.reduceNe, lcmp_z, lcmp_le, lcmp_ge, lcmp_lt, lcmp_gt, gf_15, pf_15, cls_15, pos_15, gf_10, pf_10, cls_10, pos_10, q]
      simp (disch := omega) only [be_X5_doing_6, be_X5_doing_7, be_X5_doing_9, be_X5_doing_10, Option.bind_some, cond_true, cond_false, decide_true, decide_false, Bool.not_true, Bool.not_false, ite_true, ite_false, and_self, true_and, and_true, or_self, true_or, or_true, false_or, or_false, decide_eq_true_eq, Int.reduceAdd, Int.reduceSub, Int.reduceMul, Int.reduceNeg, Int.reduceEq, Int.reduceLT, Int.reduceLE, Int.reduceNe, lcmp_z, lcmp_le, lcmp_ge, lcmp_lt, lcmp_gt, gf_15, pf_15, cls_15, pos_15, gf_10, pf_10, cls_10, pos_10, c0, c1, c2, c3, c4, c5, d0, d1, d2, s0, s1, s2, s3, ra_56, b3, nb, hcr]
  · simp (disch := omega) only [be_X5_doing_m, be_X5_doing_0, be_X5_doing_13, Option.bind_some, cond_true, cond_false, decide_true, decide_false, Bool.not_true, Bool.not_false, ite_true, ite_false, and_self, true_and, and_true, or_self, true_or, or_true, false_or, or_false, decide_eq_true_eq, Int.reduceAdd, Int.reduceSub, Int.reduceMul, Int.reduceNeg, Int.reduceEq, Int.reduceLT, Int.reduceLE, Int.reduceNe, lcmp_z, lcmp_le, lcmp_ge, lcmp_lt, lcmp_gt, gf_15, pf_15, cls_15, pos_15, gf_10, pf_10, cls_10, pos_10, q]
  · simp (disch := omega) only [be_X5_doing_m, be_X5_doing_0, be_X5_doing_13, Option.bind_some, cond_true, cond_false, decide_true, decide_false, Bool.not_true, Bool.not_false, ite_true, ite_false, and_self, true_and, and_true, or_self, true_or, or_true, false_or, or_false, decide_eq_true_eq, Int.reduceAdd, Int.reduceSub, Int.reduceMul, Int.reduceNeg, Int.reduceEq, Int.reduceLT, Int.reduceLE, Int.reduceNe, lcmp_z, lcmp_le, lcmp_ge, lcmp_lt, lcmp_gt, gf_15, pf_15, cls_15, pos_15, gf_10, pf_10, cls_10, pos_10, q]
theorem rf_state {C R : am_M} {h V : Int → Int → Int} {t : Int → Int} {w : Int} (H : RR C R h V t) (w0 : 0 ≤ w) (w1 : w < R 17 0) (hac : R 17 42 < 42000 ∨ R 17 42 = 42000) : ∃ R', am_evm am_PP nX7_stateOf [(2, 17), (0, w)] R = some (dgr C R w, R') ∧ RR C R' h V t ∧ fr2 (rtl w) R R' ∧ (dgr C R w = 2 → R' 17 45 = 1 ∧ R' 17 46 = C (15 + 256 * w) 9) ∧ (dgr C R w = 1 → R' 17 46 = C (15 + 256 * w) 9) := by
  obtain ⟨hR, w2, hsw, hpr, ⟨x1, x2, x3, x4, x5, x6, x7, x8⟩, h50, h8, z1, z2, z3, z4, z5, z6⟩ := RR_w H w0 w1
  obtain ⟨n1, n2, n3⟩ := RR_next H w0 w1
  have over : ∀ s, R 1333 w = s → 2 < s → am_evm am_PP nX7_stateOf [(2, 17), (0, w)] R = some (s, R) := by
    intro s hs h2
    have io := rf_isOver' hR w0 w2
    rw [hs, if_pos h2] at io
    obtain ⟨r1, r2, r3, r4, r5, r6, r7, r8, r9, r10, r12, r13, r14, r15, r16, r18, r19, r20, r21, r22, r23, r24, r25, r26, r27, r28, r30, r31, r32, r33, r34, r35, r36, r37, r38, r39, r40, r41, r44, r49, r50, r51, r52, r54⟩ := hR
    simp (disch := omega) only [be_X7_stateOf_m, be_X7_stateOf_0, be_X7_stateOf_1, Option.bind_some, cond_true, cond_false, decide_true, decide_false, Bool.not_true, Bool.not_false, ite_true, ite_false, and_self, true_and, and_true, or_self, true_or, or_true, false_or, or_false, decide_eq_true_eq, Int.reduceAdd, Int.reduceSub, Int.reduceMul, Int.reduceNeg, Int.reduceEq, Int.reduceLT, Int.reduceLE, Int.reduceNe, lcmp_z, lcmp_le, lcmp_ge, lcmp_lt, lcmp_gt, gf_17, pf_17, cls_17, pb0_17, pb1_17, ra_50, sa_50, ra_51, sa_51, ra_52, sa_52, ra_53, sa_53, ra_54, sa_54, ra_310, sa_310, ra_309, sa_309, ra_565, sa_565, ra_63, sa_63, ra_62, sa_62, ra_821, sa_821, ra_68, sa_68, ra_1077, sa_1077, ra_64, sa_64, ra_320, sa_320, ra_576, sa_576, ra_61, sa_61, ra_317, sa_317, ra_573, sa_573, ra_829, sa_829, ra_1085, sa_1085, ra_1341, sa_1341, ra_1597, sa_1597, ra_1853, sa_1853, ra_2109, sa_2109, ra_2365, sa_2365, ra_65, sa_65, ra_2621, sa_2621, ra_2877, sa_2877, ra_3133, sa_3133, ra_69, sa_69, ra_70, sa_70, ra_1333, sa_1333, ra_1589, sa_1589, ra_566, sa_566, ra_822, sa_822, ra_1845, sa_1845, ra_2101, sa_2101, ra_2357, sa_2357, ra_2613, sa_2613, ra_66, sa_66, ra_67, sa_67, ra_2869, sa_2869, ra_3125, sa_3125, ra_308, sa_308, ra_71, sa_71, ra_1078, sa_1078, ra_1334, sa_1334, ra_3381, sa_3381, ra_1590, sa_1590, ra_2, ra_3, r1, r2, r3, r4, r5, r6, r7, r8, r9, r10, r12, r13, r14, r15, r16, r18, r19, r20, r21, r22, r23, r24, r25, r26, r27, r28, r30, r31, r32, r33, r34, r35, r36, r37, r38, r39, r40, r41, r44, r49, r50, r51, r52, r54, io, hs]
  rcases n3 with ⟨q, q2⟩ | ⟨q, q2⟩ | ⟨q2, q⟩
  · have e : dgr C R w = 3 := by unfold dgr; rw [q]; rfl
    rw [e]
    exact ⟨R, over 3 q2 (by omega), H, fr2_refl _ _, fun a => by first | omega | exact absurd a (by decide), fun a => by first | omega | exact absurd a (by decide)⟩
  · have e : dgr C R w = 4 := by unfold dgr; rw [q]; rfl
    rw [e]
    exact ⟨R, over 4 q2 (by omega), H, fr2_refl _ _, fun a => by first | omega | exact absurd a (by decide), fun a => by first | omega | exact absurd a (by decide)⟩
  · have hws : ws C R w := by
      rcases x7 with p | p | p
      · omega
      · omega
      · exact p.2.2
    obtain ⟨R1, e1, e2, e3, e4, e5, e6, e7⟩ := look_all hR w0 w2 hsw hws
    have e8 := RR_look H w0 w1 e2 q2 (wl_ws e7)
    have hR1 := rs_rtl hR e2
    have io := rf_isOver' hR w0 w2
    rw [q2, if_neg (by omega)] at io
    have beg : am_evm am_PP nX7_stateOf [(2, 17), (0, w)] R = bif !(decide (R1 17 45 = 0)) then am_ev am_PP nX7_stateOf 8 [17, w] [] R1 else am_ev am_PP nX7_stateOf 3 [17, w] [] R1 := by
      simp (disch := omega) only [be_X7_stateOf_m, be_X7_stateOf_0, be_X7_stateOf_2, Option.bind_some, cond_true, cond_false, decide_true, decide_false, Bool.not_true, Bool.not_false, ite_true, ite_false, and_self, true_and, and_true, or_self, true_or, or_true, false_or, or_false, decide_eq_true_eq, Int.reduceAdd, Int.reduceSub, Int.reduceMul, Int.reduceNeg, Int.reduceEq, Int.reduceLT, Int.reduceLE, Int.reduceNe, lcmp_z, lcmp_le, lcmp_ge, lcmp_lt, lcmp_gt, gf_17, pf_17, cls_17, pb0_17, pb1_17, ra_50, sa_50, ra_51, sa_51, ra_52, sa_52, ra_53, sa_53, ra_54, sa_54, ra_310, sa_310, ra_309, sa_309, ra_565, sa_565, ra_63, sa_63, ra_62, sa_62, ra_821, sa_821, ra_68, sa_68, ra_1077, sa_1077, ra_64, sa_64, ra_320, sa_320, ra_576, sa_576, ra_61, sa_61, ra_317, sa_317, ra_573, sa_573, ra_829, sa_829, ra_1085, sa_1085, ra_1341, sa_1341, ra_1597, sa_1597, ra_1853, sa_1853, ra_2109, sa_2109, ra_2365, sa_2365, ra_65, sa_65, ra_2621, sa_2621, ra_2877, sa_2877, ra_3133, sa_3133, ra_69, sa_69, ra_70, sa_70, ra_1333, sa_1333, ra_1589, sa_1589, ra_566, sa_566, ra_822, sa_822, ra_1845, sa_1845, ra_2101, sa_2101, ra_2357, sa_2357, ra_2613, sa_2613, ra_66, sa_66, ra_67, sa_67, ra_2869, sa_2869, ra_3125, sa_3125, ra_308, sa_308, ra_71, sa_71, ra_1078, sa_1078, ra_1334, sa_1334, ra_3381, sa_3381, ra_1590, sa_1590, ra_2, ra_3, io, e1]
    rw [beg, ← dgr_look e2 w]
    obtain ⟨y1, y2, y3, y4, y5⟩ := rtl_hall e2
    rcases q with q | q | q | q
    · obtain ⟨p0, p1, p2⟩ := n1 q
      obtain ⟨b0, b1, b2, b3⟩ := RR_in e8 w0 (by omega) p0 (by rw [e2 309 w (by unfold rtl; omega)]; exact p1) p2
      obtain ⟨b60, ⟨hbcl, hrb, _⟩, f0, f1, t0, t1⟩ := RR_b e8 b0 b1
      have ob := hrb.2.1
      have io2 := rf_isOver' hR1 f0 (show R1 61 (R1 63 (3 * w + C (15 + 256 * w) 9)) < 40 by omega)
      have hp := e4 q
      unfold dgr
      rw [if_pos q]
      obtain ⟨r1, r2, r3, r4, r5, r6, r7, r8, r9, r10, r12, r13, r14, r15, r16, r18, r19, r20, r21, r22, r23, r24, r25, r26, r27, r28, r30, r31, r32, r33, r34, r35, r36, r37, r38, r39, r40, r41, r44, r49, r50, r51, r52, r54⟩ := hR1
      have h45 : R1 17 45 = 0 := by omega
      by_cases c1 : R1 1597 (R1 63 (3 * w + C (15 + 256 * w) 9)) = 0
      · by_cases c2 : 2 < R1 1333 (R1 61 (R1 63 (3 * w + C (15 + 256 * w) 9)))
        · rw [if_pos (Or.inr c2)]
          rw [if_pos c2] at io2
          simp (disch := omega) only [be_X7_stateOf_3, be_X7_stateOf_4, be_X7_stateOf_6, be_X7_stateOf_7, be_X7_bandAt_m, be_X7_bandAt_0, be_X7_bandAt_1, be_X7_bandAt_2, be_X7_bandAt_3, Option.bind_some, cond_true, cond_false, decide_true, decide_false, Bool.not_true, Bool.not_false, ite_true, ite_false, and_self, true_and, and_true, or_self, true_or, or_true, false_or, or_false, decide_eq_true_eq, Int.reduceAdd, Int.reduceSub, Int.reduceMul, Int.reduceNeg, Int.reduceEq, Int.reduceLT, Int.reduceLE, Int.reduceNe, lcmp_z, lcmp_le, lcmp_ge, lcmp_lt, lcmp_gt, gf_17, pf_17, cls_17, pb0_17, pb1_17, ra_50, sa_50, ra_51, sa_51, ra_52, sa_52, ra_53, sa_53, ra_54, sa_54, ra_310, sa_310, ra_309, sa_309, ra_565, sa_565, ra_63, sa_63, ra_62, sa_62, ra_821, sa_821, ra_68, sa_68, ra_1077, sa_1077, ra_64, sa_64, ra_320, sa_320, ra_576, sa_576, ra_61, sa_61, ra_317, sa_317, ra_573, sa_573, ra_829, sa_829, ra_1085, sa_1085, ra_1341, sa_1341, ra_1597, sa_1597, ra_1853, sa_1853, ra_2109, sa_2109, ra_2365, sa_2365, ra_65, sa_65, ra_2621, sa_2621, ra_2877, sa_2877, ra_3133, sa_3133, ra_69, sa_69, ra_70, sa_70, ra_1333, sa_1333, ra_1589, sa_1589, ra_566, sa_566, ra_822, sa_822, ra_1845, sa_1845, ra_2101, sa_2101, ra_2357, sa_2357, ra_2613, sa_2613, ra_66, sa_66, ra_67, sa_67, ra_2869, sa_2869, ra_3125, sa_3125, ra_308, sa_308, ra_71, sa_71, ra_1078, sa_1078, ra_1334, sa_1334, ra_3381, sa_3381, ra_1590, sa_1590, ra_2, ra_3, r1, r2, r3, r4, r5, r6, r7, r8, r9, r10, r12, r13, r14, r15, r16, r18, r19, r20, r21, r22, r23, r24, r25, r26, r27, r28, r30, r31, r32, r33, r34, r35, r36, r37, r38, r39, r40, r41, r44, r49, r50, r51, r52, r54, h45, hp, c1, io2, am_w32_ok]
          exact ⟨R1, rfl, e8, e2, fun a => by first | omega | exact absurd a (by decide), fun a => by first | omega | exact absurd a (by decide)⟩
        · rw [if_neg (by omega)]
          rw [if_neg c2] at io2
          simp (disch := omega) only [be_X7_stateOf_3, be_X7_stateOf_4, be_X7_stateOf_5, be_X7_stateOf_7, be_X7_bandAt_m, be_X7_bandAt_0, be_X7_bandAt_1, be_X7_bandAt_2, be_X7_bandAt_3, Option.bind_some, cond_true, cond_false, decide_true, decide_false, Bool.not_true, Bool.not_false, ite_true, ite_false, and_self, true_and, and_true, or_self, true_or, or_true, false_or, or_false, decide_eq_true_eq, Int.reduceAdd, Int.reduceSub, Int.reduceMul, Int.reduceNeg, Int.reduceEq, Int.reduceLT, Int.reduceLE, Int.reduceNe, lcmp_z, lcmp_le, lcmp_ge, lcmp_lt, lcmp_gt, gf_17, pf_17, cls_17, pb0_17, pb1_17, ra_50, sa_50, ra_51, sa_51, ra_52, sa_52, ra_53, sa_53, ra_54, sa_54, ra_310, sa_310, ra_309, sa_309, ra_565, sa_565, ra_63, sa_63, ra_62, sa_62, ra_821, sa_821, ra_68, sa_68, ra_1077, sa_1077, ra_64, sa_64, ra_320, sa_320, ra_576, sa_576, ra_61, sa_61, ra_317, sa_317, ra_573, sa_573, ra_829, sa_829, ra_1085, sa_1085, ra_1341, sa_1341, ra_1597, sa_1597, ra_1853, sa_1853, ra_2109, sa_2109, ra_2365, sa_2365, ra_65, sa_65, ra_2621, sa_2621, ra_2877, sa_2877, ra_3133, sa_3133, ra_69, sa_69, ra_70, sa_70, ra_1333, sa_1333, ra_1589, sa_1589, ra_566, sa_566, ra_822, sa_822, ra_1845, sa_1845, ra_2101, sa_2101, ra_2357, sa_2357, ra_2613, sa_2613, ra_66, sa_66, ra_67, sa_67, ra_2869, sa_2869, ra_3125, sa_3125, ra_308, sa_308, ra_71, sa_71, ra_1078, sa_1078, ra_1334, sa_1334, ra_3381, sa_3381, ra_1590, sa_1590, ra_2, ra_3, r1, r2, r3, r4, r5, r6, r7, r8, r9, r10, r12, r13, r14, r15, r16, r18, r19, r20, r21, r22, r23, r24, r25, r26, r27, r28, r30, r31, r32, r33, r34, r35, r36, r37, r38, r39, r40, r41, r44, r49, r50, r51, r52, r54, h45, hp, c1, io2, am_w32_ok]
          exact ⟨R1, rfl, e8, e2, fun a => by first | omega | exact absurd a (by decide), fun a => hp⟩
      · rw [if_pos (Or.inl (by omega))]
        simp (disch := omega) only [be_X7_stateOf_3, be_X7_stateOf_6, be_X7_stateOf_7, be_X7_bandAt_m, be_X7_bandAt_0, be_X7_bandAt_1, be_X7_bandAt_2, be_X7_bandAt_3, Option.bind_some, cond_true, cond_false, decide_true, decide_false, Bool.not_true, Bool.not_false, ite_true, ite_false, and_self, true_and, and_true, or_self, true_or, or_true, false_or, or_false, decide_eq_true_eq, Int.reduceAdd, Int.reduceSub, Int.reduceMul, Int.reduceNeg, Int.reduceEq, Int.reduceLT, Int.reduceLE, Int.reduceNe, lcmp_z, lcmp_le, lcmp_ge, lcmp_lt, lcmp_gt, gf_17, pf_17, cls_17, pb0_17, pb1_17, ra_50, sa_50, ra_51, sa_51, ra_52, sa_52, ra_53, sa_53, ra_54, sa_54, ra_310, sa_310, ra_309, sa_309, ra_565, sa_565, ra_63, sa_63, ra_62, sa_62, ra_821, sa_821, ra_68, sa_68, ra_1077, sa_1077, ra_64, sa_64, ra_320, sa_320, ra_576, sa_576, ra_61, sa_61, ra_317, sa_317, ra_573, sa_573, ra_829, sa_829, ra_1085, sa_1085, ra_1341, sa_1341, ra_1597, sa_1597, ra_1853, sa_1853, ra_2109, sa_2109, ra_2365, sa_2365, ra_65, sa_65, ra_2621, sa_2621, ra_2877, sa_2877, ra_3133, sa_3133, ra_69, sa_69, ra_70, sa_70, ra_1333, sa_1333, ra_1589, sa_1589, ra_566, sa_566, ra_822, sa_822, ra_1845, sa_1845, ra_2101, sa_2101, ra_2357, sa_2357, ra_2613, sa_2613, ra_66, sa_66, ra_67, sa_67, ra_2869, sa_2869, ra_3125, sa_3125, ra_308, sa_308, ra_71, sa_71, ra_1078, sa_1078, ra_1334, sa_1334, ra_3381, sa_3381, ra_1590, sa_1590, ra_2, ra_3, r1, r2, r3, r4, r5, r6, r7, r8, r9, r10, r12, r13, r14, r15, r16, r18, r19, r20, r21, r22, r23, r24, r25, r26, r27, r28, r30, r31, r32, r33, r34, r35, r36, r37, r38, r39, r40, r41, r44, r49, r50, r51, r52, r54, h45, hp, eq_false c1, am_w32_ok]
        exact ⟨R1, rfl, e8, e2, fun a => by first | omega | exact absurd a (by decide), fun a => by first | omega | exact absurd a (by decide)⟩
    · obtain ⟨p0, p1, p2⟩ := n2 q
      obtain ⟨b0, b1, b2, b3⟩ := RR_out e8 w0 (by omega) p0 (by rw [e2 309 w (by unfold rtl; omega)]; exact p1) p2
      obtain ⟨b60, ⟨hbcl, hrb, _⟩, f0, f1, t0, t1⟩ := RR_b e8 b0 b1
      have ob := hrb.2.1
      have io2 := rf_isOver' hR1 t0 (show R1 317 (R1 62 (2 * w + C (15 + 256 * w) 9)) < 40 by omega)
      have hp := (e5 q).1
      unfold dgr
      rw [if_neg (by omega), if_pos q]
      obtain ⟨r1, r2, r3, r4, r5, r6, r7, r8, r9, r10, r12, r13, r14, r15, r16, r18, r19, r20, r21, r22, r23, r24, r25, r26, r27, r28, r30, r31, r32, r33, r34, r35, r36, r37, r38, r39, r40, r41, r44, r49, r50, r51, r52, r54⟩ := hR1
      have h45 : R1 17 45 = 1 := by omega
      by_cases c1 : R1 1597 (R1 62 (2 * w + C (15 + 256 * w) 9)) < R1 1341 (R1 62 (2 * w + C (15 + 256 * w) 9))
      · rw [if_pos (Or.inl c1)]
        simp (disch := omega) only [be_X7_stateOf_8, be_X7_stateOf_9, be_X7_stateOf_12, be_X7_stateOf_13, be_X7_bandAt_m, be_X7_bandAt_0, be_X7_bandAt_1, be_X7_bandAt_2, be_X7_bandAt_3, Option.bind_some, cond_true, cond_false, decide_true, decide_false, Bool.not_true, Bool.not_false, ite_true, ite_false, and_self, true_and, and_true, or_self, true_or, or_true, false_or, or_false, decide_eq_true_eq, Int.reduceAdd, Int.reduceSub, Int.reduceMul, Int.reduceNeg, Int.reduceEq, Int.reduceLT, Int.reduceLE, Int.reduceNe, lcmp_z, lcmp_le, lcmp_ge, lcmp_lt, lcmp_gt, gf_17, pf_17, cls_17, pb0_17, pb1_17, ra_50, sa_50, ra_51, sa_51, ra_52, sa_52, ra_53, sa_53, ra_54, sa_54, ra_310, sa_310, ra_309, sa_309, ra_565, sa_565, ra_63, sa_63, ra_62, sa_62, ra_821, sa_821, ra_68, sa_68, ra_1077, sa_1077, ra_64, sa_64, ra_320, sa_320, ra_576, sa_576, ra_61, sa_61, ra_317, sa_317, ra_573, sa_573, ra_829, sa_829, ra_1085, sa_1085, ra_1341, sa_1341, ra_1597, sa_1597, ra_1853, sa_1853, ra_2109, sa_2109, ra_2365, sa_2365, ra_65, sa_65, ra_2621, sa_2621, ra_2877, sa_2877, ra_3133, sa_3133, ra_69, sa_69, ra_70, sa_70, ra_1333, sa_1333, ra_1589, sa_1589, ra_566, sa_566, ra_822, sa_822, ra_1845, sa_1845, ra_2101, sa_2101, ra_2357, sa_2357, ra_2613, sa_2613, ra_66, sa_66, ra_67, sa_67, ra_2869, sa_2869, ra_3125, sa_3125, ra_308, sa_308, ra_71, sa_71, ra_1078, sa_1078, ra_1334, sa_1334, ra_3381, sa_3381, ra_1590, sa_1590, ra_2, ra_3, r1, r2, r3, r4, r5, r6, r7, r8, r9, r10, r12, r13, r14, r15, r16, r18, r19, r20, r21, r22, r23, r24, r25, r26, r27, r28, r30, r31, r32, r33, r34, r35, r36, r37, r38, r39, r40, r41, r44, r49, r50, r51, r52, r54, h45, hp, decide_eq_true c1, am_w32_ok]
        exact ⟨R1, rfl, e8, e2, fun a => by first | omega | exact absurd a (by decide), fun a => by first | omega | exact absurd a (by decide)⟩
      · by_cases c2 : 2 < R1 1333 (R1 317 (R1 62 (2 * w + C (15 + 256 * w) 9)))
        · rw [if_pos (Or.inr c2)]
          rw [if_pos c2] at io2
          simp (disch := omega) only [be_X7_stateOf_8, be_X7_stateOf_9, be_X7_stateOf_10, be_X7_stateOf_12, be_X7_stateOf_13, be_X7_bandAt_m, be_X7_bandAt_0, be_X7_bandAt_1, be_X7_bandAt_2, be_X7_bandAt_3, Option.bind_some, cond_true, cond_false, decide_true, decide_false, Bool.not_true, Bool.not_false, ite_true, ite_false, and_self, true_and, and_true, or_self, true_or, or_true, false_or, or_false, decide_eq_true_eq, Int.reduceAdd, Int.reduceSub, Int.reduceMul, Int.reduceNeg, Int.reduceEq, Int.reduceLT, Int.reduceLE, Int.reduceNe, lcmp_z, lcmp_le, lcmp_ge, lcmp_lt, lcmp_gt, gf_17, pf_17, cls_17, pb0_17, pb1_17, ra_50, sa_50, ra_51, sa_51, ra_52, sa_52, ra_53, sa_53, ra_54, sa_54, ra_310, sa_310, ra_309, sa_309, ra_565, sa_565, ra_63, sa_63, ra_62, sa_62, ra_821, sa_821, ra_68, sa_68, ra_1077, sa_1077, ra_64, sa_64, ra_320, sa_320, ra_576, sa_576, ra_61, sa_61, ra_317, sa_317, ra_573, sa_573, ra_829, sa_829, ra_1085, sa_1085, ra_1341, sa_1341, ra_1597, sa_1597, ra_1853, sa_1853, ra_2109, sa_2109, ra_2365, sa_2365, ra_65, sa_65, ra_2621, sa_2621, ra_2877, sa_2877, ra_3133, sa_3133, ra_69, sa_69, ra_70, sa_70, ra_1333, sa_1333, ra_1589, sa_1589, ra_566, sa_566, ra_822, sa_822, ra_1845, sa_1845, ra_2101, sa_2101, ra_2357, sa_2357, ra_2613, sa_2613, ra_66, sa_66, ra_67, sa_67, ra_2869, sa_2869, ra_3125, sa_3125, ra_308, sa_308, ra_71, sa_71, ra_1078, sa_1078, ra_1334, sa_1334, ra_3381, sa_3381, ra_1590, sa_1590, ra_2, ra_3, r1, r2, r3, r4, r5, r6, r7, r8, r9, r10, r12, r13, r14, r15, r16, r18, r19, r20, r21, r22, r23, r24, r25, r26, r27, r28, r30, r31, r32, r33, r34, r35, r36, r37, r38, r39, r40, r41, r44, r49, r50, r51, r52, r54, h45, hp, decide_eq_false c1, io2, am_w32_ok]
          exact ⟨R1, rfl, e8, e2, fun a => by first | omega | exact absurd a (by decide), fun a => by first | omega | exact absurd a (by decide)⟩
        · rw [if_neg (by omega)]
          rw [if_neg c2] at io2
          simp (disch := omega) only [be_X7_stateOf_8, be_X7_stateOf_9, be_X7_stateOf_10, be_X7_stateOf_11, be_X7_stateOf_13, be_X7_bandAt_m, be_X7_bandAt_0, be_X7_bandAt_1, be_X7_bandAt_2, be_X7_bandAt_3, Option.bind_some, cond_true, cond_false, decide_true, decide_false, Bool.not_true, Bool.not_false, ite_true, ite_false, and_self, true_and, and_true, or_self, true_or, or_true, false_or, or_false, decide_eq_true_eq, Int.reduceAdd, Int.reduceSub, Int.reduceMul, Int.reduceNeg, Int.reduceEq, Int.reduceLT, Int.reduceLE, Int.reduceNe, lcmp_z, lcmp_le, lcmp_ge, lcmp_lt, lcmp_gt, gf_17, pf_17, cls_17, pb0_17, pb1_17, ra_50, sa_50, ra_51, sa_51, ra_52, sa_52, ra_53, sa_53, ra_54, sa_54, ra_310, sa_310, ra_309, sa_309, ra_565, sa_565, ra_63, sa_63, ra_62, sa_62, ra_821, sa_821, ra_68, sa_68, ra_1077, sa_1077, ra_64, sa_64, ra_320, sa_320, ra_576, sa_576, ra_61, sa_61, ra_317, sa_317, ra_573, sa_573, ra_829, sa_829, ra_1085, sa_1085, ra_1341, sa_1341, ra_1597, sa_1597, ra_1853, sa_1853, ra_2109, sa_2109, ra_2365, sa_2365, ra_65, sa_65, ra_2621, sa_2621, ra_2877, sa_2877, ra_3133, sa_3133, ra_69, sa_69, ra_70, sa_70, ra_1333, sa_1333, ra_1589, sa_1589, ra_566, sa_566, ra_822, sa_822, ra_1845, sa_1845, ra_2101, sa_2101, ra_2357, sa_2357, ra_2613, sa_2613, ra_66, sa_66, ra_67, sa_67, ra_2869, sa_2869, ra_3125, sa_3125, ra_308, sa_308, ra_71, sa_71, ra_1078, sa_1078, ra_1334, sa_1334, ra_3381, sa_3381, ra_1590, sa_1590, ra_2, ra_3, r1, r2, r3, r4, r5, r6, r7, r8, r9, r10, r12, r13, r14, r15, r16, r18, r19, r20, r21, r22, r23, r24, r25, r26, r27, r28, r30, r31, r32, r33, r34, r35, r36, r37, r38, r39, r40, r41, r44, r49, r50, r51, r52, r54, h45, hp, decide_eq_false c1, io2, am_w32_ok]
          exact ⟨R1, rfl, e8, e2, fun a => ⟨h45, hp⟩, fun a => by first | omega | exact absurd a (by decide)⟩
    · have e : dgr C R1 w = 0 := by unfold dgr; rw [q]; rfl
      have h45 : R1 17 45 = 2 := by omega
      rw [e]
      simp (disch := omega) only [be_X7_stateOf_8, be_X7_stateOf_14, Option.bind_some, cond_true, cond_false, decide_true, decide_false, Bool.not_true, Bool.not_false, ite_true, ite_false, and_self, true_and, and_true, or_self, true_or, or_true, false_or, or_false, decide_eq_true_eq, Int.reduceAdd, Int.reduceSub, Int.reduceMul, Int.reduceNeg, Int.reduceEq, Int.reduceLT, Int.reduceLE, Int.reduceNe, lcmp_z, lcmp_le, lcmp_ge, lcmp_lt, lcmp_gt, gf_17, pf_17, cls_17, pb0_17, pb1_17, ra_50, sa_50, ra_51, sa_51, ra_52, sa_52, ra_53, sa_53, ra_54, sa_54, ra_310, sa_310, ra_309, sa_309, ra_565, sa_565, ra_63, sa_63, ra_62, sa_62, ra_821, sa_821, ra_68, sa_68, ra_1077, sa_1077, ra_64, sa_64, ra_320, sa_320, ra_576, sa_576, ra_61, sa_61, ra_317, sa_317, ra_573, sa_573, ra_829, sa_829, ra_1085, sa_1085, ra_1341, sa_1341, ra_1597, sa_1597, ra_1853, sa_1853, ra_2109, sa_2109, ra_2365, sa_2365, ra_65, sa_65, ra_2621, sa_2621, ra_2877, sa_2877, ra_3133, sa_3133, ra_69, sa_69, ra_70, sa_70, ra_1333, sa_1333, ra_1589, sa_1589, ra_566, sa_566, ra_822, sa_822, ra_1845, sa_1845, ra_2101, sa_2101, ra_2357, sa_2357, ra_2613, sa_2613, ra_66, sa_66, ra_67, sa_67, ra_2869, sa_2869, ra_3125, sa_3125, ra_308, sa_308, ra_71, sa_71, ra_1078, sa_1078, ra_1334, sa_1334, ra_3381, sa_3381, ra_1590, sa_1590, ra_2, ra_3, h45]
      exact ⟨R1, rfl, e8, e2, fun a => by first | omega | exact absurd a (by decide), fun a => by first | omega | exact absurd a (by decide)⟩
    · have e : dgr C R1 w = 0 := by unfold dgr; rw [q]; rfl
      have h45 : R1 17 45 = 3 := by omega
      rw [e]
      simp (disch := omega) only [be_X7_stateOf_8, be_X7_stateOf_14, Option.bind_some, cond_true, cond_false, decide_true, decide_false, Bool.not_true, Bool.not_false, ite_true, ite_false, and_self, true_and, and_true, or_self, true_or, or_true, false_or, or_false, decide_eq_true_eq, Int.reduceAdd, Int.reduceSub, Int.reduceMul, Int.reduceNeg, Int.reduceEq, Int.reduceLT, Int.reduceLE, Int.reduceNe, lcmp_z, lcmp_le, lcmp_ge, lcmp_lt, lcmp_gt, gf_17, pf_17, cls_17, pb0_17, pb1_17, ra_50, sa_50, ra_51, sa_51, ra_52, sa_52, ra_53, sa_53, ra_54, sa_54, ra_310, sa_310, ra_309, sa_309, ra_565, sa_565, ra_63, sa_63, ra_62, sa_62, ra_821, sa_821, ra_68, sa_68, ra_1077, sa_1077, ra_64, sa_64, ra_320, sa_320, ra_576, sa_576, ra_61, sa_61, ra_317, sa_317, ra_573, sa_573, ra_829, sa_829, ra_1085, sa_1085, ra_1341, sa_1341, ra_1597, sa_1597, ra_1853, sa_1853, ra_2109, sa_2109, ra_2365, sa_2365, ra_65, sa_65, ra_2621, sa_2621, ra_2877, sa_2877, ra_3133, sa_3133, ra_69, sa_69, ra_70, sa_70, ra_1333, sa_1333, ra_1589, sa_1589, ra_566, sa_566, ra_822, sa_822, ra_1845, sa_1845, ra_2101, sa_2101, ra_2357, sa_2357, ra_2613, sa_2613, ra_66, sa_66, ra_67, sa_67, ra_2869, sa_2869, ra_3125, sa_3125, ra_308, sa_308, ra_71, sa_71, ra_1078, sa_1078, ra_1334, sa_1334, ra_3381, sa_3381, ra_1590, sa_1590, ra_2, ra_3, h45]
      exact ⟨R1, rfl, e8, e2, fun a => by first | omega | exact absurd a (by decide), fun a => by first | omega | exact absurd a (by decide)⟩
theorem act_step {C R : am_M} {h V : Int → Int → Int} {t : Int → Int} {w : Int} (H : RR C R h V t) (w0 : 0 ≤ w) (w1 : w < R 17 0) (hac : R 17 42 < 42000) (hd : dgr C R w = 0) : actd C R w := by
  obtain ⟨n1, n2, n3⟩ := RR_next H w0 w1
  rcases n3 with ⟨q, q2⟩ | ⟨q, q2⟩ | ⟨q2, q | q | q | q⟩
  · have e : dgr C R w = 3 := by unfold dgr; rw [q]; rfl
    omega
  · have e : dgr C R w = 4 := by unfold dgr; rw [q]; rfl
    omega
  · unfold dgr at hd
    rw [if_pos q] at hd
    obtain ⟨p0, p1, p2⟩ := n1 q
    obtain ⟨b0, b1, b2, b3⟩ := RR_in H w0 w1 p0 p1 p2
    obtain ⟨b60, ⟨hbcl, hrb, _⟩, f0, f1, t0, t1⟩ := RR_b H b0 b1
    have ob := hrb.2.1
    by_cases c : 0 < R 1597 (R 63 (3 * w + C (15 + 256 * w) 9))
    · exact act_got H w0 w1 hac q c
    · by_cases c2 : 2 < R 1333 (R 61 (R 63 (3 * w + C (15 + 256 * w) 9)))
      · exact act_eof H w0 w1 hac q (by omega) c2
      · rw [if_neg (by omega)] at hd; omega
  · unfold dgr at hd
    rw [if_neg (by omega), if_pos q] at hd
    by_cases c : R 1597 (R 62 (2 * w + C (15 + 256 * w) 9)) < R 1341 (R 62 (2 * w + C (15 + 256 * w) 9)) ∨ 2 < R 1333 (R 317 (R 62 (2 * w + C (15 + 256 * w) 9)))
    · exact act_gave H w0 w1 hac q c
    · rw [if_neg c] at hd; omega
  · exact act_end H w0 w1 hac (Or.inl q)
  · exact act_end H w0 w1 hac (Or.inr q)
