/-! an act: an end is read -/
/-- w goes on without a band's change -/
theorem RR_on {C R : am_M} {h V : Int → Int → Int} {t : Int → Int} {w : Int} (H : RR C R h V t) (w0 : 0 ≤ w) (w1 : w < R 17 0) (hac : R 17 42 < 42000) (hst : R 1333 w = 0) {C' R' : am_M} (fC : fr2 (twa w) C C') (fR : fr2 (rtw w) (am_up R 17 42 (R 17 42 + 1)) R') (g1 : R' 1845 w = R 1845 w) (g2 : R' 2101 w = R 2101 w) (g3 : R' 1333 w = R 1333 w) (g4 : ws C' R' w) (n9 : R 309 w = 9 → R' 309 w = 9) :
    RR (am_up C' 16 8 (C 16 8 + 1)) R' h V t := by
  obtain ⟨hR, w2, hsw, hpr, ⟨x1, x2, x3, x4, x5, x6, x7, x8⟩, h50, h8, z1, z2, z3, z4, z5, z6⟩ := RR_w H w0 w1
  have eC : ∀ L i, ¬ twa w L i → C' L i = C L i := fC
  have eR : ∀ L i, ¬ ((L = 17 ∧ i = 42) ∨ rtw w L i) → R' L i = R L i := fun L i q => by
    rw [fR L i (fun a => q (Or.inr a))]
    simp (disch := omega) only [am_up_or]
  have m42 : R' 17 42 = R 17 42 + 1 := by rw [fR _ _ (by unfold rtw; omega)]; exact am_up_eq _ _ _ _
  have m29 : R' 17 29 = R 17 29 := eR _ _ (by unfold rtw; omega)
  have row' : ∀ n f, row C (20 + 256 * w) n f → row (am_up C' 16 8 (C 16 8 + 1)) (20 + 256 * w) n f := fun n f q => row_other w0 w2 (fun L i p => by unfold rt at p; simp (disch := omega) only [am_up_eq, am_up_nl, am_up_ni]; exact eC _ _ (by unfold twa; omega)) (fun L p => by unfold rt at p; simp (disch := omega) only [am_up_eq, am_up_nl, am_up_ni]; exact eC _ _ (by unfold twa; omega)) q
  have hsw' : sw C' R' w := sw_congr w0 w2 (fun L i q => eC _ _ (by unfold wst at q; unfold twa; omega)) (fun L i q => eR _ _ (by unfold rcs at q; unfold rtw; omega)) (fun _ n f q => row_other w0 w2 (fun L i p => eC _ _ (by unfold rt at p; unfold twa; omega)) (fun L p => eC _ _ (by unfold rt at p; unfold twa; omega)) q) (fun _ => by
    obtain ⟨_, _, _, _, _, _, _, _, _, _, _, n, f, q⟩ := hsw
    exact ⟨n, f, row_other w0 w2 (fun L i p => eC _ _ (by unfold rt at p; unfold twa; omega)) (fun L p => eC _ _ (by unfold rt at p; unfold twa; omega)) q⟩) hsw
  refine RR_step (w := w) (b := -1) H w0 w1 (by omega) (by omega) ?_ ?_ (fun b' k _ _ _ _ _ => eR _ _ (by unfold rtw; omega)) (fun b' k _ _ _ _ _ => eR _ _ (by unfold rtw; omega)) (by omega) (by omega) (by omega) (by omega) (by simp (disch := omega) only [am_up_eq, am_up_nl, am_up_ni]; omega) (fun _ _ => rfl) (fun _ _ => rfl) (fun _ _ _ => rfl) (fun _ _ _ => rfl) (fun q => by omega) (fun _ n f q => row' n f q) (fun _ => ?_) ?_ (fun q => by omega) ?_
  · exact fr2_up (by unfold cta; omega) (fr2_mono (fun L i q => Or.inl (Or.inl (twa_twr q))) fC)
  · exact fun L i q => eR L i (by unfold rta rtw at q; unfold rtw; omega)
  · obtain ⟨_, _, _, _, _, _, _, _, _, _, _, n, f, q⟩ := hsw
    exact ⟨n, f, row' n f q⟩
  · unfold wr
    simp (disch := omega) only [am_up_eq, am_up_nl, am_up_ni]
    rw [eC (15 + 256 * w) 12 (by unfold twa; omega), eC (15 + 256 * w) 13 (by unfold twa; omega), g1, g2, eR 63 _ (by unfold rtw; omega), eR 309 w (by unfold rtw; omega)]
    refine ⟨x1, x2, x3, by omega, x5, by omega, Or.inr (Or.inr ⟨by omega, ?_, ?_⟩), fun k9 => ⟨row' _ _ (x8 k9).1, (x8 k9).2⟩⟩
    · simp (disch := omega) only [am_up_eq, am_up_nl, am_up_ni]
      rw [eC (15 + 256 * w) 14 (by unfold twa; omega)]
      rcases x7 with q | q | q
      · omega
      · omega
      · exact q.2.1
    · exact ws_congr hsw' (fun L i q => by unfold twa at q; simp (disch := omega) only [am_up_eq, am_up_nl, am_up_ni]) (fun _ _ _ => rfl) rfl g4
  · obtain ⟨_, _, _, _, _, _, _, _, _, _, _, _, _, _, _, _, _, _, r14⟩ := H
    exact hinj_of r14 (eR _ _ (by unfold rtw; omega)) (fun b => eR _ _ (by unfold rtw; omega))
set_option maxHeartbeats 8000000 in
theorem act_eof {C R : am_M} {h V : Int → Int → Int} {t : Int → Int} {w : Int} (H : RR C R h V t) (w0 : 0 ≤ w) (w1 : w < R 17 0) (hac : R 17 42 < 42000) (hn : C (15 + 256 * w) 8 = 0) (ho : R 1597 (R 63 (3 * w + C (15 + 256 * w) 9)) = 0) (hov : 2 < R 1333 (R 61 (R 63 (3 * w + C (15 + 256 * w) 9)))) : actd C R w := by
  obtain ⟨hs0, R1, e1, e2, e3, e4, e5, e6, e7, e8⟩ := act_look H w0 w1 hac (by omega) (by omega)
  obtain ⟨y1, y2, y3, y4, y5⟩ := rtl_hall e2
  obtain ⟨hR, w2, hsw, hpr, ⟨x1, x2, x3, x4, x5, x6, x7, x8⟩, h50, h8, z1, z2, z3, z4, z5, z6⟩ := RR_w e8 w0 (by omega)
  obtain ⟨pr1, pr2, pr3⟩ := ws_port hsw (wl_ws e7)
  obtain ⟨p0, p1, p2, p9⟩ := pr2 hn
  obtain ⟨b0, b1, b2, b3⟩ := RR_in e8 w0 (by omega) p0 p1 p2
  have hr46 := e4 hn
  clear pr1 pr2 pr3 e4 e5 e6
  have hb63 : R 63 (3 * w + C (15 + 256 * w) 9) = R1 63 (3 * w + C (15 + 256 * w) 9) := (e2 _ _ (by unfold rtl; omega)).symm
  rw [hb63] at ho hov
  rw [← e2 1597 _ (by unfold rtl; omega)] at ho
  rw [← e2 61 _ (by unfold rtl; omega), ← e2 1333 _ (by unfold rtl; omega)] at hov
  revert ho hov b0 b1 b2 b3
  generalize hb : R1 63 (3 * w + C (15 + 256 * w) 9) = b
  intro hov ho b0 b1 b2 b3
  obtain ⟨b60, ⟨hbcl, hrb, q1, q2, q3, q4⟩, f0, f1, t0, t1⟩ := RR_b e8 b0 b1
  have hst0 : R1 1333 w = 0 := (e2 _ _ (by unfold rtl; omega)).trans hs0
  have h14 : C (15 + 256 * w) 14 = w := by
    rcases x7 with q | q | q
    · omega
    · omega
    · exact q.2.1
  have hfw := RR_w e8 f0 f1
  have hfst := hfw.2.2.2.2.1.2.2.2.2.2.2.1
  obtain ⟨ov1, ov2⟩ := st_over hfw.2.2.1 hfst
  have hR2 : rs (am_up R1 17 42 (R1 17 42 + 1)) := rs_fr (T := fun L i => L = 17 ∧ i = 42) hR (fr2_up ⟨rfl, rfl⟩ (fr2_refl _ _)) (fun i => by omega)
  have u2 : ∀ L i, ¬ (L = 17 ∧ i = 42) → am_up R1 17 42 (R1 17 42 + 1) L i = R1 L i := fun L i q => by simp (disch := omega) only [am_up_or]
  obtain ⟨hc, hck, hca, _, _, _, _, _, _, _, a13, har⟩ := id hsw
  have hsw2 : sw C (am_up R1 17 42 (R1 17 42 + 1)) w := sw_congr w0 w2 (fun _ _ _ => rfl) (fun L i q => u2 _ _ (by unfold rcs at q; omega)) (fun _ _ _ q => q) (fun _ => har) hsw
  have hwl2 : wl C (am_up R1 17 42 (R1 17 42 + 1)) w := wl_congr (fun _ _ _ => rfl) (fun L i q => u2 _ _ (by unfold rcw at q; omega)) (u2 _ _ (by omega)) (sw_sr hsw) e7
  have hfm : C (10 + 256 * b) 2 = 15 + 256 * R1 61 b := hbcl.2.2.1
  have hld : C (10 + 256 * b) 9 = R1 1597 b := (bcl_len hbcl).2.1
  have hcr := cl_canBeRead (C := C) b0 f0 hfm
  rw [if_pos (Or.inr (by rw [ov1]; exact hov))] at hcr
  have nb : (10 + 256 * b = 0) = False := eq_false (by omega)
  have hdact := (da_ev hR e1 z1 (by omega)).1 (by omega)
  have rfs : ∀ R', fr2 (rtw w) (am_up R1 17 42 (R1 17 42 + 1)) R' → R' 17 42 = R1 17 42 + 1 ∧ R' 17 43 = R1 17 43 ∧ R' 17 0 = R1 17 0 ∧ R' 17 11 = R1 17 11 ∧ rfr R1 R' := fun R' q =>
    ⟨(q _ _ (by unfold rtw; omega)).trans (am_up_eq _ _ _ _), (q _ _ (by unfold rtw; omega)).trans (u2 _ _ (by omega)), (q _ _ (by unfold rtw; omega)).trans (u2 _ _ (by omega)), (q _ _ (by unfold rtw; omega)).trans (u2 _ _ (by omega)), fun L i p => (q _ _ (by unfold FR at p; unfold rtw; omega)).trans (u2 _ _ (by unfold FR at p; omega))⟩
  have cfs : ∀ C', fr2 (twa w) C C' → C' 16 8 = C 16 8 ∧ cfr C C' := fun C' q => ⟨q _ _ (by unfold twa; omega), fun L i p => q _ _ (by unfold FR at p; unfold twa; omega)⟩
  -- the beginning of both
  have cbeg : am_evm am_PP nX5_act [(2, 15 + 256 * w)] C = (am_ev am_PP nX5_readOff 5 [15 + 256 * w, 10 + 256 * b] [] C).bind fun q4 => am_ev am_PP nX5_act 5 [15 + 256 * w] [] q4.2 := by
    obtain ⟨c0, c1, c2, c3, c4, c5, d0, d1, d2, s0, s1, s2, s3⟩ := hc
    simp (disch := omega) only [be_X5_act_m, be_X5_act_0, be_X5_act_1, Option.bind_some, cond_true, cond_false, decide_true, decide_false, Bool.not_true, Bool.not_false, ite_true, ite_false, and_self, true_and, and_true, or_self, true_or, or_true, false_or, or_false, decide_eq_true_eq, Int.reduceAdd, Int.reduceSub, Int.reduceMul, Int.reduceNeg, Int.reduceEq, Int.reduceLT, Int.reduceLE, Int.reduceNe, lcmp_z, lcmp_le, lcmp_ge, lcmp_lt, lcmp_gt, am_up_eq, am_up_nl, am_up_ni, gf_15, pf_15, cls_15, pos_15, gf_10, pf_10, cls_10, pos_10, gf_14, pf_14, cls_14, pos_14, c0, c1, c2, c3, c4, c5, d0, d1, d2, s0, s1, s2, s3, ra_55, hn, b3]
    simp (disch := omega) only [be_X5_readOff_m, be_X5_readOff_0, be_X5_readOff_1, be_X5_readOff_3, Option.bind_some, cond_true, cond_false, decide_true, decide_false, Bool.not_true, Bool.not_false, ite_true, ite_false, and_self, true_and, and_true, or_self, true_or, or_true, false_or, or_false, decide_eq_true_eq, Int.reduceAdd, Int.reduceSub, Int.reduceMul, Int.reduceNeg, Int.reduceEq, Int.reduceLT, Int.reduceLE, Int.reduceNe, lcmp_z, lcmp_le, lcmp_ge, lcmp_lt, lcmp_gt, gf_15, pf_15, cls_15, pos_15, gf_10, pf_10, cls_10, pos_10, gf_14, pf_14, cls_14, pos_14, nb, hcr, hld, ho]
  have rbeg : am_evm am_PP nX7_doRead [(2, 17), (0, w)] (am_up R1 17 42 (R1 17 42 + 1)) = am_ev am_PP nX7_doRead 2 [17, w, b] [] (am_up R1 17 42 (R1 17 42 + 1)) := by
    obtain ⟨r1, r2, r3, r4, r5, r6, r7, r8, r9, r10, r12, r13, r14, r15, r16, r18, r19, r20, r21, r22, r23, r24, r25, r26, r27, r28, r30, r31, r32, r33, r34, r35, r36, r37, r38, r39, r40, r41, r44, r49, r50, r51, r52, r54⟩ := hR
    simp (disch := omega) only [be_X7_doRead_m, be_X7_doRead_0, be_X7_bandAt_m, be_X7_bandAt_0, be_X7_bandAt_1, be_X7_bandAt_2, be_X7_bandAt_3, Option.bind_some, cond_true, cond_false, decide_true, decide_false, Bool.not_true, Bool.not_false, ite_true, ite_false, and_self, true_and, and_true, or_self, true_or, or_true, false_or, or_false, decide_eq_true_eq, Int.reduceAdd, Int.reduceSub, Int.reduceMul, Int.reduceNeg, Int.reduceEq, Int.reduceLT, Int.reduceLE, Int.reduceNe, lcmp_z, lcmp_le, lcmp_ge, lcmp_lt, lcmp_gt, am_up_eq, am_up_nl, am_up_ni, gf_17, pf_17, cls_17, pb0_17, pb1_17, ra_50, sa_50, ra_51, sa_51, ra_52, sa_52, ra_53, sa_53, ra_54, sa_54, ra_310, sa_310, ra_309, sa_309, ra_565, sa_565, ra_63, sa_63, ra_62, sa_62, ra_821, sa_821, ra_68, sa_68, ra_1077, sa_1077, ra_64, sa_64, ra_320, sa_320, ra_576, sa_576, ra_61, sa_61, ra_317, sa_317, ra_573, sa_573, ra_829, sa_829, ra_1085, sa_1085, ra_1341, sa_1341, ra_1597, sa_1597, ra_1853, sa_1853, ra_2109, sa_2109, ra_2365, sa_2365, ra_65, sa_65, ra_2621, sa_2621, ra_2877, sa_2877, ra_3133, sa_3133, ra_69, sa_69, ra_70, sa_70, ra_1333, sa_1333, ra_1589, sa_1589, ra_566, sa_566, ra_822, sa_822, ra_1845, sa_1845, ra_2101, sa_2101, ra_2357, sa_2357, ra_2613, sa_2613, ra_66, sa_66, ra_67, sa_67, ra_2869, sa_2869, ra_3125, sa_3125, ra_308, sa_308, ra_71, sa_71, ra_1078, sa_1078, ra_1334, sa_1334, ra_3381, sa_3381, ra_1590, sa_1590, ra_2, ra_3, r1, r2, r3, r4, r5, r6, r7, r8, r9, r10, r12, r13, r14, r15, r16, r18, r19, r20, r21, r22, r23, r24, r25, r26, r27, r28, r30, r31, r32, r33, r34, r35, r36, r37, r38, r39, r40, r41, r44, r49, r50, r51, r52, r54, show R1 17 45 = 0 by omega, hr46, hb, ho, am_w32_ok]
  -- both where a SCRIPT tries
  by_cases ht : R1 309 w = 13 ∧ R1 64 (12 * w + R1 1589 w) = 6
  · obtain ⟨k13, ht⟩ := ht
    have hwl13 : wl13 C (am_up R1 17 42 (R1 17 42 + 1)) w := by
      rcases hwl2 with q | q
      · exfalso
        unfold wsn at q
        rw [u2 309 w (by omega)] at q
        omega
      · exact q.2
    have hst2 : st13 C (am_up R1 17 42 (R1 17 42 + 1)) w := by
      obtain ⟨_, _, _, _, _, _, _, _, _, _, a, _⟩ := hsw2
      exact a (by rw [u2 _ _ (by omega)]; exact k13)
    obtain ⟨C', R', g1, g2, g3, g4, g5, g6, g7, g8⟩ := gtry_13 (v := 0) hR2 w0 w2 hc (hck.trans k13) (by rw [u2 _ _ (by omega)]; exact k13) hst2 hwl13 hn (by rw [u2 1589 _ (by omega), u2 64 _ (by omega)]; exact ht)
    obtain ⟨t1', t2', t3', t4'⟩ := at_try w0 hc hst2 hwl13 hn
    rw [u2 1589 _ (by omega), u2 64 _ (by omega), if_pos ht] at t4'
    obtain ⟨⟨x, Cm⟩, ga, gb⟩ := Option.bind_eq_some_iff.mp g1
    dsimp only at gb
    obtain ⟨m1, m2, m3, m4, m5⟩ := rfs R' g4
    refine ⟨C', R', h, V, t, ?_, ?_, (cfs C' g3).1, RR_on e8 w0 (by omega) (by omega) hst0 g3 g4 (by rw [g5, u2 _ _ (by omega)]) (by rw [g6, u2 _ _ (by omega)]) (by rw [g7, u2 _ _ (by omega)]) (Or.inr ⟨by rw [g4 _ _ (by unfold rtw; omega), u2 _ _ (by omega)]; exact k13, g8⟩) (fun q => by omega), by omega, by omega, by omega, by omega, (cfs C' g3).2, rfr_trans (rtl_rfr e2) m5⟩
    · rw [cbeg]
      obtain ⟨c0, c1, c2, c3, c4, c5, d0, d1, d2, s0, s1, s2, s3⟩ := hc
      simp (disch := omega) only [be_X5_readOff_5, be_X5_readOff_6, Option.bind_some, cond_true, cond_false, decide_true, decide_false, Bool.not_true, Bool.not_false, ite_true, ite_false, and_self, true_and, and_true, or_self, true_or, or_true, false_or, or_false, decide_eq_true_eq, Int.reduceAdd, Int.reduceSub, Int.reduceMul, Int.reduceNeg, Int.reduceEq, Int.reduceLT, Int.reduceLE, Int.reduceNe, lcmp_z, lcmp_le, lcmp_ge, lcmp_lt, lcmp_gt, gf_15, pf_15, cls_15, pos_15, gf_10, pf_10, cls_10, pos_10, gf_14, pf_14, cls_14, pos_14, c0, c1, c2, c3, c4, c5, d0, d1, d2, s0, s1, s2, s3, hck, k13, t4', ga]
      simp (disch := omega) only [be_X5_act_5, Option.bind_some, cond_true, cond_false, decide_true, decide_false, Bool.not_true, Bool.not_false, ite_true, ite_false, and_self, true_and, and_true, or_self, true_or, or_true, false_or, or_false, decide_eq_true_eq, Int.reduceAdd, Int.reduceSub, Int.reduceMul, Int.reduceNeg, Int.reduceEq, Int.reduceLT, Int.reduceLE, Int.reduceNe, lcmp_z, lcmp_le, lcmp_ge, lcmp_lt, lcmp_gt, gf_15, pf_15, cls_15, pos_15, gf_10, pf_10, cls_10, pos_10, gf_14, pf_14, cls_14, pos_14, gb]
    · rw [hdact, rbeg]
      have n12 := (st13_sr hst2).2.1
      rw [u2 _ _ (by omega)] at n12 t1' t2'
      obtain ⟨r1, r2, r3, r4, r5, r6, r7, r8, r9, r10, r12, r13, r14, r15, r16, r18, r19, r20, r21, r22, r23, r24, r25, r26, r27, r28, r30, r31, r32, r33, r34, r35, r36, r37, r38, r39, r40, r41, r44, r49, r50, r51, r52, r54⟩ := hR
      have bw : (R1 1333 (R1 61 b) = 4) ∨ ¬ (R1 1333 (R1 61 b) = 4) := by omega
      rcases bw with bw | bw
      · simp (disch := omega) only [be_X7_doRead_2, be_X7_doRead_3, be_X7_doRead_4, be_X7_doRead_6, be_X7_doRead_7, be_X7_doRead_9, be_X7_doRead_10, Option.bind_some, cond_true, cond_false, decide_true, decide_false, Bool.not_true, Bool.not_false, ite_true, ite_false, and_self, true_and, and_true, or_self, true_or, or_true, false_or, or_false, decide_eq_true_eq, Int.reduceAdd, Int.reduceSub, Int.reduceMul, Int.reduceNeg, Int.reduceEq, Int.reduceLT, Int.reduceLE, Int.reduceNe, lcmp_z, lcmp_le, lcmp_ge, lcmp_lt, lcmp_gt, am_up_eq, am_up_nl, am_up_ni, gf_17, pf_17, cls_17, pb0_17, pb1_17, ra_50, sa_50, ra_51, sa_51, ra_52, sa_52, ra_53, sa_53, ra_54, sa_54, ra_310, sa_310, ra_309, sa_309, ra_565, sa_565, ra_63, sa_63, ra_62, sa_62, ra_821, sa_821, ra_68, sa_68, ra_1077, sa_1077, ra_64, sa_64, ra_320, sa_320, ra_576, sa_576, ra_61, sa_61, ra_317, sa_317, ra_573, sa_573, ra_829, sa_829, ra_1085, sa_1085, ra_1341, sa_1341, ra_1597, sa_1597, ra_1853, sa_1853, ra_2109, sa_2109, ra_2365, sa_2365, ra_65, sa_65, ra_2621, sa_2621, ra_2877, sa_2877, ra_3133, sa_3133, ra_69, sa_69, ra_70, sa_70, ra_1333, sa_1333, ra_1589, sa_1589, ra_566, sa_566, ra_822, sa_822, ra_1845, sa_1845, ra_2101, sa_2101, ra_2357, sa_2357, ra_2613, sa_2613, ra_66, sa_66, ra_67, sa_67, ra_2869, sa_2869, ra_3125, sa_3125, ra_308, sa_308, ra_71, sa_71, ra_1078, sa_1078, ra_1334, sa_1334, ra_3381, sa_3381, ra_1590, sa_1590, ra_2, ra_3, r1, r2, r3, r4, r5, r6, r7, r8, r9, r10, r12, r13, r14, r15, r16, r18, r19, r20, r21, r22, r23, r24, r25, r26, r27, r28, r30, r31, r32, r33, r34, r35, r36, r37, r38, r39, r40, r41, r44, r49, r50, r51, r52, r54, k13, ht, am_w32_ok, bw, g2]
      · simp (disch := omega) only [be_X7_doRead_2, be_X7_doRead_3, be_X7_doRead_4, be_X7_doRead_6, be_X7_doRead_7, be_X7_doRead_9, be_X7_doRead_10, Option.bind_some, cond_true, cond_false, decide_true, decide_false, Bool.not_true, Bool.not_false, ite_true, ite_false, and_self, true_and, and_true, or_self, true_or, or_true, false_or, or_false, decide_eq_true_eq, Int.reduceAdd, Int.reduceSub, Int.reduceMul, Int.reduceNeg, Int.reduceEq, Int.reduceLT, Int.reduceLE, Int.reduceNe, lcmp_z, lcmp_le, lcmp_ge, lcmp_lt, lcmp_gt, am_up_eq, am_up_nl, am_up_ni, gf_17, pf_17, cls_17, pb0_17, pb1_17, ra_50, sa_50, ra_51, sa_51, ra_52, sa_52, ra_53, sa_53, ra_54, sa_54, ra_310, sa_310, ra_309, sa_309, ra_565, sa_565, ra_63, sa_63, ra_62, sa_62, ra_821, sa_821, ra_68, sa_68, ra_1077, sa_1077, ra_64, sa_64, ra_320, sa_320, ra_576, sa_576, ra_61, sa_61, ra_317, sa_317, ra_573, sa_573, ra_829, sa_829, ra_1085, sa_1085, ra_1341, sa_1341, ra_1597, sa_1597, ra_1853, sa_1853, ra_2109, sa_2109, ra_2365, sa_2365, ra_65, sa_65, ra_2621, sa_2621, ra_2877, sa_2877, ra_3133, sa_3133, ra_69, sa_69, ra_70, sa_70, ra_1333, sa_1333, ra_1589, sa_1589, ra_566, sa_566, ra_822, sa_822, ra_1845, sa_1845, ra_2101, sa_2101, ra_2357, sa_2357, ra_2613, sa_2613, ra_66, sa_66, ra_67, sa_67, ra_2869, sa_2869, ra_3125, sa_3125, ra_308, sa_308, ra_71, sa_71, ra_1078, sa_1078, ra_1334, sa_1334, ra_3381, sa_3381, ra_1590, sa_1590, ra_2, ra_3, r1, r2, r3, r4, r5, r6, r7, r8, r9, r10, r12, r13, r14, r15, r16, r18, r19, r20, r21, r22, r23, r24, r25, r26, r27, r28, r30, r31, r32, r33, r34, r35, r36, r37, r38, r39, r40, r41, r44, r49, r50, r51, r52, r54, k13, ht, am_w32_ok, eq_false bw, g2]
  -- no TRY: the class comes to block 8, the reference to block 6 with 0
  have cmid : am_ev am_PP nX5_readOff 5 [15 + 256 * w, 10 + 256 * b] [] C = am_ev am_PP nX5_readOff 8 [15 + 256 * w, 10 + 256 * b] [] C := by
    obtain ⟨c0, c1, c2, c3, c4, c5, d0, d1, d2, s0, s1, s2, s3⟩ := id hc
    by_cases k13 : R1 309 w = 13
    · have hwl13 : wl13 C R1 w := by
        rcases e7 with q | q
        · exfalso
          unfold wsn at q
          omega
        · exact q.2
      obtain ⟨t1', t2', t3', t4'⟩ := at_try w0 hc (a13 k13) hwl13 hn
      rw [if_neg (fun q => ht ⟨k13, q⟩)] at t4'
      simp (disch := omega) only [be_X5_readOff_5, be_X5_readOff_6, Option.bind_some, cond_true, cond_false, decide_true, decide_false, Bool.not_true, Bool.not_false, ite_true, ite_false, and_self, true_and, and_true, or_self, true_or, or_true, false_or, or_false, decide_eq_true_eq, Int.reduceAdd, Int.reduceSub, Int.reduceMul, Int.reduceNeg, Int.reduceEq, Int.reduceLT, Int.reduceLE, Int.reduceNe, lcmp_z, lcmp_le, lcmp_ge, lcmp_lt, lcmp_gt, gf_15, pf_15, cls_15, pos_15, gf_10, pf_10, cls_10, pos_10, gf_14, pf_14, cls_14, pos_14, c0, c1, c2, c3, c4, c5, d0, d1, d2, s0, s1, s2, s3, hck, k13, t4']
    · simp (disch := omega) only [be_X5_readOff_5, Option.bind_some, cond_true, cond_false, decide_true, decide_false, Bool.not_true, Bool.not_false, ite_true, ite_false, and_self, true_and, and_true, or_self, true_or, or_true, false_or, or_false, decide_eq_true_eq, Int.reduceAdd, Int.reduceSub, Int.reduceMul, Int.reduceNeg, Int.reduceEq, Int.reduceLT, Int.reduceLE, Int.reduceNe, lcmp_z, lcmp_le, lcmp_ge, lcmp_lt, lcmp_gt, gf_15, pf_15, cls_15, pos_15, gf_10, pf_10, cls_10, pos_10, gf_14, pf_14, cls_14, pos_14, hck, eq_false k13]
  have rmid : am_ev am_PP nX7_doRead 2 [17, w, b] [] (am_up R1 17 42 (R1 17 42 + 1)) = am_ev am_PP nX7_doRead 6 [17, w, R1 61 b] [(0, 0)] (am_up R1 17 42 (R1 17 42 + 1)) := by
    by_cases k13 : R1 309 w = 13
    · have hwl13 : wl13 C R1 w := by
        rcases e7 with q | q
        · exfalso
          unfold wsn at q
          omega
        · exact q.2
      obtain ⟨t1', t2', t3', t4'⟩ := at_try w0 hc (a13 k13) hwl13 hn
      have ht6 : (R1 64 (12 * w + R1 1589 w) = 6) = False := eq_false (fun q => ht ⟨k13, q⟩)
      obtain ⟨r1, r2, r3, r4, r5, r6, r7, r8, r9, r10, r12, r13, r14, r15, r16, r18, r19, r20, r21, r22, r23, r24, r25, r26, r27, r28, r30, r31, r32, r33, r34, r35, r36, r37, r38, r39, r40, r41, r44, r49, r50, r51, r52, r54⟩ := hR
      simp (disch := omega) only [be_X7_doRead_2, be_X7_doRead_3, be_X7_doRead_5, Option.bind_some, cond_true, cond_false, decide_true, decide_false, Bool.not_true, Bool.not_false, ite_true, ite_false, and_self, true_and, and_true, or_self, true_or, or_true, false_or, or_false, decide_eq_true_eq, Int.reduceAdd, Int.reduceSub, Int.reduceMul, Int.reduceNeg, Int.reduceEq, Int.reduceLT, Int.reduceLE, Int.reduceNe, lcmp_z, lcmp_le, lcmp_ge, lcmp_lt, lcmp_gt, am_up_eq, am_up_nl, am_up_ni, gf_17, pf_17, cls_17, pb0_17, pb1_17, ra_50, sa_50, ra_51, sa_51, ra_52, sa_52, ra_53, sa_53, ra_54, sa_54, ra_310, sa_310, ra_309, sa_309, ra_565, sa_565, ra_63, sa_63, ra_62, sa_62, ra_821, sa_821, ra_68, sa_68, ra_1077, sa_1077, ra_64, sa_64, ra_320, sa_320, ra_576, sa_576, ra_61, sa_61, ra_317, sa_317, ra_573, sa_573, ra_829, sa_829, ra_1085, sa_1085, ra_1341, sa_1341, ra_1597, sa_1597, ra_1853, sa_1853, ra_2109, sa_2109, ra_2365, sa_2365, ra_65, sa_65, ra_2621, sa_2621, ra_2877, sa_2877, ra_3133, sa_3133, ra_69, sa_69, ra_70, sa_70, ra_1333, sa_1333, ra_1589, sa_1589, ra_566, sa_566, ra_822, sa_822, ra_1845, sa_1845, ra_2101, sa_2101, ra_2357, sa_2357, ra_2613, sa_2613, ra_66, sa_66, ra_67, sa_67, ra_2869, sa_2869, ra_3125, sa_3125, ra_308, sa_308, ra_71, sa_71, ra_1078, sa_1078, ra_1334, sa_1334, ra_3381, sa_3381, ra_1590, sa_1590, ra_2, ra_3, r1, r2, r3, r4, r5, r6, r7, r8, r9, r10, r12, r13, r14, r15, r16, r18, r19, r20, r21, r22, r23, r24, r25, r26, r27, r28, r30, r31, r32, r33, r34, r35, r36, r37, r38, r39, r40, r41, r44, r49, r50, r51, r52, r54, k13, ht6, am_w32_ok]
    · obtain ⟨r1, r2, r3, r4, r5, r6, r7, r8, r9, r10, r12, r13, r14, r15, r16, r18, r19, r20, r21, r22, r23, r24, r25, r26, r27, r28, r30, r31, r32, r33, r34, r35, r36, r37, r38, r39, r40, r41, r44, r49, r50, r51, r52, r54⟩ := hR
      simp (disch := omega) only [be_X7_doRead_2, be_X7_doRead_5, Option.bind_some, cond_true, cond_false, decide_true, decide_false, Bool.not_true, Bool.not_false, ite_true, ite_false, and_self, true_and, and_true, or_self, true_or, or_true, false_or, or_false, decide_eq_true_eq, Int.reduceAdd, Int.reduceSub, Int.reduceMul, Int.reduceNeg, Int.reduceEq, Int.reduceLT, Int.reduceLE, Int.reduceNe, lcmp_z, lcmp_le, lcmp_ge, lcmp_lt, lcmp_gt, am_up_eq, am_up_nl, am_up_ni, gf_17, pf_17, cls_17, pb0_17, pb1_17, ra_50, sa_50, ra_51, sa_51, ra_52, sa_52, ra_53, sa_53, ra_54, sa_54, ra_310, sa_310, ra_309, sa_309, ra_565, sa_565, ra_63, sa_63, ra_62, sa_62, ra_821, sa_821, ra_68, sa_68, ra_1077, sa_1077, ra_64, sa_64, ra_320, sa_320, ra_576, sa_576, ra_61, sa_61, ra_317, sa_317, ra_573, sa_573, ra_829, sa_829, ra_1085, sa_1085, ra_1341, sa_1341, ra_1597, sa_1597, ra_1853, sa_1853, ra_2109, sa_2109, ra_2365, sa_2365, ra_65, sa_65, ra_2621, sa_2621, ra_2877, sa_2877, ra_3133, sa_3133, ra_69, sa_69, ra_70, sa_70, ra_1333, sa_1333, ra_1589, sa_1589, ra_566, sa_566, ra_822, sa_822, ra_1845, sa_1845, ra_2101, sa_2101, ra_2357, sa_2357, ra_2613, sa_2613, ra_66, sa_66, ra_67, sa_67, ra_2869, sa_2869, ra_3125, sa_3125, ra_308, sa_308, ra_71, sa_71, ra_1078, sa_1078, ra_1334, sa_1334, ra_3381, sa_3381, ra_1590, sa_1590, ra_2, ra_3, r1, r2, r3, r4, r5, r6, r7, r8, r9, r10, r12, r13, r14, r15, r16, r18, r19, r20, r21, r22, r23, r24, r25, r26, r27, r28, r30, r31, r32, r33, r34, r35, r36, r37, r38, r39, r40, r41, r44, r49, r50, r51, r52, r54, eq_false k13, am_w32_ok]
  by_cases bw : R1 1333 (R1 61 b) = 4
  · -- the writer has failed
    have hfail : C (15 + 256 * R1 61 b) 8 = 5 := by rw [ov2]; exact bw
    have hne : R1 61 b ≠ w := by
      intro q; rw [q] at bw; omega
    have ho14 : C (15 + 256 * R1 61 b) 14 = R1 2357 (R1 61 b) ∧ C (15 + 256 * R1 61 b) 15 = R1 2613 (R1 61 b) := by
      rcases hfst with q | q | q
      · omega
      · exact ⟨q.2.2.1, q.2.2.2⟩
      · omega
    refine ⟨am_up (am_up (am_up C (15 + 256 * w) 14 (R1 2357 (R1 61 b))) (15 + 256 * w) 15 (R1 2613 (R1 61 b))) (15 + 256 * w) 8 5, _, h, V, t, ?_, ?_, by simp (disch := omega) only [am_up_eq, am_up_nl, am_up_ni], RR_over e8 w0 (by omega) (by omega) (o := R1 2357 (R1 61 b)) (y := R1 2613 (R1 61 b)) (Or.inr rfl) ?_ (by simp (disch := omega) only [am_up_eq, am_up_nl, am_up_ni]; rfl) (fun _ => ⟨by simp (disch := omega) only [am_up_eq, am_up_nl, am_up_ni], by simp (disch := omega) only [am_up_eq, am_up_nl, am_up_ni]⟩), by simp (disch := omega) only [am_up_eq, am_up_nl, am_up_ni]; omega, by simp (disch := omega) only [am_up_eq, am_up_nl, am_up_ni]; omega, by simp (disch := omega) only [am_up_eq, am_up_nl, am_up_ni]; omega, by simp (disch := omega) only [am_up_eq, am_up_nl, am_up_ni]; omega, fun L i q => ?_, rfr_trans (rtl_rfr e2) (fun L i q => ?_)⟩
    · rw [cbeg, cmid]
      simp (disch := omega) only [be_X5_readOff_8, be_X5_readOff_9, be_X5_readOff_11, be_X5_act_5, be_X5_askScript_m, be_X5_askScript_0, be_X5_askScript_1, Option.bind_some, cond_true, cond_false, decide_true, decide_false, Bool.not_true, Bool.not_false, ite_true, ite_false, and_self, true_and, and_true, or_self, true_or, or_true, false_or, or_false, decide_eq_true_eq, Int.reduceAdd, Int.reduceSub, Int.reduceMul, Int.reduceNeg, Int.reduceEq, Int.reduceLT, Int.reduceLE, Int.reduceNe, lcmp_z, lcmp_le, lcmp_ge, lcmp_lt, lcmp_gt, am_up_eq, am_up_nl, am_up_ni, gf_15, pf_15, cls_15, pos_15, gf_10, pf_10, cls_10, pos_10, gf_14, pf_14, cls_14, pos_14, hfm, hfail, ho14]
    · rw [hdact, rbeg, rmid]
      obtain ⟨r1, r2, r3, r4, r5, r6, r7, r8, r9, r10, r12, r13, r14, r15, r16, r18, r19, r20, r21, r22, r23, r24, r25, r26, r27, r28, r30, r31, r32, r33, r34, r35, r36, r37, r38, r39, r40, r41, r44, r49, r50, r51, r52, r54⟩ := hR
      simp (disch := omega) only [be_X7_doRead_6, be_X7_doRead_7, be_X7_doRead_8, be_X7_doRead_10, be_X7_end_m, be_X7_end_0, Option.bind_some, cond_true, cond_false, decide_true, decide_false, Bool.not_true, Bool.not_false, ite_true, ite_false, and_self, true_and, and_true, or_self, true_or, or_true, false_or, or_false, decide_eq_true_eq, Int.reduceAdd, Int.reduceSub, Int.reduceMul, Int.reduceNeg, Int.reduceEq, Int.reduceLT, Int.reduceLE, Int.reduceNe, lcmp_z, lcmp_le, lcmp_ge, lcmp_lt, lcmp_gt, am_up_eq, am_up_nl, am_up_ni, gf_17, pf_17, cls_17, pb0_17, pb1_17, ra_50, sa_50, ra_51, sa_51, ra_52, sa_52, ra_53, sa_53, ra_54, sa_54, ra_310, sa_310, ra_309, sa_309, ra_565, sa_565, ra_63, sa_63, ra_62, sa_62, ra_821, sa_821, ra_68, sa_68, ra_1077, sa_1077, ra_64, sa_64, ra_320, sa_320, ra_576, sa_576, ra_61, sa_61, ra_317, sa_317, ra_573, sa_573, ra_829, sa_829, ra_1085, sa_1085, ra_1341, sa_1341, ra_1597, sa_1597, ra_1853, sa_1853, ra_2109, sa_2109, ra_2365, sa_2365, ra_65, sa_65, ra_2621, sa_2621, ra_2877, sa_2877, ra_3133, sa_3133, ra_69, sa_69, ra_70, sa_70, ra_1333, sa_1333, ra_1589, sa_1589, ra_566, sa_566, ra_822, sa_822, ra_1845, sa_1845, ra_2101, sa_2101, ra_2357, sa_2357, ra_2613, sa_2613, ra_66, sa_66, ra_67, sa_67, ra_2869, sa_2869, ra_3125, sa_3125, ra_308, sa_308, ra_71, sa_71, ra_1078, sa_1078, ra_1334, sa_1334, ra_3381, sa_3381, ra_1590, sa_1590, ra_2, ra_3, r1, r2, r3, r4, r5, r6, r7, r8, r9, r10, r12, r13, r14, r15, r16, r18, r19, r20, r21, r22, r23, r24, r25, r26, r27, r28, r30, r31, r32, r33, r34, r35, r36, r37, r38, r39, r40, r41, r44, r49, r50, r51, r52, r54, bw]
    · exact fr2_up (by omega) (fr2_up (by omega) (fr2_up (by omega) (fr2_refl _ _)))
    · unfold FR at q; simp (disch := omega) only [am_up_eq, am_up_nl, am_up_ni]
    · unfold FR at q; simp (disch := omega) only [am_up_eq, am_up_nl, am_up_ni]
  · -- the writer has ended
    obtain ⟨C', R', g1, g2, g3, g4, g5, g6, g7, g8⟩ := gend_all hR2 w0 w2 hsw2 hwl2 hn (by rw [u2 _ _ (by omega)]; exact hr46) (fun k13 q => ht ⟨by rw [← u2 309 w (by omega)]; exact k13, by rw [u2 1589 _ (by omega), u2 64 _ (by omega)] at q; exact q⟩)
    obtain ⟨⟨x, Cm⟩, ga, gb⟩ := Option.bind_eq_some_iff.mp g1
    dsimp only at gb
    obtain ⟨m1, m2, m3, m4, m5⟩ := rfs R' g4
    have hnf : (C (15 + 256 * R1 61 b) 8 = 5) = False := by rw [ov2]; exact eq_false bw
    refine ⟨C', R', h, V, t, ?_, ?_, (cfs C' g3).1, RR_on e8 w0 (by omega) (by omega) hst0 g3 g4 (by rw [g5, u2 _ _ (by omega)]) (by rw [g6, u2 _ _ (by omega)]) (by rw [g7, u2 _ _ (by omega)]) g8 (fun q => by rw [g4 _ _ (by unfold rtw; omega), u2 _ _ (by omega)]; exact q), by omega, by omega, by omega, by omega, (cfs C' g3).2, rfr_trans (rtl_rfr e2) m5⟩
    · rw [cbeg, cmid]
      simp (disch := omega) only [be_X5_readOff_8, be_X5_readOff_10, be_X5_readOff_11, Option.bind_some, cond_true, cond_false, decide_true, decide_false, Bool.not_true, Bool.not_false, ite_true, ite_false, and_self, true_and, and_true, or_self, true_or, or_true, false_or, or_false, decide_eq_true_eq, Int.reduceAdd, Int.reduceSub, Int.reduceMul, Int.reduceNeg, Int.reduceEq, Int.reduceLT, Int.reduceLE, Int.reduceNe, lcmp_z, lcmp_le, lcmp_ge, lcmp_lt, lcmp_gt, am_up_eq, am_up_nl, am_up_ni, gf_15, pf_15, cls_15, pos_15, gf_10, pf_10, cls_10, pos_10, gf_14, pf_14, cls_14, pos_14, hfm, hnf, ga]
      simp (disch := omega) only [be_X5_act_5, Option.bind_some, cond_true, cond_false, decide_true, decide_false, Bool.not_true, Bool.not_false, ite_true, ite_false, and_self, true_and, and_true, or_self, true_or, or_true, false_or, or_false, decide_eq_true_eq, Int.reduceAdd, Int.reduceSub, Int.reduceMul, Int.reduceNeg, Int.reduceEq, Int.reduceLT, Int.reduceLE, Int.reduceNe, lcmp_z, lcmp_le, lcmp_ge, lcmp_lt, lcmp_gt, gf_15, pf_15, cls_15, pos_15, gf_10, pf_10, cls_10, pos_10, gf_14, pf_14, cls_14, pos_14, gb]
    · rw [hdact, rbeg, rmid]
      obtain ⟨r1, r2, r3, r4, r5, r6, r7, r8, r9, r10, r12, r13, r14, r15, r16, r18, r19, r20, r21, r22, r23, r24, r25, r26, r27, r28, r30, r31, r32, r33, r34, r35, r36, r37, r38, r39, r40, r41, r44, r49, r50, r51, r52, r54⟩ := hR
      simp (disch := omega) only [be_X7_doRead_6, be_X7_doRead_9, be_X7_doRead_10, Option.bind_some, cond_true, cond_false, decide_true, decide_false, Bool.not_true, Bool.not_false, ite_true, ite_false, and_self, true_and, and_true, or_self, true_or, or_true, false_or, or_false, decide_eq_true_eq, Int.reduceAdd, Int.reduceSub, Int.reduceMul, Int.reduceNeg, Int.reduceEq, Int.reduceLT, Int.reduceLE, Int.reduceNe, lcmp_z, lcmp_le, lcmp_ge, lcmp_lt, lcmp_gt, am_up_eq, am_up_nl, am_up_ni, gf_17, pf_17, cls_17, pb0_17, pb1_17, ra_50, sa_50, ra_51, sa_51, ra_52, sa_52, ra_53, sa_53, ra_54, sa_54, ra_310, sa_310, ra_309, sa_309, ra_565, sa_565, ra_63, sa_63, ra_62, sa_62, ra_821, sa_821, ra_68, sa_68, ra_1077, sa_1077, ra_64, sa_64, ra_320, sa_320, ra_576, sa_576, ra_61, sa_61, ra_317, sa_317, ra_573, sa_573, ra_829, sa_829, ra_1085, sa_1085, ra_1341, sa_1341, ra_1597, sa_1597, ra_1853, sa_1853, ra_2109, sa_2109, ra_2365, sa_2365, ra_65, sa_65, ra_2621, sa_2621, ra_2877, sa_2877, ra_3133, sa_3133, ra_69, sa_69, ra_70, sa_70, ra_1333, sa_1333, ra_1589, sa_1589, ra_566, sa_566, ra_822, sa_822, ra_1845, sa_1845, ra_2101, sa_2101, ra_2357, sa_2357, ra_2613, sa_2613, ra_66, sa_66, ra_67, sa_67, ra_2869, sa_2869, ra_3125, sa_3125, ra_308, sa_308, ra_71, sa_71, ra_1078, sa_1078, ra_1334, sa_1334, ra_3381, sa_3381, ra_1590, sa_1590, ra_2, ra_3, r1, r2, r3, r4, r5, r6, r7, r8, r9, r10, r12, r13, r14, r15, r16, r18, r19, r20, r21, r22, r23, r24, r25, r26, r27, r28, r30, r31, r32, r33, r34, r35, r36, r37, r38, r39, r40, r41, r44, r49, r50, r51, r52, r54, eq_false bw, g2]
