/-! all kinds: behind a pattern, a writing, an end -/
theorem fr_twr {C C' : am_M} {w : Int} (h : fr (rt (20 + 256 * w)) C C') : fr2 (twr w) C C' := fun L i q => h L i (fun a => q (by unfold rt at a; unfold twr; omega)) (fun a => q (by unfold twr; omega)) (fun a b => q (by unfold rt at b; unfold twr; omega))
set_option maxHeartbeats 4000000 in
theorem got_9 {C R : am_M} {w v : Int} {f : Int → Int} (hR : rs R) (hw : 0 ≤ w) (hw2 : w < 40) (hC : cshape C w) (hk : C (15 + 256 * w) 6 = 9) (hk' : R 309 w = 9) (h : ws9 C R w) (hn : C (15 + 256 * w) 8 = 0) (hr0 : 0 ≤ R 1845 w) (hr1 : R 1845 w < 100000) (hrow : row C (20 + 256 * w) (R 1845 w) f) :
    ∃ C' R', ((am_evm am_PP nX5_afterPattern [(2, 15 + 256 * w), (1, v)] C).bind fun q => am_evm am_PP nX5_askScript [(2, 15 + 256 * w)] q.2) = some (0, C') ∧ am_evm am_PP nX7_got [(2, 17), (0, w), (1, v)] R = some (0, R') ∧ fr2 (twr w) C C' ∧ row C' (20 + 256 * w) (R 1845 w + 1) (fun k => if k = R 1845 w then v else f k) ∧ fr2 (rtw w) R R' ∧ R' 1845 w = R 1845 w + 1 ∧ R' 2101 w = R 2101 w ∧ R' 1333 w = R 1333 w ∧ ws9 C' R' w := by
  obtain ⟨r1, r2, r3, r4, r5, r6, r7, r8, r9, r10, r12, r13, r14, r15, r16, r18, r19, r20, r21, r22, r23, r24, r25, r26, r27, r28, r30, r31, r32, r33, r34, r35, r36, r37, r38, r39, r40, r41, r44, r49, r50, r51, r52, r54⟩ := hR
  obtain ⟨c0, c1, c2, c3, c4, c5, d0, d1, d2, s0, s1, s2, s3⟩ := hC
  obtain ⟨C1, e1, e2, e3⟩ := row_append (v := v) (rok_w hw hw2) hrow (by omega)
  unfold ws9 at h
  have p : R 1589 w = 0 := by omega
  have k15 : ∀ i, C1 (15 + 256 * w) i = C (15 + 256 * w) i := fun i => fr_at e3 (by unfold rt; omega) (by omega)
  simp (disch := omega) only [be_X5_afterPattern_m, be_X5_afterPattern_0, Option.bind_some, cond_true, cond_false, decide_true, decide_false, Bool.not_true, Bool.not_false, ite_true, ite_false, and_self, true_and, and_true, or_self, true_or, or_true, false_or, or_false, decide_eq_true_eq, Int.reduceAdd, Int.reduceSub, Int.reduceMul, Int.reduceNeg, Int.reduceEq, Int.reduceLT, Int.reduceLE, Int.reduceNe, lcmp_z, lcmp_le, lcmp_ge, lcmp_lt, lcmp_gt, gf_15, pf_15, cls_15, pos_15, gf_20, cls_20, pos_20, hk]
  simp (disch := omega) only [be_X5_afterPattern_11, be_X5_afterPattern_19, be_X5_toRead_m, be_X5_toRead_0, be_X5_askScript_m, be_X5_askScript_0, be_X5_askScript_1, Option.bind_some, cond_true, cond_false, decide_true, decide_false, Bool.not_true, Bool.not_false, ite_true, ite_false, and_self, true_and, and_true, or_self, true_or, or_true, false_or, or_false, decide_eq_true_eq, Int.reduceAdd, Int.reduceSub, Int.reduceMul, Int.reduceNeg, Int.reduceEq, Int.reduceLT, Int.reduceLE, Int.reduceNe, lcmp_z, lcmp_le, lcmp_ge, lcmp_lt, lcmp_gt, am_up_eq, am_up_nl, am_up_ni, gf_15, pf_15, cls_15, pos_15, gf_20, cls_20, pos_20, c0, c1, c2, c3, c4, c5, d0, d1, d2, s0, s1, s2, s3, e1, k15]
  simp (disch := omega) only [be_X7_got_m, be_X7_got_0, Option.bind_some, cond_true, cond_false, decide_true, decide_false, Bool.not_true, Bool.not_false, ite_true, ite_false, and_self, true_and, and_true, or_self, true_or, or_true, false_or, or_false, decide_eq_true_eq, Int.reduceAdd, Int.reduceSub, Int.reduceMul, Int.reduceNeg, Int.reduceEq, Int.reduceLT, Int.reduceLE, Int.reduceNe, lcmp_z, lcmp_le, lcmp_ge, lcmp_lt, lcmp_gt, am_up_eq, am_up_nl, am_up_ni, gf_17, pf_17, cls_17, pb0_17, pb1_17, ra_50, sa_50, ra_51, sa_51, ra_52, sa_52, ra_53, sa_53, ra_54, sa_54, ra_310, sa_310, ra_309, sa_309, ra_565, sa_565, ra_63, sa_63, ra_62, sa_62, ra_821, sa_821, ra_68, sa_68, ra_1077, sa_1077, ra_64, sa_64, ra_320, sa_320, ra_576, sa_576, ra_61, sa_61, ra_317, sa_317, ra_573, sa_573, ra_829, sa_829, ra_1085, sa_1085, ra_1341, sa_1341, ra_1597, sa_1597, ra_1853, sa_1853, ra_2109, sa_2109, ra_2365, sa_2365, ra_65, sa_65, ra_2621, sa_2621, ra_2877, sa_2877, ra_3133, sa_3133, ra_69, sa_69, ra_70, sa_70, ra_1333, sa_1333, ra_1589, sa_1589, ra_566, sa_566, ra_822, sa_822, ra_1845, sa_1845, ra_2101, sa_2101, ra_2357, sa_2357, ra_2613, sa_2613, ra_66, sa_66, ra_67, sa_67, ra_2869, sa_2869, ra_3125, sa_3125, ra_308, sa_308, ra_71, sa_71, ra_1078, sa_1078, ra_1334, sa_1334, ra_3381, sa_3381, ra_1590, sa_1590, ra_2, ra_3, r1, r2, r3, r4, r5, r6, r7, r8, r9, r10, r12, r13, r14, r15, r16, r18, r19, r20, r21, r22, r23, r24, r25, r26, r27, r28, r30, r31, r32, r33, r34, r35, r36, r37, r38, r39, r40, r41, r44, r49, r50, r51, r52, r54, hk', am_w32_ok]
  simp (disch := omega) only [be_X7_got_17, be_X7_got_22, Option.bind_some, cond_true, cond_false, decide_true, decide_false, Bool.not_true, Bool.not_false, ite_true, ite_false, and_self, true_and, and_true, or_self, true_or, or_true, false_or, or_false, decide_eq_true_eq, Int.reduceAdd, Int.reduceSub, Int.reduceMul, Int.reduceNeg, Int.reduceEq, Int.reduceLT, Int.reduceLE, Int.reduceNe, lcmp_z, lcmp_le, lcmp_ge, lcmp_lt, lcmp_gt]
  refine ⟨_, _, rfl, rfl, ?_, ?_, ?_, by simp (disch := omega) only [am_up_eq, am_up_nl, am_up_ni], by simp (disch := omega) only [am_up_eq, am_up_nl, am_up_ni], by simp (disch := omega) only [am_up_eq, am_up_nl, am_up_ni], Or.inl ⟨?_, by simp (disch := omega) only [am_up_eq, am_up_nl, am_up_ni], by simp (disch := omega) only [am_up_eq, am_up_nl, am_up_ni]⟩⟩
  · (repeat' first | exact fr_twr e3 | refine fr2_up ?_ ?_) <;> (unfold twr twa; omega)
  · exact row_ext (rok_w hw hw2) e2 (fun L i q => by unfold rt at q; simp (disch := omega) only [am_up_eq, am_up_nl, am_up_ni]) (fun L q => by simp (disch := omega) only [am_up_eq, am_up_nl, am_up_ni]) (fun _ _ _ _ => rfl)
  · (repeat' first | exact fr2_refl _ _ | refine fr2_up ?_ ?_) <;> (unfold rtw; omega)
  · simp (disch := omega) only [am_up_eq, am_up_nl, am_up_ni, p]
theorem got_all {C R : am_M} {w v : Int} {f : Int → Int} (hR : rs R) (hw : 0 ≤ w) (hw2 : w < 40) (hs : sw C R w) (h : wl C R w) (hn : C (15 + 256 * w) 8 = 0) (hp : R 17 46 = C (15 + 256 * w) 9) (hrd : C (15 + 256 * w) 12 = R 1845 w + 1) (hr0 : 0 ≤ R 1845 w) (hr1 : R 1845 w < 100000) (hrow : R 309 w = 9 → row C (20 + 256 * w) (R 1845 w) f) :
    ∃ C' R', ((am_evm am_PP nX5_afterPattern [(2, 15 + 256 * w), (1, v)] C).bind fun q => am_evm am_PP nX5_askScript [(2, 15 + 256 * w)] q.2) = some (0, C') ∧ am_evm am_PP nX7_got [(2, 17), (0, w), (1, v)] R = some (0, R') ∧ fr2 (twr w) C C' ∧ (R 309 w ≠ 9 → fr2 (twa w) C C') ∧ (R 309 w = 9 → row C' (20 + 256 * w) (R 1845 w + 1) (fun k => if k = R 1845 w then v else f k)) ∧ fr2 (rtw w) R R' ∧ R' 1845 w = R 1845 w + 1 ∧ R' 2101 w = R 2101 w ∧ R' 1333 w = R 1333 w ∧ ws C' R' w := by
  obtain ⟨hC, hk, ha, k0, k1, a2, a5, a11, a12, a0, a13, ar⟩ := hs
  rcases h with h | ⟨hk', h⟩
  · unfold wsn at h
    rcases h with ⟨hk', h⟩ | ⟨hk', h⟩ | ⟨hk', h⟩ | ⟨hk', h⟩ | ⟨hk', h⟩ | ⟨hk', h⟩ | ⟨hk', h⟩ | ⟨hk', h⟩ | ⟨hk', h⟩ | ⟨hk', h⟩ | ⟨hk', h⟩
    · exact absurd hn (by unfold ws0 at h; omega)
    · rcases hk' with hk' | hk' | hk'
      · obtain ⟨C', R', e1, e2, e3, e4, e5, e6, e7, e8⟩ := got_1 (v := v) hR hw hw2 hC (hk.trans hk') hk' ha h hn hp hrd hr0 hr1
        exact ⟨C', R', e1, e2, fr2_mono (fun _ _ => twa_twr) e3, fun _ => e3, fun q => by omega, e4, e5, e6, e7, Or.inl (wsn_1 (Or.inl ((e4 _ _ (by unfold rtw; omega)).trans hk')) e8)⟩
      · obtain ⟨C', R', e1, e2, e3, e4, e5, e6, e7, e8⟩ := got_3 (v := v) hR hw hw2 hC (hk.trans hk') hk' ha h hn hp hrd hr0 hr1
        exact ⟨C', R', e1, e2, fr2_mono (fun _ _ => twa_twr) e3, fun _ => e3, fun q => by omega, e4, e5, e6, e7, Or.inl (wsn_1 (Or.inr (Or.inl ((e4 _ _ (by unfold rtw; omega)).trans hk'))) e8)⟩
      · obtain ⟨C', R', e1, e2, e3, e4, e5, e6, e7, e8⟩ := got_10 (v := v) hR hw hw2 hC (hk.trans hk') hk' ha h hn hp hrd hr0 hr1
        exact ⟨C', R', e1, e2, fr2_mono (fun _ _ => twa_twr) e3, fun _ => e3, fun q => by omega, e4, e5, e6, e7, Or.inl (wsn_1 (Or.inr (Or.inr ((e4 _ _ (by unfold rtw; omega)).trans hk'))) e8)⟩
    · obtain ⟨C', R', e1, e2, e3, e4, e5, e6, e7, e8⟩ := got_2 (v := v) hR hw hw2 hC (hk.trans hk') hk' ha h hn hp hrd hr0 hr1 (a2 hk').1 (a2 hk').2
      exact ⟨C', R', e1, e2, fr2_mono (fun _ _ => twa_twr) e3, fun _ => e3, fun q => by omega, e4, e5, e6, e7, Or.inl (wsn_2 ((e4 _ _ (by unfold rtw; omega)).trans hk') e8)⟩
    · obtain ⟨C', R', e1, e2, e3, e4, e5, e6, e7, e8⟩ := got_4 (v := v) hR hw hw2 hC (hk.trans hk') hk' h hn hp hr0 hr1
      exact ⟨C', R', e1, e2, fr2_mono (fun _ _ => twa_twr) e3, fun _ => e3, fun q => by omega, e4, e5, e6, e7, Or.inl (wsn_4 ((e4 _ _ (by unfold rtw; omega)).trans hk') e8)⟩
    · obtain ⟨C', R', e1, e2, e3, e4, e5, e6, e7, e8⟩ := got_5 (v := v) hR hw hw2 hC (hk.trans hk') hk' ha h hn hp hrd hr0 hr1 (a5 hk').1 (a5 hk').2
      exact ⟨C', R', e1, e2, fr2_mono (fun _ _ => twa_twr) e3, fun _ => e3, fun q => by omega, e4, e5, e6, e7, Or.inl (wsn_5 ((e4 _ _ (by unfold rtw; omega)).trans hk') e8)⟩
    · obtain ⟨C', R', e1, e2, e3, e4, e5, e6, e7, e8⟩ := got_6 (v := v) hR hw hw2 hC (hk.trans hk') hk' ha h hn hp hrd hr0 hr1
      exact ⟨C', R', e1, e2, fr2_mono (fun _ _ => twa_twr) e3, fun _ => e3, fun q => by omega, e4, e5, e6, e7, Or.inl (wsn_6 ((e4 _ _ (by unfold rtw; omega)).trans hk') e8)⟩
    · obtain ⟨C', R', e1, e2, e3, e4, e5, e6, e7, e8⟩ := got_7 (v := v) hR hw hw2 hC (hk.trans hk') hk' ha h hn hp hrd hr0 hr1
      exact ⟨C', R', e1, e2, fr2_mono (fun _ _ => twa_twr) e3, fun _ => e3, fun q => by omega, e4, e5, e6, e7, Or.inl (wsn_7 ((e4 _ _ (by unfold rtw; omega)).trans hk') e8)⟩
    · obtain ⟨C', R', e1, e2, e3, e4, e5, e6, e7, e8⟩ := got_8 (v := v) hR hw hw2 hC (hk.trans hk') hk' ha h hn hp hrd hr0 hr1
      exact ⟨C', R', e1, e2, fr2_mono (fun _ _ => twa_twr) e3, fun _ => e3, fun q => by omega, e4, e5, e6, e7, Or.inl (wsn_8 ((e4 _ _ (by unfold rtw; omega)).trans hk') e8)⟩
    · obtain ⟨C', R', e1, e2, e3, e3', e4, e5, e6, e7, e8⟩ := got_9 (v := v) hR hw hw2 hC (hk.trans hk') hk' h hn hr0 hr1 (hrow hk')
      exact ⟨C', R', e1, e2, e3, fun q => absurd hk' q, fun _ => e3', e4, e5, e6, e7, Or.inl (wsn_9 ((e4 _ _ (by unfold rtw; omega)).trans hk') e8)⟩
    · obtain ⟨C', R', e1, e2, e3, e4, e5, e6, e7, e8⟩ := got_11 (v := v) hR hw hw2 hC (hk.trans hk') hk' ha (a11 hk').1 (a11 hk').2 h hn hr0 hr1
      exact ⟨C', R', e1, e2, fr2_mono (fun _ _ => twa_twr) e3, fun _ => e3, fun q => by omega, e4, e5, e6, e7, Or.inl (wsn_11 ((e4 _ _ (by unfold rtw; omega)).trans hk') e8)⟩
    · obtain ⟨C', R', e1, e2, e3, e4, e5, e6, e7, e8⟩ := got_12 (v := v) hR hw hw2 hC (hk.trans hk') hk' ha h hn hp hrd hr0 hr1 (a12 hk').1 (a12 hk').2
      exact ⟨C', R', e1, e2, fr2_mono (fun _ _ => twa_twr) e3, fun _ => e3, fun q => by omega, e4, e5, e6, e7, Or.inl (wsn_12 ((e4 _ _ (by unfold rtw; omega)).trans hk') e8)⟩
  · obtain ⟨C', R', e1, e2, e3, e4, e5, e6, e7, e8⟩ := got_13 (v := v) hR hw hw2 hC (hk.trans hk') hk' (a13 hk') h hn hr0 hr1
    exact ⟨C', R', e1, e2, fr2_mono (fun _ _ => twa_twr) e3, fun _ => e3, fun q => by omega, e4, e5, e6, e7, Or.inr ⟨(e4 _ _ (by unfold rtw; omega)).trans hk', e8⟩⟩
theorem gave_all {C R : am_M} {w : Int} (hR : rs R) (hw : 0 ≤ w) (hw2 : w < 40) (hs : sw C R w) (h : wl C R w) (hn : C (15 + 256 * w) 8 = 1) (hrd : C (15 + 256 * w) 12 = R 1845 w) (hr0 : 0 ≤ R 2101 w) (hr1 : R 2101 w < 100000) :
    ∃ C' R', ((am_evm am_PP nX5_afterWriting [(2, 15 + 256 * w)] C).bind fun q => am_evm am_PP nX5_askScript [(2, 15 + 256 * w)] q.2) = some (0, C') ∧ am_evm am_PP nX7_gave [(2, 17), (0, w)] R = some (0, R') ∧ fr2 (twa w) C C' ∧ fr2 (rtw w) R R' ∧ R' 1845 w = R 1845 w ∧ R' 2101 w = R 2101 w + 1 ∧ R' 1333 w = R 1333 w ∧ ws C' R' w := by
  obtain ⟨hC, hk, ha, k0, k1, a2, a5, a11, a12, a0, a13, ar⟩ := hs
  rcases h with h | ⟨hk', h⟩
  · unfold wsn at h
    rcases h with ⟨hk', h⟩ | ⟨hk', h⟩ | ⟨hk', h⟩ | ⟨hk', h⟩ | ⟨hk', h⟩ | ⟨hk', h⟩ | ⟨hk', h⟩ | ⟨hk', h⟩ | ⟨hk', h⟩ | ⟨hk', h⟩ | ⟨hk', h⟩
    · obtain ⟨C', R', e1, e2, e3, e4, e5, e6, e7, e8⟩ := gave_0 (v := 0) hR hw hw2 hC (hk.trans hk') hk' ha h hn hrd hr0 hr1 (a0 hk').1 (a0 hk').2
      exact ⟨C', R', e1, e2, e3, e4, e5, e6, e7, Or.inl (wsn_0 ((e4 _ _ (by unfold rtw; omega)).trans hk') e8)⟩
    · rcases hk' with hk' | hk' | hk'
      · obtain ⟨C', R', e1, e2, e3, e4, e5, e6, e7, e8⟩ := gave_1 (v := 0) hR hw hw2 hC (hk.trans hk') hk' ha h hn hrd hr0 hr1
        exact ⟨C', R', e1, e2, e3, e4, e5, e6, e7, Or.inl (wsn_1 (Or.inl ((e4 _ _ (by unfold rtw; omega)).trans hk')) e8)⟩
      · obtain ⟨C', R', e1, e2, e3, e4, e5, e6, e7, e8⟩ := gave_3 (v := 0) hR hw hw2 hC (hk.trans hk') hk' ha h hn hrd hr0 hr1
        exact ⟨C', R', e1, e2, e3, e4, e5, e6, e7, Or.inl (wsn_1 (Or.inr (Or.inl ((e4 _ _ (by unfold rtw; omega)).trans hk'))) e8)⟩
      · obtain ⟨C', R', e1, e2, e3, e4, e5, e6, e7, e8⟩ := gave_10 (v := 0) hR hw hw2 hC (hk.trans hk') hk' ha h hn hrd hr0 hr1
        exact ⟨C', R', e1, e2, e3, e4, e5, e6, e7, Or.inl (wsn_1 (Or.inr (Or.inr ((e4 _ _ (by unfold rtw; omega)).trans hk'))) e8)⟩
    · obtain ⟨C', R', e1, e2, e3, e4, e5, e6, e7, e8⟩ := gave_2 (v := 0) hR hw hw2 hC (hk.trans hk') hk' ha h hn hrd hr0 hr1 (a2 hk').1 (a2 hk').2
      exact ⟨C', R', e1, e2, e3, e4, e5, e6, e7, Or.inl (wsn_2 ((e4 _ _ (by unfold rtw; omega)).trans hk') e8)⟩
    · obtain ⟨C', R', e1, e2, e3, e4, e5, e6, e7, e8⟩ := gave_4 (v := 0) hR hw hw2 hC (hk.trans hk') hk' h hn hr0 hr1
      exact ⟨C', R', e1, e2, e3, e4, e5, e6, e7, Or.inl (wsn_4 ((e4 _ _ (by unfold rtw; omega)).trans hk') e8)⟩
    · obtain ⟨C', R', e1, e2, e3, e4, e5, e6, e7, e8⟩ := gave_5 (v := 0) hR hw hw2 hC (hk.trans hk') hk' ha h hn hrd hr0 hr1 (a5 hk').1 (a5 hk').2
      exact ⟨C', R', e1, e2, e3, e4, e5, e6, e7, Or.inl (wsn_5 ((e4 _ _ (by unfold rtw; omega)).trans hk') e8)⟩
    · obtain ⟨C', R', e1, e2, e3, e4, e5, e6, e7, e8⟩ := gave_6 (v := 0) hR hw hw2 hC (hk.trans hk') hk' ha h hn hrd hr0 hr1
      exact ⟨C', R', e1, e2, e3, e4, e5, e6, e7, Or.inl (wsn_6 ((e4 _ _ (by unfold rtw; omega)).trans hk') e8)⟩
    · obtain ⟨C', R', e1, e2, e3, e4, e5, e6, e7, e8⟩ := gave_7 (v := 0) hR hw hw2 hC (hk.trans hk') hk' ha h hn hrd hr0 hr1
      exact ⟨C', R', e1, e2, e3, e4, e5, e6, e7, Or.inl (wsn_7 ((e4 _ _ (by unfold rtw; omega)).trans hk') e8)⟩
    · obtain ⟨C', R', e1, e2, e3, e4, e5, e6, e7, e8⟩ := gave_8 (v := 0) hR hw hw2 hC (hk.trans hk') hk' ha h hn hrd hr0 hr1
      exact ⟨C', R', e1, e2, e3, e4, e5, e6, e7, Or.inl (wsn_8 ((e4 _ _ (by unfold rtw; omega)).trans hk') e8)⟩
    · exact absurd hn (by unfold ws9 at h; omega)
    · obtain ⟨C', R', e1, e2, e3, e4, e5, e6, e7, e8⟩ := gave_11 (v := 0) hR hw hw2 hC (hk.trans hk') hk' ha (a11 hk').1 (a11 hk').2 h hn hr0 hr1
      exact ⟨C', R', e1, e2, e3, e4, e5, e6, e7, Or.inl (wsn_11 ((e4 _ _ (by unfold rtw; omega)).trans hk') e8)⟩
    · obtain ⟨C', R', e1, e2, e3, e4, e5, e6, e7, e8⟩ := gave_12 (v := 0) hR hw hw2 hC (hk.trans hk') hk' ha h hn hrd hr0 hr1 (a12 hk').1 (a12 hk').2
      exact ⟨C', R', e1, e2, e3, e4, e5, e6, e7, Or.inl (wsn_12 ((e4 _ _ (by unfold rtw; omega)).trans hk') e8)⟩
  · obtain ⟨C', R', e1, e2, e3, e4, e5, e6, e7, e8⟩ := gave_13 (v := 0) hR hw hw2 hC (hk.trans hk') hk' (a13 hk') h hn hr0 hr1
    exact ⟨C', R', e1, e2, e3, e4, e5, e6, e7, Or.inr ⟨(e4 _ _ (by unfold rtw; omega)).trans hk', e8⟩⟩
theorem gend_all {C R : am_M} {w : Int} (hR : rs R) (hw : 0 ≤ w) (hw2 : w < 40) (hs : sw C R w) (h : wl C R w) (hn : C (15 + 256 * w) 8 = 0) (hp : R 17 46 = C (15 + 256 * w) 9) (ht : R 309 w = 13 → R 64 (12 * w + R 1589 w) ≠ 6) :
    ∃ C' R', ((am_evm am_PP nX5_afterEnd [(2, 15 + 256 * w)] C).bind fun q => am_evm am_PP nX5_askScript [(2, 15 + 256 * w)] q.2) = some (0, C') ∧ am_evm am_PP nX7_gotEnd [(2, 17), (0, w)] R = some (0, R') ∧ fr2 (twa w) C C' ∧ fr2 (rtw w) R R' ∧ R' 1845 w = R 1845 w ∧ R' 2101 w = R 2101 w ∧ R' 1333 w = R 1333 w ∧ ws C' R' w := by
  obtain ⟨hC, hk, ha, k0, k1, a2, a5, a11, a12, a0, a13, ar⟩ := hs
  rcases h with h | ⟨hk', h⟩
  · unfold wsn at h
    rcases h with ⟨hk', h⟩ | ⟨hk', h⟩ | ⟨hk', h⟩ | ⟨hk', h⟩ | ⟨hk', h⟩ | ⟨hk', h⟩ | ⟨hk', h⟩ | ⟨hk', h⟩ | ⟨hk', h⟩ | ⟨hk', h⟩ | ⟨hk', h⟩
    · exact absurd hn (by unfold ws0 at h; omega)
    · rcases hk' with hk' | hk' | hk'
      · obtain ⟨C', R', e1, e2, e3, e4, e5, e6, e7, e8⟩ := gend_1 (v := 0) hR hw hw2 hC (hk.trans hk') hk' ha h hn
        exact ⟨C', R', e1, e2, e3, e4, e5, e6, e7, Or.inl (wsn_1 (Or.inl ((e4 _ _ (by unfold rtw; omega)).trans hk')) e8)⟩
      · obtain ⟨C', R', e1, e2, e3, e4, e5, e6, e7, e8⟩ := gend_3 (v := 0) hR hw hw2 hC (hk.trans hk') hk' ha h hn
        exact ⟨C', R', e1, e2, e3, e4, e5, e6, e7, Or.inl (wsn_1 (Or.inr (Or.inl ((e4 _ _ (by unfold rtw; omega)).trans hk'))) e8)⟩
      · obtain ⟨C', R', e1, e2, e3, e4, e5, e6, e7, e8⟩ := gend_10 (v := 0) hR hw hw2 hC (hk.trans hk') hk' ha h hn
        exact ⟨C', R', e1, e2, e3, e4, e5, e6, e7, Or.inl (wsn_1 (Or.inr (Or.inr ((e4 _ _ (by unfold rtw; omega)).trans hk'))) e8)⟩
    · obtain ⟨C', R', e1, e2, e3, e4, e5, e6, e7, e8⟩ := gend_2 (v := 0) hR hw hw2 hC (hk.trans hk') hk' ha h hn
      exact ⟨C', R', e1, e2, e3, e4, e5, e6, e7, Or.inl (wsn_2 ((e4 _ _ (by unfold rtw; omega)).trans hk') e8)⟩
    · obtain ⟨C', R', e1, e2, e3, e4, e5, e6, e7, e8⟩ := gend_4 (v := 0) hR hw hw2 hC (hk.trans hk') hk' h hn hp
      exact ⟨C', R', e1, e2, e3, e4, e5, e6, e7, Or.inl (wsn_4 ((e4 _ _ (by unfold rtw; omega)).trans hk') e8)⟩
    · obtain ⟨C', R', e1, e2, e3, e4, e5, e6, e7, e8⟩ := gend_5 (v := 0) hR hw hw2 hC (hk.trans hk') hk' ha h hn
      exact ⟨C', R', e1, e2, e3, e4, e5, e6, e7, Or.inl (wsn_5 ((e4 _ _ (by unfold rtw; omega)).trans hk') e8)⟩
    · obtain ⟨C', R', e1, e2, e3, e4, e5, e6, e7, e8⟩ := gend_6 (v := 0) hR hw hw2 hC (hk.trans hk') hk' ha h hn
      exact ⟨C', R', e1, e2, e3, e4, e5, e6, e7, Or.inl (wsn_6 ((e4 _ _ (by unfold rtw; omega)).trans hk') e8)⟩
    · obtain ⟨C', R', e1, e2, e3, e4, e5, e6, e7, e8⟩ := gend_7 (v := 0) hR hw hw2 hC (hk.trans hk') hk' ha h hn
      exact ⟨C', R', e1, e2, e3, e4, e5, e6, e7, Or.inl (wsn_7 ((e4 _ _ (by unfold rtw; omega)).trans hk') e8)⟩
    · obtain ⟨C', R', e1, e2, e3, e4, e5, e6, e7, e8⟩ := gend_8 (v := 0) hR hw hw2 hC (hk.trans hk') hk' ha h hn
      exact ⟨C', R', e1, e2, e3, e4, e5, e6, e7, Or.inl (wsn_8 ((e4 _ _ (by unfold rtw; omega)).trans hk') e8)⟩
    · obtain ⟨C', R', e1, e2, e3, e4, e5, e6, e7, e8⟩ := gend_9 (v := 0) hR hw hw2 hC (hk.trans hk') hk' ha h hn
      exact ⟨C', R', e1, e2, e3, e4, e5, e6, e7, Or.inl (wsn_9 ((e4 _ _ (by unfold rtw; omega)).trans hk') e8)⟩
    · obtain ⟨C', R', e1, e2, e3, e4, e5, e6, e7, e8⟩ := gend_11 (v := 0) hR hw hw2 hC (hk.trans hk') hk' ha (a11 hk').1 (a11 hk').2 h hn
      exact ⟨C', R', e1, e2, e3, e4, e5, e6, e7, Or.inl (wsn_11 ((e4 _ _ (by unfold rtw; omega)).trans hk') e8)⟩
    · obtain ⟨C', R', e1, e2, e3, e4, e5, e6, e7, e8⟩ := gend_12 (v := 0) hR hw hw2 hC (hk.trans hk') hk' ha h hn
      exact ⟨C', R', e1, e2, e3, e4, e5, e6, e7, Or.inl (wsn_12 ((e4 _ _ (by unfold rtw; omega)).trans hk') e8)⟩
  · obtain ⟨C', R', e1, e2, e3, e4, e5, e6, e7, e8⟩ := gend_13 (v := 0) hR hw hw2 hC (hk.trans hk') hk' (a13 hk') h hn (ht hk')
    exact ⟨C', R', e1, e2, e3, e4, e5, e6, e7, Or.inr ⟨(e4 _ _ (by unfold rtw; omega)).trans hk', e8⟩⟩
