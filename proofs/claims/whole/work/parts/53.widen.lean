/-! a band is widened -/
def ctv (b L i : Int) : Prop := bt b L ∨ L = -2 ∨ (L = -1 ∧ bt b i) ∨ L = 52 ∨ (L = 16 ∧ i = 7)
def rtv (b L i : Int) : Prop := ((L = 1341 ∨ L = 2365) ∧ i = b) ∨ L = 308 ∨ (L = 17 ∧ i = 43)
set_option maxHeartbeats 4000000 in
theorem RR_wid {C C' R R' : am_M} {h V : Int → Int → Int} {t : Int → Int} {b : Int} (H : RR C R h V t) (b0 : 0 ≤ b) (b1 : b < R 17 11) (fC : fr2 (ctv b) C C') (fR : fr2 (rtv b) R R') (h7 : C' 16 7 = R' 17 43) (h43 : 0 ≤ R' 17 43) (h43' : R' 17 43 ≤ 50000) (htab : ∀ i, 0 ≤ i → i < 100 → i < R' 17 43 → C' 52 i = R' 308 i) (hbr : br C' R' (h b) (V b) (t b) b) : RR C' R' h V t := by
  obtain ⟨hR, hh, ⟨hn1, hn2⟩, ⟨ho1, ho2⟩, hwh, r1, r2, r3, r4, r5, r6, r7, r8, r9, r10, r11, r12, r13, r14⟩ := H
  obtain ⟨g0, g1, g2, g3, g4, g5, g6, g7, g8, g9, g10, g11, g12, g13⟩ := hh
  have eC : ∀ L i, ¬ ctv b L i → C' L i = C L i := fC
  have eR : ∀ L i, ¬ rtv b L i → R' L i = R L i := fR
  have W0 : R' 17 0 = R 17 0 := eR _ _ (by unfold rtv; omega)
  have B0 : R' 17 11 = R 17 11 := eR _ _ (by unfold rtv; omega)
  have c16 : ∀ i, i ≠ 7 → C' 16 i = C 16 i := fun i hi => eC _ _ (by unfold ctv bt; omega)
  have rows : ∀ u n f, 0 ≤ u → u < 40 → row C (20 + 256 * u) n f → row C' (20 + 256 * u) n f := fun u n f u0 u1 q => row_other u0 u1 (fun L i p => eC _ _ (by unfold rt at p; unfold ctv bt; omega)) (fun L p => eC _ _ (by unfold rt at p; unfold ctv bt; omega)) q
  have e29 : R' 17 29 = R 17 29 := eR _ _ (by unfold rtv; omega)
  have e42 : R' 17 42 = R 17 42 := eR _ _ (by unfold rtv; omega)
  refine ⟨rs_fr hR fR (fun i => by unfold rtv; omega), ?_, ⟨fun u u0 u1 => ?_, fun d d0 d1 => ?_⟩, ⟨fun u u0 u1 => ?_, fun d d0 d1 => ?_⟩, fun u u0 u1 => ?_, ?_, ?_, ?_, h7, by omega, by omega, h43, h43', htab, by omega, by omega, fun u u0 u1 => ?_, fun d d0 d1 => ?_, hinj_of r14 B0 (fun x => eR _ _ (by unfold rtv; omega))⟩
  · rw [hall, c16 0 (by decide), c16 1 (by decide), c16 2 (by decide), c16 3 (by decide), c16 4 (by decide), c16 5 (by decide), W0, B0, eC 12 0 (by unfold ctv bt; omega), eC 12 1 (by unfold ctv bt; omega), eC 12 2 (by unfold ctv bt; omega)]
    refine ⟨g0, g1, g2, g3, g4, g5, g6, g7, g8, g9, g10, g11, g12, fun k k0 k1 => ?_⟩
    rw [eC 2 k (by unfold ctv bt; omega), eC 3 k (by unfold ctv bt; omega)]
    exact g13 k k0 k1
  · rw [W0] at u1
    obtain ⟨x1, x2, x3⟩ := hn1 u u0 u1
    refine ⟨(eC _ _ (by unfold ctv bt; omega)).trans x1, ?_, ?_⟩
    · refine sw_congr u0 (by omega) (fun L i q => eC _ _ (by unfold wst at q; unfold ctv bt; omega)) (fun L i q => eR _ _ (by unfold rcs at q; unfold rtv; omega)) (fun _ n f q => rows u n f u0 (by omega) q) (fun q => ?_) x2
      obtain ⟨_, _, _, _, _, _, _, _, _, _, _, n, f, y⟩ := x2
      exact ⟨n, f, rows u n f u0 (by omega) y⟩
    · unfold prt
      refine ⟨fun p p0 p1 => ?_, fun p p0 p1 => ?_⟩
      · rw [eC (55 + 256 * u) p (by unfold ctv bt; omega), eR 63 _ (by unfold rtv; omega), eR 317 _ (by unfold rtv; omega), B0]
        exact x3.1 p p0 p1
      · rw [eC (56 + 256 * u) p (by unfold ctv bt; omega), eR 62 _ (by unfold rtv; omega), eR 61 _ (by unfold rtv; omega), B0]
        exact x3.2 p p0 p1
  · rw [B0] at d1
    rw [eC 51 d (by unfold ctv bt; omega), eR 61 _ (by unfold rtv; omega), eR 317 _ (by unfold rtv; omega), eR 1085 _ (by unfold rtv; omega), W0]
    exact hn2 d d0 d1
  · rw [W0] at u0
    rw [eC 50 u (by unfold ctv bt; omega)]
    rcases ho1 u u0 u1 with ⟨x, y⟩ | ⟨x, y, n, f, z⟩
    · exact Or.inl ⟨x, fun L q => (eC _ _ (by unfold wlab at q; unfold ctv bt; omega)).trans (y L q)⟩
    · exact Or.inr ⟨x, cshape_congr (fun L i q => eC _ _ (by unfold wst at q; unfold ctv bt; omega)) y, n, f, rows u n f (by omega) u1 z⟩
  · rw [B0] at d0
    rw [eC 51 d (by unfold ctv bt; omega)]
    rcases ho2 d d0 d1 with ⟨x, y⟩ | ⟨x, fm, to, td, wn, tw, o, mo, mk, n, V0, t0, z⟩
    · exact Or.inl ⟨x, fun L q => (eC _ _ (by unfold bt at q; unfold ctv bt; omega)).trans (y L q)⟩
    · exact Or.inr ⟨x, fm, to, td, wn, tw, o, mo, mk, n, V0, t0, bcl_ext (by omega) d1 z (fun L i q => eC _ _ (by unfold bt at q; unfold ctv bt; omega)) (fun L q => eC _ _ (by unfold bt at q; unfold ctv bt; omega)) (fun _ _ _ _ => rfl) (fun _ _ _ => rfl)⟩
  · rw [W0] at u1
    rw [eR 309 _ (by unfold rtv; omega)]
    obtain ⟨x, y⟩ := hwh u u0 u1
    refine ⟨fun p p0 p1 => ?_, fun p p0 p1 => ?_⟩
    · rw [eR 63 _ (by unfold rtv; omega)]; exact x p p0 p1
    · rw [eR 62 _ (by unfold rtv; omega)]; exact y p p0 p1
  · rw [eR 17 17 (by unfold rtv; omega)]; exact r1
  · rw [c16 9 (by decide)]; exact r2
  · rw [c16 8 (by decide), e42]; exact r3
  · rw [W0] at u1
    obtain ⟨x1, x2, x3, x4, x5, x6, x7, x8⟩ := r12 u u0 u1
    obtain ⟨_, sw0, pr0⟩ := hn1 u u0 u1
    unfold wr
    rw [eC _ 12 (by unfold ctv bt; omega), eC _ 13 (by unfold ctv bt; omega), eR 1845 u (by unfold rtv; omega), eR 2101 u (by unfold rtv; omega), eR 309 u (by unfold rtv; omega), eR 63 _ (by unfold rtv; omega), e42]
    refine ⟨x1, x2, x3, x4, x5, x6, ?_, fun k9 => ⟨rows u _ _ u0 (by omega) (x8 k9).1, (x8 k9).2⟩⟩
    unfold st at x7 ⊢
    rw [eC _ 8 (by unfold ctv bt; omega), eC _ 14 (by unfold ctv bt; omega), eC _ 15 (by unfold ctv bt; omega), eR 1333 u (by unfold rtv; omega), eR 2357 u (by unfold rtv; omega), eR 2613 u (by unfold rtv; omega)]
    rcases x7 with q | q | ⟨q1, q2, q3⟩
    · exact Or.inl q
    · exact Or.inr (Or.inl q)
    · exact Or.inr (Or.inr ⟨q1, q2, ws_congr sw0 (fun L i q => eC _ _ (by unfold twa at q; unfold ctv bt; omega)) (fun L i q => eR _ _ (by unfold rcw at q; unfold rtv; omega)) (eR _ _ (by unfold rtv; omega)) q3⟩)
  · rw [B0] at d1
    by_cases e : d = b
    · subst e; exact hbr
    · obtain ⟨x1, x2, x3, x4, x5, x6⟩ := r13 d d0 d1
      unfold br
      rw [eR 61 d (by unfold rtv; omega), eR 317 d (by unfold rtv; omega), eR 1085 d (by unfold rtv; omega), eR 1341 d (by unfold rtv; omega), eR 2365 d (by unfold rtv; omega), eR 1597 d (by unfold rtv; omega), eR 1853 d (by unfold rtv; omega), eR 65 d (by unfold rtv; omega), eR 2109 d (by unfold rtv; omega), eR 1333 _ (by unfold rtv; omega), e29]
      exact ⟨bcl_ext d0 (by omega) x1 (fun L i q => eC _ _ (by unfold bt at q; unfold ctv bt; omega)) (fun L q => eC _ _ (by unfold bt at q; unfold ctv bt; omega)) (fun _ _ _ _ => rfl) (fun _ _ _ => rfl), rb_congr (fun L q => eR _ _ (by unfold rtv; omega)) (by omega) (fun k a c => eR _ _ (by unfold rtv; omega)) (fun k a c => eR _ _ (by unfold rtv; omega)) x2, x3, x4, x5, x6⟩
set_option maxHeartbeats 4000000 in
/-- both widen the same band -/
theorem wid_step {C R : am_M} {h V : Int → Int → Int} {t : Int → Int} {b : Int} (H : RR C R h V t) (hb : tgf C R (R 17 0).toNat 0 (-2) = b) (b0 : 0 ≤ b) (h50 : R 17 43 < 50000) :
    ∃ C' R', am_evm am_PP nX6_widenTightest [(2, 16)] C = some (1, C') ∧ am_evm am_PP nX7_widen [(2, 17), (0, b)] R = some (0, R') ∧ RR C' R' h V t ∧ R' 17 43 = R 17 43 + 1 ∧ R' 17 42 = R 17 42 ∧ R' 17 0 = R 17 0 ∧ R' 17 11 = R 17 11 ∧ cfr C C' ∧ rfr R R' ∧ ∃ v, 0 ≤ v ∧ v < R 17 0 ∧ dgr C' R' v = 0 := by
  obtain ⟨g0, g4, g9, g10, g52, g7, g43, g43'⟩ := RR_hall H
  obtain ⟨a1, a2, a3⟩ := tgf_sp H (R 17 0).toNat 0 (-2) (by omega) (by omega) (Or.inl rfl)
  rw [hb] at a3
  obtain ⟨u, u0, u1, u2, u3, u4⟩ := (a3 b0).resolve_left (by omega)
  clear a1 a2 a3
  obtain ⟨q1, p0, p2, bb0, bb1, b3, nab⟩ := RR_wait H u0 u1 u2
  rw [u3] at bb1 b3 nab
  obtain ⟨b60, ⟨hbcl, hrb, w1, w2, w3, w4⟩, f0, f1, t0, t1⟩ := RR_b H b0 bb1
  have ht := cl_tightest H
  rw [hb, show bl b = 10 + 256 * b by unfold bl; rw [if_neg (by omega)]] at ht
  obtain ⟨C1, m1, m2, m3⟩ := bcl_widen b0 b60 hbcl (by omega) (by omega)
  have nb : (10 + 256 * b = 0) = False := eq_false (by omega)
  have k16 : ∀ i, C1 16 i = C 16 i := fun i => fr_at m2 (by unfold bt; omega) (by omega)
  have k52 : ∀ i, C1 52 i = C 52 i := fun i => fr_at m2 (by unfold bt; omega) (by omega)
  have hR := H.1
  have hnum := m3.1
  have htab : ∀ i, 0 ≤ i → i < 100 → i < R 17 43 → C 52 i = R 308 i := by
    obtain ⟨_, _, _, _, _, _, _, _, _, _, _, _, _, r9, _⟩ := H
    exact r9
  have fC1 : fr2 (ctv b) C C1 := fun L i q => m2 L i (fun a => q (Or.inl a)) (fun a => q (Or.inr (Or.inl a))) (fun a c => q (Or.inr (Or.inr (Or.inl ⟨a, c⟩))))
  have wn : (if 1000 < 2 * R 1341 b then (1000 : Int) else 2 * R 1341 b) = (if 2 * R 1341 b ≤ 1000 then 2 * R 1341 b else 1000) := by
    by_cases c : 2 * R 1341 b ≤ 1000
    · rw [if_neg (by omega), if_pos c]
    · rw [if_pos (by omega), if_neg c]
  have wgt : R 1341 b < (if 1000 < 2 * R 1341 b then (1000 : Int) else 2 * R 1341 b) ∧ (if 1000 < 2 * R 1341 b then (1000 : Int) else 2 * R 1341 b) ≤ 1000 := by
    split <;> omega
  -- what is left, for both ways of keeping
  have fin : ∀ C' R', fr2 (ctv b) C C' → fr2 (rtv b) R R' → bcl C' b (R 61 b) (R 317 b) (R 1085 b) (if 1000 < 2 * R 1341 b then 1000 else 2 * R 1341 b) (am_w32 (R 2365 b + 1)) (R 1597 b) (R 1853 b) (R 65 b) (R 2109 b) (V b) (t b) → R' 1341 b = (if 1000 < 2 * R 1341 b then 1000 else 2 * R 1341 b) → R' 2365 b = am_w32 (R 2365 b + 1) → C' 16 7 = R 17 43 + 1 → R' 17 43 = R 17 43 + 1 → (∀ i, 0 ≤ i → i < 100 → i < R 17 43 + 1 → C' 52 i = R' 308 i) → RR C' R' h V t ∧ R' 17 43 = R 17 43 + 1 ∧ R' 17 42 = R 17 42 ∧ R' 17 0 = R 17 0 ∧ R' 17 11 = R 17 11 ∧ cfr C C' ∧ rfr R R' ∧ ∃ v, 0 ≤ v ∧ v < R 17 0 ∧ dgr C' R' v = 0 := by
    intro C' R' hC hRr hbc h1341 h2365 h7 h43 htb
    have eR : ∀ L i, ¬ rtv b L i → R' L i = R L i := hRr
    have eC : ∀ L i, ¬ ctv b L i → C' L i = C L i := hC
    have o97 : R' 1597 b = R 1597 b := eR _ _ (by unfold rtv; omega)
    refine ⟨RR_wid H b0 bb1 hC hRr (by omega) (by omega) (by omega) (fun i x y z => htb i x y (by omega)) ?_, h43, eR _ _ (by unfold rtv; omega), eR _ _ (by unfold rtv; omega), eR _ _ (by unfold rtv; omega), fun L i q => eC _ _ (by unfold FR at q; unfold ctv bt; omega), fun L i q => eR _ _ (by unfold FR at q; unfold rtv; omega), u, u0, u1, ?_⟩
    · unfold br
      rw [h1341, h2365, eR 61 b (by unfold rtv; omega), eR 317 b (by unfold rtv; omega), eR 1085 b (by unfold rtv; omega), o97, eR 1853 b (by unfold rtv; omega), eR 65 b (by unfold rtv; omega), eR 2109 b (by unfold rtv; omega), eR 1333 _ (by unfold rtv; omega), eR 17 29 (by unfold rtv; omega)]
      exact ⟨hbc, rb_congr (fun L q => eR _ _ (by unfold rtv; omega)) (by rw [eR 17 29 (by unfold rtv; omega)]; omega) (fun k a c => eR _ _ (by unfold rtv; omega)) (fun k a c => eR _ _ (by unfold rtv; omega)) hrb, ⟨by omega, by omega⟩, wgt.2, w3, w4⟩
    · unfold dgr
      rw [eC (15 + 256 * u) 8 (by unfold ctv bt; omega), eC (15 + 256 * u) 9 (by unfold ctv bt; omega), if_neg (by omega), if_pos q1, eR 62 _ (by unfold rtv; omega), u3, o97, h1341, if_pos (Or.inl (by omega))]
  obtain ⟨r1, r2, r3, r4, r5, r6, r7, r8, r9, r10, r12, r13, r14, r15, r16, r18, r19, r20, r21, r22, r23, r24, r25, r26, r27, r28, r30, r31, r32, r33, r34, r35, r36, r37, r38, r39, r40, r41, r44, r49, r50, r51, r52, r54⟩ := hR
  by_cases c1 : 100 ≤ R 17 43
  · have ev1 : am_evm am_PP nX6_widenTightest [(2, 16)] C = some (1, am_up C1 16 7 (R 17 43 + 1)) := by
      simp (disch := omega) only [be_X6_widenTightest_m, be_X6_widenTightest_0, be_X6_widenTightest_2, be_X6_widenTightest_4, Option.bind_some, cond_true, cond_false, decide_true, decide_false, Bool.not_true, Bool.not_false, ite_true, ite_false, and_self, true_and, and_true, or_self, true_or, or_true, false_or, or_false, decide_eq_true_eq, Int.reduceAdd, Int.reduceSub, Int.reduceMul, Int.reduceNeg, Int.reduceEq, Int.reduceLT, Int.reduceLE, Int.reduceNe, lcmp_z, lcmp_le, lcmp_ge, lcmp_lt, lcmp_gt, gf_15, pf_15, cls_15, pos_15, gf_10, pf_10, cls_10, pos_10, cls_16, gf_16, pf_16, ht, nb, m1, k16, g7, decide_eq_true c1, am_w32_ok]
    have ev2 : am_evm am_PP nX7_widen [(2, 17), (0, b)] R = some (0, am_up (am_up (am_up R 1341 b (if 1000 < 2 * R 1341 b then 1000 else 2 * R 1341 b)) 2365 b (am_w32 (R 2365 b + 1))) 17 43 (R 17 43 + 1)) := by
      rw [wn]
      by_cases c2 : 2 * R 1341 b ≤ 1000
      · simp (disch := omega) only [be_X7_widen_m, be_X7_widen_0, be_X7_widen_1, be_X7_widen_2, be_X7_widen_3, be_X7_widen_4, be_X7_widen_5, Option.bind_some, cond_true, cond_false, decide_true, decide_false, Bool.not_true, Bool.not_false, ite_true, ite_false, and_self, true_and, and_true, or_self, true_or, or_true, false_or, or_false, decide_eq_true_eq, Int.reduceAdd, Int.reduceSub, Int.reduceMul, Int.reduceNeg, Int.reduceEq, Int.reduceLT, Int.reduceLE, Int.reduceNe, lcmp_z, lcmp_le, lcmp_ge, lcmp_lt, lcmp_gt, am_up_eq, am_up_nl, am_up_ni, gf_17, pf_17, cls_17, pb0_17, pb1_17, ra_50, sa_50, ra_51, sa_51, ra_52, sa_52, ra_53, sa_53, ra_54, sa_54, ra_310, sa_310, ra_309, sa_309, ra_565, sa_565, ra_63, sa_63, ra_62, sa_62, ra_821, sa_821, ra_68, sa_68, ra_1077, sa_1077, ra_64, sa_64, ra_320, sa_320, ra_576, sa_576, ra_61, sa_61, ra_317, sa_317, ra_573, sa_573, ra_829, sa_829, ra_1085, sa_1085, ra_1341, sa_1341, ra_1597, sa_1597, ra_1853, sa_1853, ra_2109, sa_2109, ra_2365, sa_2365, ra_65, sa_65, ra_2621, sa_2621, ra_2877, sa_2877, ra_3133, sa_3133, ra_69, sa_69, ra_70, sa_70, ra_1333, sa_1333, ra_1589, sa_1589, ra_566, sa_566, ra_822, sa_822, ra_1845, sa_1845, ra_2101, sa_2101, ra_2357, sa_2357, ra_2613, sa_2613, ra_66, sa_66, ra_67, sa_67, ra_2869, sa_2869, ra_3125, sa_3125, ra_308, sa_308, ra_71, sa_71, ra_1078, sa_1078, ra_1334, sa_1334, ra_3381, sa_3381, ra_1590, sa_1590, ra_2, ra_3, r1, r2, r3, r4, r5, r6, r7, r8, r9, r10, r12, r13, r14, r15, r16, r18, r19, r20, r21, r22, r23, r24, r25, r26, r27, r28, r30, r31, r32, r33, r34, r35, r36, r37, r38, r39, r40, r41, r44, r49, r50, r51, r52, r54, am_w32_ok (2 * R 1341 b) (by omega) (by omega), am_w32_ok (R 17 43 + 1) (by omega) (by omega), decide_eq_true c1, decide_eq_true c2, c2]
      · simp (disch := omega) only [be_X7_widen_m, be_X7_widen_0, be_X7_widen_1, be_X7_widen_2, be_X7_widen_3, be_X7_widen_4, be_X7_widen_5, Option.bind_some, cond_true, cond_false, decide_true, decide_false, Bool.not_true, Bool.not_false, ite_true, ite_false, and_self, true_and, and_true, or_self, true_or, or_true, false_or, or_false, decide_eq_true_eq, Int.reduceAdd, Int.reduceSub, Int.reduceMul, Int.reduceNeg, Int.reduceEq, Int.reduceLT, Int.reduceLE, Int.reduceNe, lcmp_z, lcmp_le, lcmp_ge, lcmp_lt, lcmp_gt, am_up_eq, am_up_nl, am_up_ni, gf_17, pf_17, cls_17, pb0_17, pb1_17, ra_50, sa_50, ra_51, sa_51, ra_52, sa_52, ra_53, sa_53, ra_54, sa_54, ra_310, sa_310, ra_309, sa_309, ra_565, sa_565, ra_63, sa_63, ra_62, sa_62, ra_821, sa_821, ra_68, sa_68, ra_1077, sa_1077, ra_64, sa_64, ra_320, sa_320, ra_576, sa_576, ra_61, sa_61, ra_317, sa_317, ra_573, sa_573, ra_829, sa_829, ra_1085, sa_1085, ra_1341, sa_1341, ra_1597, sa_1597, ra_1853, sa_1853, ra_2109, sa_2109, ra_2365, sa_2365, ra_65, sa_65, ra_2621, sa_2621, ra_2877, sa_2877, ra_3133, sa_3133, ra_69, sa_69, ra_70, sa_70, ra_1333, sa_1333, ra_1589, sa_1589, ra_566, sa_566, ra_822, sa_822, ra_1845, sa_1845, ra_2101, sa_2101, ra_2357, sa_2357, ra_2613, sa_2613, ra_66, sa_66, ra_67, sa_67, ra_2869, sa_2869, ra_3125, sa_3125, ra_308, sa_308, ra_71, sa_71, ra_1078, sa_1078, ra_1334, sa_1334, ra_3381, sa_3381, ra_1590, sa_1590, ra_2, ra_3, r1, r2, r3, r4, r5, r6, r7, r8, r9, r10, r12, r13, r14, r15, r16, r18, r19, r20, r21, r22, r23, r24, r25, r26, r27, r28, r30, r31, r32, r33, r34, r35, r36, r37, r38, r39, r40, r41, r44, r49, r50, r51, r52, r54, am_w32_ok (2 * R 1341 b) (by omega) (by omega), am_w32_ok (R 17 43 + 1) (by omega) (by omega), decide_eq_true c1, decide_eq_false c2, c2]
    refine ⟨_, _, ev1, ev2, fin _ _ (fr2_up (by unfold ctv; omega) fC1) ?_ ?_ (by simp (disch := omega) only [am_up_eq, am_up_nl, am_up_ni]) (by simp (disch := omega) only [am_up_eq, am_up_nl, am_up_ni]) (by simp (disch := omega) only [am_up_eq, am_up_nl, am_up_ni]) (by simp (disch := omega) only [am_up_eq, am_up_nl, am_up_ni]) (fun i x y z => ?_)⟩
    · (repeat' first | exact fr2_refl _ _ | refine fr2_up ?_ ?_) <;> (unfold rtv; omega)
    · exact bcl_ext b0 b60 m3 (fun L i q => by unfold bt at q; simp (disch := omega) only [am_up_eq, am_up_nl, am_up_ni]) (fun L q => by simp (disch := omega) only [am_up_eq, am_up_nl, am_up_ni]) (fun _ _ _ _ => rfl) (fun _ _ _ => rfl)
    · simp (disch := omega) only [am_up_eq, am_up_nl, am_up_ni, k52]
      exact htab i x y (by omega)
  · have ev1 : am_evm am_PP nX6_widenTightest [(2, 16)] C = some (1, am_up (am_up C1 52 (R 17 43) b) 16 7 (R 17 43 + 1)) := by
      simp (disch := omega) only [be_X6_widenTightest_m, be_X6_widenTightest_0, be_X6_widenTightest_2, be_X6_widenTightest_3, be_X6_widenTightest_4, Option.bind_some, cond_true, cond_false, decide_true, decide_false, Bool.not_true, Bool.not_false, ite_true, ite_false, and_self, true_and, and_true, or_self, true_or, or_true, false_or, or_false, decide_eq_true_eq, Int.reduceAdd, Int.reduceSub, Int.reduceMul, Int.reduceNeg, Int.reduceEq, Int.reduceLT, Int.reduceLE, Int.reduceNe, lcmp_z, lcmp_le, lcmp_ge, lcmp_lt, lcmp_gt, am_up_eq, am_up_nl, am_up_ni, gf_15, pf_15, cls_15, pos_15, gf_10, pf_10, cls_10, pos_10, cls_16, gf_16, pf_16, ht, nb, m1, k16, g7, g52, hnum, sa_52, decide_eq_false c1, am_w32_ok]
    have ev2 : am_evm am_PP nX7_widen [(2, 17), (0, b)] R = some (0, am_up (am_up (am_up (am_up R 1341 b (if 1000 < 2 * R 1341 b then 1000 else 2 * R 1341 b)) 2365 b (am_w32 (R 2365 b + 1))) 308 (R 17 43) b) 17 43 (R 17 43 + 1)) := by
      rw [wn]
      by_cases c2 : 2 * R 1341 b ≤ 1000
      · simp (disch := omega) only [be_X7_widen_m, be_X7_widen_0, be_X7_widen_1, be_X7_widen_2, be_X7_widen_3, be_X7_widen_4, be_X7_widen_5, Option.bind_some, cond_true, cond_false, decide_true, decide_false, Bool.not_true, Bool.not_false, ite_true, ite_false, and_self, true_and, and_true, or_self, true_or, or_true, false_or, or_false, decide_eq_true_eq, Int.reduceAdd, Int.reduceSub, Int.reduceMul, Int.reduceNeg, Int.reduceEq, Int.reduceLT, Int.reduceLE, Int.reduceNe, lcmp_z, lcmp_le, lcmp_ge, lcmp_lt, lcmp_gt, am_up_eq, am_up_nl, am_up_ni, gf_17, pf_17, cls_17, pb0_17, pb1_17, ra_50, sa_50, ra_51, sa_51, ra_52, sa_52, ra_53, sa_53, ra_54, sa_54, ra_310, sa_310, ra_309, sa_309, ra_565, sa_565, ra_63, sa_63, ra_62, sa_62, ra_821, sa_821, ra_68, sa_68, ra_1077, sa_1077, ra_64, sa_64, ra_320, sa_320, ra_576, sa_576, ra_61, sa_61, ra_317, sa_317, ra_573, sa_573, ra_829, sa_829, ra_1085, sa_1085, ra_1341, sa_1341, ra_1597, sa_1597, ra_1853, sa_1853, ra_2109, sa_2109, ra_2365, sa_2365, ra_65, sa_65, ra_2621, sa_2621, ra_2877, sa_2877, ra_3133, sa_3133, ra_69, sa_69, ra_70, sa_70, ra_1333, sa_1333, ra_1589, sa_1589, ra_566, sa_566, ra_822, sa_822, ra_1845, sa_1845, ra_2101, sa_2101, ra_2357, sa_2357, ra_2613, sa_2613, ra_66, sa_66, ra_67, sa_67, ra_2869, sa_2869, ra_3125, sa_3125, ra_308, sa_308, ra_71, sa_71, ra_1078, sa_1078, ra_1334, sa_1334, ra_3381, sa_3381, ra_1590, sa_1590, ra_2, ra_3, r1, r2, r3, r4, r5, r6, r7, r8, r9, r10, r12, r13, r14, r15, r16, r18, r19, r20, r21, r22, r23, r24, r25, r26, r27, r28, r30, r31, r32, r33, r34, r35, r36, r37, r38, r39, r40, r41, r44, r49, r50, r51, r52, r54, am_w32_ok (2 * R 1341 b) (by omega) (by omega), am_w32_ok (R 17 43 + 1) (by omega) (by omega), decide_eq_false c1, decide_eq_true c2, c2]
      · simp (disch := omega) only [be_X7_widen_m, be_X7_widen_0, be_X7_widen_1, be_X7_widen_2, be_X7_widen_3, be_X7_widen_4, be_X7_widen_5, Option.bind_some, cond_true, cond_false, decide_true, decide_false, Bool.not_true, Bool.not_false, ite_true, ite_false, and_self, true_and, and_true, or_self, true_or, or_true, false_or, or_false, decide_eq_true_eq, Int.reduceAdd, Int.reduceSub, Int.reduceMul, Int.reduceNeg, Int.reduceEq, Int.reduceLT, Int.reduceLE, Int.reduceNe, lcmp_z, lcmp_le, lcmp_ge, lcmp_lt, lcmp_gt, am_up_eq, am_up_nl, am_up_ni, gf_17, pf_17, cls_17, pb0_17, pb1_17, ra_50, sa_50, ra_51, sa_51, ra_52, sa_52, ra_53, sa_53, ra_54, sa_54, ra_310, sa_310, ra_309, sa_309, ra_565, sa_565, ra_63, sa_63, ra_62, sa_62, ra_821, sa_821, ra_68, sa_68, ra_1077, sa_1077, ra_64, sa_64, ra_320, sa_320, ra_576, sa_576, ra_61, sa_61, ra_317, sa_317, ra_573, sa_573, ra_829, sa_829, ra_1085, sa_1085, ra_1341, sa_1341, ra_1597, sa_1597, ra_1853, sa_1853, ra_2109, sa_2109, ra_2365, sa_2365, ra_65, sa_65, ra_2621, sa_2621, ra_2877, sa_2877, ra_3133, sa_3133, ra_69, sa_69, ra_70, sa_70, ra_1333, sa_1333, ra_1589, sa_1589, ra_566, sa_566, ra_822, sa_822, ra_1845, sa_1845, ra_2101, sa_2101, ra_2357, sa_2357, ra_2613, sa_2613, ra_66, sa_66, ra_67, sa_67, ra_2869, sa_2869, ra_3125, sa_3125, ra_308, sa_308, ra_71, sa_71, ra_1078, sa_1078, ra_1334, sa_1334, ra_3381, sa_3381, ra_1590, sa_1590, ra_2, ra_3, r1, r2, r3, r4, r5, r6, r7, r8, r9, r10, r12, r13, r14, r15, r16, r18, r19, r20, r21, r22, r23, r24, r25, r26, r27, r28, r30, r31, r32, r33, r34, r35, r36, r37, r38, r39, r40, r41, r44, r49, r50, r51, r52, r54, am_w32_ok (2 * R 1341 b) (by omega) (by omega), am_w32_ok (R 17 43 + 1) (by omega) (by omega), decide_eq_false c1, decide_eq_false c2, c2]
    refine ⟨_, _, ev1, ev2, fin _ _ (fr2_up (by unfold ctv; omega) (fr2_up (by unfold ctv; omega) fC1)) ?_ ?_ (by simp (disch := omega) only [am_up_eq, am_up_nl, am_up_ni]) (by simp (disch := omega) only [am_up_eq, am_up_nl, am_up_ni]) (by simp (disch := omega) only [am_up_eq, am_up_nl, am_up_ni]) (by simp (disch := omega) only [am_up_eq, am_up_nl, am_up_ni]) (fun i x y z => ?_)⟩
    · (repeat' first | exact fr2_refl _ _ | refine fr2_up ?_ ?_) <;> (unfold rtv; omega)
    · exact bcl_ext b0 b60 m3 (fun L i q => by unfold bt at q; simp (disch := omega) only [am_up_eq, am_up_nl, am_up_ni]) (fun L q => by simp (disch := omega) only [am_up_eq, am_up_nl, am_up_ni]) (fun _ _ _ _ => rfl) (fun _ _ _ => rfl)
    · by_cases e : i = R 17 43
      · rw [e]; simp (disch := omega) only [am_up_eq, am_up_nl, am_up_ni]
      · simp (disch := omega) only [am_up_eq, am_up_nl, am_up_ni, k52]
        exact htab i x y (by omega)
