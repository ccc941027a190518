/-! what is changed of a weaver, or of a band, while nothing runs -/
def tfs (w L i : Int) : Prop := (20 + 256 * w ≤ L ∧ L ≤ 27 + 256 * w) ∨ L = -2 ∨ (L = -1 ∧ 20 + 256 * w ≤ i ∧ i ≤ 27 + 256 * w) ∨ (L = 14 + 256 * w ∧ i = 4) ∨ L = 59 + 256 * w ∨ L = 73 + 256 * w ∨ L = 74 + 256 * w
def rfs (w L i : Int) : Prop := ((L = 821 ∨ L = 1077) ∧ i = w) ∨ (L = 68 ∧ 200 * w ≤ i ∧ i < 200 * w + 200) ∨ ((L = 64 ∨ L = 320 ∨ L = 576) ∧ 12 * w ≤ i ∧ i < 12 * w + 12)
theorem INV_fs {C C' R R' : am_M} {w : Int} (h6 : C 16 6 = opc R) (N : NR C R) (w0 : 0 ≤ w) (w1 : w < R 17 0) (fC : fr2 (tfs w) C C') (fR : fr2 (rfs w) R R') (hs : sw C' R' w) (h9 : R 309 w ≠ 9) : INV C' R' ∧ cf2 C C' ∧ rfr R R' := by
  obtain ⟨hR, hh, ⟨hn1, hn2⟩, ⟨ho1, ho2⟩, n1, n2, n3, n4, n5, n6⟩ := N
  obtain ⟨g0, g1, g2, g3, g4, g5, g6, g7, g8, g9, g10, g11, g12, g13⟩ := hh
  have eC : ∀ L i, ¬ tfs w L i → C' L i = C L i := fC
  have eR : ∀ L i, ¬ rfs w L i → R' L i = R L i := fR
  have W0 : R' 17 0 = R 17 0 := eR _ _ (by unfold rfs; omega)
  have B0 : R' 17 11 = R 17 11 := eR _ _ (by unfold rfs; omega)
  have c16 : ∀ i, C' 16 i = C 16 i := fun i => eC _ _ (by unfold tfs; omega)
  refine ⟨⟨?_, Or.inl ⟨rs_fr hR fR (fun i => by unfold rfs; omega), ?_, ⟨fun u u0 u1 => ?_, fun d d0 d1 => ?_⟩, ⟨fun u u0 u1 => ?_, fun d d0 d1 => ?_⟩, ?_, ?_, ?_, ?_, fun d d0 d1 V t => ?_, fun u u0 u1 => ?_⟩⟩, fun L i q => eC _ _ (by unfold FR at q; unfold tfs; omega), fun L i q => eR _ _ (by unfold FR at q; unfold rfs; omega)⟩
  · rw [c16, h6]
    exact (opc_same W0 (fun i => eR _ _ (by unfold rfs; omega)) (fun i => eR _ _ (by unfold rfs; omega)) (fun i => eR _ _ (by unfold rfs; omega))).symm
  · rw [hall, c16 0, c16 1, c16 2, c16 3, c16 4, c16 5, W0, B0, eC 12 0 (by unfold tfs; omega), eC 12 1 (by unfold tfs; omega), eC 12 2 (by unfold tfs; omega)]
    refine ⟨g0, g1, g2, g3, g4, g5, g6, g7, g8, g9, g10, g11, g12, fun k k0 k1 => ?_⟩
    rw [eC 2 k (by unfold tfs; omega), eC 3 k (by unfold tfs; omega)]
    exact g13 k k0 k1
  · rw [W0] at u1
    obtain ⟨x1, x2, x3⟩ := hn1 u u0 u1
    refine ⟨(eC _ _ (by unfold tfs; omega)).trans x1, ?_, ?_⟩
    · by_cases e : u = w
      · rw [e]; exact hs
      · refine sw_congr u0 (by omega) (fun L i q => eC _ _ (by unfold wst at q; unfold tfs; omega)) (fun L i q => eR _ _ (by unfold rcs at q; unfold rfs; omega)) (fun _ n f q => ?_) (fun q => ?_) x2
        · exact row_other u0 (by omega) (fun L i p => eC _ _ (by unfold rt at p; unfold tfs; omega)) (fun L p => eC _ _ (by unfold rt at p; unfold tfs; omega)) q
        · obtain ⟨_, _, _, _, _, _, _, _, _, _, _, n, f, y⟩ := x2
          exact ⟨n, f, row_other u0 (by omega) (fun L i p => eC _ _ (by unfold rt at p; unfold tfs; omega)) (fun L p => eC _ _ (by unfold rt at p; unfold tfs; omega)) y⟩
    · unfold prt
      refine ⟨fun p p0 p1 => ?_, fun p p0 p1 => ?_⟩
      · rw [eC (55 + 256 * u) p (by unfold tfs; omega), eR 63 _ (by unfold rfs; omega), eR 317 _ (by unfold rfs; omega), B0]
        exact x3.1 p p0 p1
      · rw [eC (56 + 256 * u) p (by unfold tfs; omega), eR 62 _ (by unfold rfs; omega), eR 61 _ (by unfold rfs; omega), B0]
        exact x3.2 p p0 p1
  · rw [B0] at d1
    rw [eC 51 d (by unfold tfs; omega), eR 61 _ (by unfold rfs; omega), eR 317 _ (by unfold rfs; omega), eR 1085 _ (by unfold rfs; omega), W0]
    exact hn2 d d0 d1
  · rw [W0] at u0
    rw [eC 50 u (by unfold tfs; omega)]
    rcases ho1 u u0 u1 with ⟨x, y⟩ | ⟨x, y, n, f, z⟩
    · exact Or.inl ⟨x, fun L q => (eC _ _ (by unfold wlab at q; unfold tfs; omega)).trans (y L q)⟩
    · refine Or.inr ⟨x, cshape_congr (fun L i q => eC _ _ (by unfold wst at q; unfold tfs; omega)) y, n, f, ?_⟩
      exact row_other (by omega) (by omega) (fun L i p => eC _ _ (by unfold rt at p; unfold tfs; omega)) (fun L p => eC _ _ (by unfold rt at p; unfold tfs; omega)) z
  · rw [B0] at d0
    rw [eC 51 d (by unfold tfs; omega)]
    rcases ho2 d d0 d1 with ⟨x, y⟩ | ⟨x, fm, to, td, wn, tw, o, mo, mk, n, V0, t0, z⟩
    · exact Or.inl ⟨x, fun L q => (eC _ _ (by unfold bt at q; unfold tfs; omega)).trans (y L q)⟩
    · exact Or.inr ⟨x, fm, to, td, wn, tw, o, mo, mk, n, V0, t0, bcl_ext (by omega) d1 z (fun L i q => eC _ _ (by unfold bt at q; unfold tfs; omega)) (fun L q => eC _ _ (by unfold bt at q; unfold tfs; omega)) (fun _ _ _ _ => rfl) (fun _ _ _ => rfl)⟩
  · exact (eR _ _ (by unfold rfs; omega)).trans n1
  · exact (c16 _).trans n2
  · exact (c16 _).trans n3
  · exact (c16 _).trans n4
  · rw [B0] at d1
    rw [eR 61 _ (by unfold rfs; omega), eR 317 _ (by unfold rfs; omega), eR 1085 _ (by unfold rfs; omega)]
    exact bcl_ext d0 (by omega) (n5 d d0 d1 V t) (fun L i q => eC _ _ (by unfold bt at q; unfold tfs; omega)) (fun L q => eC _ _ (by unfold bt at q; unfold tfs; omega)) (fun _ _ _ _ => rfl) (fun _ _ _ => rfl)
  · rw [W0] at u1
    obtain ⟨m1, m2, m3, m4, m5⟩ := n6 u u0 u1
    unfold nw
    rw [eC _ 12 (by unfold tfs; omega), eC _ 13 (by unfold tfs; omega), eC _ 8 (by unfold tfs; omega), eR 309 u (by unfold rfs; omega)]
    refine ⟨m1, m2, m3, m4, fun q => ?_⟩
    have hne : u ≠ w := fun e => h9 (e ▸ q)
    rw [eC _ 1 (by unfold tfs; omega)]
    exact m5 q
theorem INV_bd {C C' R R' : am_M} {b : Int} (h6 : C 16 6 = opc R) (N : NR C R) (b0 : 0 ≤ b) (b1 : b < R 17 11) (fC : fr (bt b) C C') (fR : fr2 (fun L i => L = 1085 ∧ i = b) R R') (hw : 1 ≤ R' 1085 b ∧ R' 1085 b ≤ 50) (hb : bnew C' R' b) : INV C' R' ∧ cf2 C C' ∧ rfr R R' := by
  obtain ⟨hR, hh, ⟨hn1, hn2⟩, ⟨ho1, ho2⟩, n1, n2, n3, n4, n5, n6⟩ := N
  obtain ⟨g0, g1, g2, g3, g4, g5, g6, g7, g8, g9, g10, g11, g12, g13⟩ := hh
  have eC : ∀ L i, ¬ (bt b L ∨ L = -2 ∨ (L = -1 ∧ bt b i)) → C' L i = C L i := fr_btw fC
  have eR : ∀ L i, ¬ (L = 1085 ∧ i = b) → R' L i = R L i := fR
  have W0 : R' 17 0 = R 17 0 := eR _ _ (by omega)
  have B0 : R' 17 11 = R 17 11 := eR _ _ (by omega)
  have c16 : ∀ i, C' 16 i = C 16 i := fun i => eC _ _ (by unfold bt; omega)
  refine ⟨⟨?_, Or.inl ⟨rs_fr hR fR (fun i => by intros; intro q; exact absurd q.1 (by decide)), ?_, ⟨fun u u0 u1 => ?_, fun d d0 d1 => ?_⟩, ⟨fun u u0 u1 => ?_, fun d d0 d1 => ?_⟩, ?_, ?_, ?_, ?_, fun d d0 d1 V t => ?_, fun u u0 u1 => ?_⟩⟩, fun L i q => eC _ _ (by unfold FR at q; unfold bt; omega), fun L i q => eR _ _ (by unfold FR at q; omega)⟩
  · rw [c16, h6]
    exact (opc_same W0 (fun i => eR _ _ (by omega)) (fun i => eR _ _ (by omega)) (fun i => eR _ _ (by omega))).symm
  · rw [hall, c16 0, c16 1, c16 2, c16 3, c16 4, c16 5, W0, B0, eC 12 0 (by unfold bt; omega), eC 12 1 (by unfold bt; omega), eC 12 2 (by unfold bt; omega)]
    refine ⟨g0, g1, g2, g3, g4, g5, g6, g7, g8, g9, g10, g11, g12, fun k k0 k1 => ?_⟩
    rw [eC 2 k (by unfold bt; omega), eC 3 k (by unfold bt; omega)]
    exact g13 k k0 k1
  · rw [W0] at u1
    obtain ⟨x1, x2, x3⟩ := hn1 u u0 u1
    refine ⟨(eC _ _ (by unfold bt; omega)).trans x1, ?_, ?_⟩
    · refine sw_congr u0 (by omega) (fun L i q => eC _ _ (by unfold wst at q; unfold bt; omega)) (fun L i q => eR _ _ (by unfold rcs at q; omega)) (fun _ n f q => ?_) (fun q => ?_) x2
      · exact row_other u0 (by omega) (fun L i p => eC _ _ (by unfold rt at p; unfold bt; omega)) (fun L p => eC _ _ (by unfold rt at p; unfold bt; omega)) q
      · obtain ⟨_, _, _, _, _, _, _, _, _, _, _, n, f, y⟩ := x2
        exact ⟨n, f, row_other u0 (by omega) (fun L i p => eC _ _ (by unfold rt at p; unfold bt; omega)) (fun L p => eC _ _ (by unfold rt at p; unfold bt; omega)) y⟩
    · unfold prt
      refine ⟨fun p p0 p1 => ?_, fun p p0 p1 => ?_⟩
      · rw [eC (55 + 256 * u) p (by unfold bt; omega), eR 63 _ (by omega), eR 317 _ (by omega), B0]
        exact x3.1 p p0 p1
      · rw [eC (56 + 256 * u) p (by unfold bt; omega), eR 62 _ (by omega), eR 61 _ (by omega), B0]
        exact x3.2 p p0 p1
  · rw [B0] at d1
    rw [eC 51 d (by unfold bt; omega), eR 61 _ (by omega), eR 317 _ (by omega), W0]
    obtain ⟨x1, x2, x3, x4, x5, x6, x7⟩ := hn2 d d0 d1
    refine ⟨x1, x2, x3, x4, x5, ?_⟩
    by_cases e : d = b
    · rw [e]; exact hw
    · rw [eR 1085 _ (by omega)]; exact ⟨x6, x7⟩
  · rw [W0] at u0
    rw [eC 50 u (by unfold bt; omega)]
    rcases ho1 u u0 u1 with ⟨x, y⟩ | ⟨x, y, n, f, z⟩
    · exact Or.inl ⟨x, fun L q => (eC _ _ (by unfold wlab at q; unfold bt; omega)).trans (y L q)⟩
    · refine Or.inr ⟨x, cshape_congr (fun L i q => eC _ _ (by unfold wst at q; unfold bt; omega)) y, n, f, ?_⟩
      exact row_other (by omega) (by omega) (fun L i p => eC _ _ (by unfold rt at p; unfold bt; omega)) (fun L p => eC _ _ (by unfold rt at p; unfold bt; omega)) z
  · rw [B0] at d0
    rw [eC 51 d (by unfold bt; omega)]
    rcases ho2 d d0 d1 with ⟨x, y⟩ | ⟨x, fm, to, td, wn, tw, o, mo, mk, n, V0, t0, z⟩
    · exact Or.inl ⟨x, fun L q => (eC _ _ (by unfold bt at q ⊢; omega)).trans (y L q)⟩
    · exact Or.inr ⟨x, fm, to, td, wn, tw, o, mo, mk, n, V0, t0, bcl_ext (by omega) d1 z (fun L i q => eC _ _ (by unfold bt at q ⊢; omega)) (fun L q => eC _ _ (by unfold bt at q ⊢; omega)) (fun _ _ _ _ => rfl) (fun _ _ _ => rfl)⟩
  · exact (eR _ _ (by omega)).trans n1
  · exact (c16 _).trans n2
  · exact (c16 _).trans n3
  · exact (c16 _).trans n4
  · rw [B0] at d1
    by_cases e : d = b
    · rw [e]; exact hb V t
    · rw [eR 61 _ (by omega), eR 317 _ (by omega), eR 1085 _ (by omega)]
      exact bcl_ext d0 (by omega) (n5 d d0 d1 V t) (fun L i q => eC _ _ (by unfold bt at q ⊢; omega)) (fun L q => eC _ _ (by unfold bt at q ⊢; omega)) (fun _ _ _ _ => rfl) (fun _ _ _ => rfl)
  · rw [W0] at u1
    unfold nw
    rw [eC _ 12 (by unfold bt; omega), eC _ 13 (by unfold bt; omega), eC _ 8 (by unfold bt; omega), eC _ 1 (by unfold bt; omega), eR 309 u (by omega)]
    exact n6 u u0 u1
/-- whether it runs, both say alike -/
theorem INV_run {C R : am_M} (H : INV C R) : (R 17 17 = 0 ∧ C 16 9 = 0 ∧ NR C R) ∨ (R 17 17 = 1 ∧ C 16 9 = 1) := by
  rcases H.2 with N | ⟨h, V, t, H, -⟩
  · exact Or.inl ⟨N.2.2.2.2.1, N.2.2.2.2.2.1, N⟩
  · exact Or.inr ⟨H.2.2.2.2.2.1, H.2.2.2.2.2.2.1⟩
theorem api_feed (w v : Int) : API nX6_feed nX7_feed [(0, w), (1, v)] := by
  intro C R H
  obtain ⟨hR, hh, hn, ho⟩ := INV_hall H
  obtain ⟨g0, g1, g2, g3, g4, g5, g6, g7, g8, g9, g10, g11, g12, g13⟩ := id hh
  have hat := at_w hh hn w
  have hiw := rf_isWeaver w g9 g10
  by_cases cw : 0 ≤ w ∧ w < R 17 0
  · obtain ⟨w0, w1⟩ := cw
    rw [if_pos ⟨w0, w1⟩] at hat hiw
    obtain ⟨x1, x2, x3⟩ := hn.1 w w0 w1
    obtain ⟨hC, hk, ha, k0, k1, a2, a5, a11, a12, a0, a13, ar⟩ := id x2
    have c3 := hC.2.2.2.1
    by_cases k : R 309 w = 0
    · obtain ⟨hrow, h200⟩ := a0 k
      obtain ⟨rl, rl0⟩ := row_len hrow
      clear a2 a5 a11 a12 a0 a13
      rcases INV_run H with ⟨q1, q2, N⟩ | ⟨q1, q2⟩
      · by_cases cf : R 821 w = 200
        · refine ⟨-3, C, R, ?_, ?_, H, cf2_refl C, rfr_refl R⟩
          · show am_evm am_PP nX6_feed [(2, 16), (0, w), (1, v)] C = _
            simp (disch := omega) only [be_X6_feed_m, be_X6_feed_0, be_X6_feed_1, be_X6_feed_3, be_X6_feed_5, be_X6_feed_6, Option.bind_some, cond_true, cond_false, decide_true, decide_false, Bool.not_true, Bool.not_false, ite_true, ite_false, and_self, true_and, and_true, or_self, true_or, or_true, false_or, or_false, decide_eq_true_eq, Int.reduceAdd, Int.reduceSub, Int.reduceMul, Int.reduceNeg, Int.reduceEq, Int.reduceLT, Int.reduceLE, Int.reduceNe, lcmp_z, lcmp_le, lcmp_ge, lcmp_lt, lcmp_gt, decide_eq_true, decide_eq_false, if_pos, if_neg, cls_16, gf_15, gf_16, gf_20, hat, hk, k, q2, c3, rl]
          · show am_evm am_PP nX7_feed [(2, 17), (0, w), (1, v)] R = _
            obtain ⟨r1, r2, r3, r4, r5, r6, r7, r8, r9, r10, r12, r13, r14, r15, r16, r18, r19, r20, r21, r22, r23, r24, r25, r26, r27, r28, r30, r31, r32, r33, r34, r35, r36, r37, r38, r39, r40, r41, r44, r49, r50, r51, r52, r54⟩ := hR
            simp (disch := omega) only [be_X7_feed_m, be_X7_feed_0, be_X7_feed_1, be_X7_feed_3, be_X7_feed_5, be_X7_feed_6, Option.bind_some, cond_true, cond_false, decide_true, decide_false, Bool.not_true, Bool.not_false, ite_true, ite_false, and_self, true_and, and_true, or_self, true_or, or_true, false_or, or_false, decide_eq_true_eq, Int.reduceAdd, Int.reduceSub, Int.reduceMul, Int.reduceNeg, Int.reduceEq, Int.reduceLT, Int.reduceLE, Int.reduceNe, lcmp_z, lcmp_le, lcmp_ge, lcmp_lt, lcmp_gt, decide_eq_true, decide_eq_false, if_pos, if_neg, cls_17, gf_17, hiw, r1, r5, ra_309, ra_821, k, q1, cf]
        · obtain ⟨C', e1, e2, e3⟩ := row_append (v := v) (rok_w w0 (by omega)) hrow (by omega)
          have fC : ∀ L i, ¬ (rt (20 + 256 * w) L) → 0 ≤ L → C' L i = C L i := fun L i p q => e3 L i p (by omega) (by omega)
          have z3 : C' (15 + 256 * w) 3 = 20 + 256 * w := (fC _ _ (by unfold rt; omega) (by omega)).trans c3
          have zl := (row_len e2).1
          have hI := INV_fs (C' := C') (R' := am_up (am_up R 68 (200 * w + R 821 w) v) 821 w (R 821 w + 1)) H.1 N w0 w1 (fun L i q => e3 L i (by unfold rt; unfold tfs at q; omega) (by unfold tfs at q; omega) (by unfold rt; unfold tfs at q; omega)) (fun L i q => by unfold rfs at q; simp (disch := omega) only [am_up_or]) (by
            have u9 : am_up (am_up R 68 (200 * w + R 821 w) v) 821 w (R 821 w + 1) 309 w = R 309 w := by simp (disch := omega) only [am_up_eq, am_up_nl, am_up_ni]
            have u5 : am_up (am_up R 68 (200 * w + R 821 w) v) 821 w (R 821 w + 1) 565 w = R 565 w := by simp (disch := omega) only [am_up_eq, am_up_nl, am_up_ni]
            have u8 : am_up (am_up R 68 (200 * w + R 821 w) v) 821 w (R 821 w + 1) 821 w = R 821 w + 1 := by simp (disch := omega) only [am_up_eq, am_up_nl, am_up_ni]
            unfold sw
            rw [u9, u5, u8, fC _ 6 (by unfold rt; omega) (by omega), fC _ 7 (by unfold rt; omega) (by omega)]
            refine ⟨cshape_congr (fun L i q => fC _ _ (by unfold wst at q; unfold rt; omega) (by unfold wst at q; omega)) hC, hk, ha, k0, k1, fun z => by omega, fun z => by omega, fun z => by omega, fun z => by omega, fun _ => ⟨?_, by omega⟩, fun z => by omega, _, _, e2⟩
            refine row_ext (rok_w w0 (by omega)) e2 (fun _ _ _ => rfl) (fun _ _ => rfl) (fun j j0 j1 _ => ?_)
            show am_up (am_up R 68 (200 * w + R 821 w) v) 821 w (R 821 w + 1) 68 (200 * w + j) = if j = R 821 w then v else R 68 (200 * w + j)
            by_cases z : j = R 821 w
            · rw [if_pos z, am_up_nl _ _ _ _ _ _ (by omega), am_up_at _ _ _ _ _ _ rfl (by omega)]
            · rw [if_neg z, am_up_nl _ _ _ _ _ _ (by omega), am_up_ni _ _ _ _ _ _ (by omega)]) (by omega)
          obtain ⟨i1, i2, i3⟩ := hI
          refine ⟨R 821 w + 1, C', _, ?_, ?_, i1, i2, i3⟩
          · show am_evm am_PP nX6_feed [(2, 16), (0, w), (1, v)] C = _
            simp (disch := omega) only [be_X6_feed_m, be_X6_feed_0, be_X6_feed_1, be_X6_feed_3, be_X6_feed_5, be_X6_feed_7, Option.bind_some, cond_true, cond_false, decide_true, decide_false, Bool.not_true, Bool.not_false, ite_true, ite_false, and_self, true_and, and_true, or_self, true_or, or_true, false_or, or_false, decide_eq_true_eq, Int.reduceAdd, Int.reduceSub, Int.reduceMul, Int.reduceNeg, Int.reduceEq, Int.reduceLT, Int.reduceLE, Int.reduceNe, lcmp_z, lcmp_le, lcmp_ge, lcmp_lt, lcmp_gt, decide_eq_true, decide_eq_false, if_pos, if_neg, cls_16, cls_20, pos_20, gf_15, gf_16, gf_20, hat, hk, k, q2, c3, rl, e1, z3, zl]
          · show am_evm am_PP nX7_feed [(2, 17), (0, w), (1, v)] R = _
            clear i1 i2 i3
            obtain ⟨r1, r2, r3, r4, r5, r6, r7, r8, r9, r10, r12, r13, r14, r15, r16, r18, r19, r20, r21, r22, r23, r24, r25, r26, r27, r28, r30, r31, r32, r33, r34, r35, r36, r37, r38, r39, r40, r41, r44, r49, r50, r51, r52, r54⟩ := hR
            simp (disch := omega) only [be_X7_feed_m, be_X7_feed_0, be_X7_feed_1, be_X7_feed_3, be_X7_feed_5, be_X7_feed_7, Option.bind_some, cond_true, cond_false, decide_true, decide_false, Bool.not_true, Bool.not_false, ite_true, ite_false, and_self, true_and, and_true, or_self, true_or, or_true, false_or, or_false, decide_eq_true_eq, Int.reduceAdd, Int.reduceSub, Int.reduceMul, Int.reduceNeg, Int.reduceEq, Int.reduceLT, Int.reduceLE, Int.reduceNe, lcmp_z, lcmp_le, lcmp_ge, lcmp_lt, lcmp_gt, decide_eq_true, decide_eq_false, if_pos, if_neg, am_up_eq, am_up_nl, am_up_ni, cls_17, gf_17, hiw, r1, r5, r6, ra_309, ra_821, sa_821, sa_68, k, q1, am_w32_ok]
      · refine ⟨-2, C, R, ?_, ?_, H, cf2_refl C, rfr_refl R⟩
        · show am_evm am_PP nX6_feed [(2, 16), (0, w), (1, v)] C = _
          simp (disch := omega) only [be_X6_feed_m, be_X6_feed_0, be_X6_feed_1, be_X6_feed_3, be_X6_feed_4, Option.bind_some, cond_true, cond_false, decide_true, decide_false, Bool.not_true, Bool.not_false, ite_true, ite_false, and_self, true_and, and_true, or_self, true_or, or_true, false_or, or_false, decide_eq_true_eq, Int.reduceAdd, Int.reduceSub, Int.reduceMul, Int.reduceNeg, Int.reduceEq, Int.reduceLT, Int.reduceLE, Int.reduceNe, lcmp_z, lcmp_le, lcmp_ge, lcmp_lt, lcmp_gt, decide_eq_true, decide_eq_false, if_pos, if_neg, cls_16, gf_15, gf_16, hat, hk, k, q2]
        · show am_evm am_PP nX7_feed [(2, 17), (0, w), (1, v)] R = _
          obtain ⟨r1, r2, r3, r4, r5, r6, r7, r8, r9, r10, r12, r13, r14, r15, r16, r18, r19, r20, r21, r22, r23, r24, r25, r26, r27, r28, r30, r31, r32, r33, r34, r35, r36, r37, r38, r39, r40, r41, r44, r49, r50, r51, r52, r54⟩ := hR
          simp (disch := omega) only [be_X7_feed_m, be_X7_feed_0, be_X7_feed_1, be_X7_feed_3, be_X7_feed_4, Option.bind_some, cond_true, cond_false, decide_true, decide_false, Bool.not_true, Bool.not_false, ite_true, ite_false, and_self, true_and, and_true, or_self, true_or, or_true, false_or, or_false, decide_eq_true_eq, Int.reduceAdd, Int.reduceSub, Int.reduceMul, Int.reduceNeg, Int.reduceEq, Int.reduceLT, Int.reduceLE, Int.reduceNe, lcmp_z, lcmp_le, lcmp_ge, lcmp_lt, lcmp_gt, decide_eq_true, decide_eq_false, if_pos, if_neg, cls_17, gf_17, hiw, r1, ra_309, k, q1]
    · clear a2 a5 a11 a12 a0 a13
      refine ⟨-1, C, R, ?_, ?_, H, cf2_refl C, rfr_refl R⟩
      · show am_evm am_PP nX6_feed [(2, 16), (0, w), (1, v)] C = _
        simp (disch := omega) only [be_X6_feed_m, be_X6_feed_0, be_X6_feed_1, be_X6_feed_2, Option.bind_some, cond_true, cond_false, decide_true, decide_false, Bool.not_true, Bool.not_false, ite_true, ite_false, and_self, true_and, and_true, or_self, true_or, or_true, false_or, or_false, decide_eq_true_eq, Int.reduceAdd, Int.reduceSub, Int.reduceMul, Int.reduceNeg, Int.reduceEq, Int.reduceLT, Int.reduceLE, Int.reduceNe, lcmp_z, lcmp_le, lcmp_ge, lcmp_lt, lcmp_gt, decide_eq_true, decide_eq_false, if_pos, if_neg, cls_16, gf_15, hat, hk]
      · show am_evm am_PP nX7_feed [(2, 17), (0, w), (1, v)] R = _
        obtain ⟨r1, r2, r3, r4, r5, r6, r7, r8, r9, r10, r12, r13, r14, r15, r16, r18, r19, r20, r21, r22, r23, r24, r25, r26, r27, r28, r30, r31, r32, r33, r34, r35, r36, r37, r38, r39, r40, r41, r44, r49, r50, r51, r52, r54⟩ := hR
        simp (disch := omega) only [be_X7_feed_m, be_X7_feed_0, be_X7_feed_1, be_X7_feed_2, Option.bind_some, cond_true, cond_false, decide_true, decide_false, Bool.not_true, Bool.not_false, ite_true, ite_false, and_self, true_and, and_true, or_self, true_or, or_true, false_or, or_false, decide_eq_true_eq, Int.reduceAdd, Int.reduceSub, Int.reduceMul, Int.reduceNeg, Int.reduceEq, Int.reduceLT, Int.reduceLE, Int.reduceNe, lcmp_z, lcmp_le, lcmp_ge, lcmp_lt, lcmp_gt, decide_eq_true, decide_eq_false, if_pos, if_neg, cls_17, gf_17, hiw, r1, ra_309]
  · rw [if_neg cw] at hat hiw
    refine ⟨-1, C, R, ?_, ?_, H, cf2_refl C, rfr_refl R⟩
    · show am_evm am_PP nX6_feed [(2, 16), (0, w), (1, v)] C = _
      simp (disch := omega) only [be_X6_feed_m, be_X6_feed_0, be_X6_feed_2, Option.bind_some, cond_true, cond_false, decide_true, decide_false, Bool.not_true, Bool.not_false, ite_true, ite_false, and_self, true_and, and_true, or_self, true_or, or_true, false_or, or_false, decide_eq_true_eq, Int.reduceAdd, Int.reduceSub, Int.reduceMul, Int.reduceNeg, Int.reduceEq, Int.reduceLT, Int.reduceLE, Int.reduceNe, lcmp_z, lcmp_le, lcmp_ge, lcmp_lt, lcmp_gt, decide_eq_true, decide_eq_false, if_pos, if_neg, cls_16, hat]
    · show am_evm am_PP nX7_feed [(2, 17), (0, w), (1, v)] R = _
      simp (disch := omega) only [be_X7_feed_m, be_X7_feed_0, be_X7_feed_2, Option.bind_some, cond_true, cond_false, decide_true, decide_false, Bool.not_true, Bool.not_false, ite_true, ite_false, and_self, true_and, and_true, or_self, true_or, or_true, false_or, or_false, decide_eq_true_eq, Int.reduceAdd, Int.reduceSub, Int.reduceMul, Int.reduceNeg, Int.reduceEq, Int.reduceLT, Int.reduceLE, Int.reduceNe, lcmp_z, lcmp_le, lcmp_ge, lcmp_lt, lcmp_gt, decide_eq_true, decide_eq_false, if_pos, if_neg, cls_17, hiw]
