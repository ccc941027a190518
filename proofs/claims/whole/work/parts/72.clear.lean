/-! clear, reset -/
theorem INV_objs {C R : am_M} (H : INV C R) : objs C 0 0 := by
  obtain ⟨hR, hh, hn, ho⟩ := INV_hall H
  refine ⟨fun w w0 w1 => ?_, fun b b0 b1 => ?_⟩
  · by_cases c : R 17 0 ≤ w
    · exact ho.1 w c w1
    · obtain ⟨x1, x2, x3⟩ := hn.1 w w0 (by omega)
      obtain ⟨hC, -, -, -, -, -, -, -, -, -, -, ar⟩ := x2
      exact Or.inr ⟨x1, hC, ar⟩
  · by_cases c : R 17 11 ≤ b
    · exact ho.2 b c b1
    · refine Or.inr ⟨(hn.2 b b0 (by omega)).1, ?_⟩
      rcases H.2 with N | ⟨h, V, t, H, -⟩
      · exact ⟨_, _, _, _, _, _, _, _, _, _, _, N.2.2.2.2.2.2.2.2.1 b b0 (by omega) (fun _ => 0) 0⟩
      · exact ⟨_, _, _, _, _, _, _, _, _, _, _, (H.2.2.2.2.2.2.2.2.2.2.2.2.2.2.2.2.2.1 b b0 (by omega)).1⟩
theorem api_clear : API nX6_clear nX7_clear [] := by
  intro C R H
  obtain ⟨hR, hh, hn, ho⟩ := INV_hall H
  obtain ⟨g0, g1, g2, g3, g4, g5, g6, g7, g8, g9, g10, g11, g12, g13⟩ := id hh
  have ho := INV_objs H
  have uC : ∀ L i, L ≠ 16 → (am_up (am_up (am_up (am_up (am_up (am_up C 16 4 0) 16 5 0) 16 6 0) 16 9 0) 16 8 0) 16 7 0) L i = C L i := fun L i q => by simp (disch := omega) only [am_up_or]
  have uR : ∀ L i, L ≠ 17 → (am_up (am_up (am_up R 17 0 0) 17 11 0) 17 17 0) L i = R L i := fun L i q => by simp (disch := omega) only [am_up_or]
  have z0 : (am_up (am_up (am_up R 17 0 0) 17 11 0) 17 17 0) 17 0 = 0 := by simp (disch := omega) only [am_up_eq, am_up_nl, am_up_ni]
  have z11 : (am_up (am_up (am_up R 17 0 0) 17 11 0) 17 17 0) 17 11 = 0 := by simp (disch := omega) only [am_up_eq, am_up_nl, am_up_ni]
  have z17 : (am_up (am_up (am_up R 17 0 0) 17 11 0) 17 17 0) 17 17 = 0 := by simp (disch := omega) only [am_up_eq, am_up_nl, am_up_ni]
  refine ⟨R 17 0, am_up (am_up (am_up (am_up (am_up (am_up C 16 4 0) 16 5 0) 16 6 0) 16 9 0) 16 8 0) 16 7 0, am_up (am_up (am_up R 17 0 0) 17 11 0) 17 17 0, ?_, ?_, ⟨?_, Or.inl ⟨?_, ?_, ⟨fun u u0 u1 => ?_, fun d d0 d1 => ?_⟩, ?_, z17, by simp (disch := omega) only [am_up_eq, am_up_nl, am_up_ni], by simp (disch := omega) only [am_up_eq, am_up_nl, am_up_ni], by simp (disch := omega) only [am_up_eq, am_up_nl, am_up_ni], fun d d0 d1 => ?_, fun u u0 u1 => ?_⟩⟩, fun L i q => ?_, fun L i q => ?_⟩
  · show am_evm am_PP nX6_clear [(2, 16)] C = _
    simp (disch := omega) only [be_X6_clear_m, be_X6_clear_0, be_X6_forgetRun_m, be_X6_forgetRun_0, Option.bind_some, cond_true, cond_false, decide_true, decide_false, Bool.not_true, Bool.not_false, ite_true, ite_false, and_self, true_and, and_true, or_self, true_or, or_true, false_or, or_false, decide_eq_true_eq, Int.reduceAdd, Int.reduceSub, Int.reduceMul, Int.reduceNeg, Int.reduceEq, Int.reduceLT, Int.reduceLE, Int.reduceNe, lcmp_z, lcmp_le, lcmp_ge, lcmp_lt, lcmp_gt, gf_16, pf_16, pb0_16, cls_16, g7]
  · show am_evm am_PP nX7_clear [(2, 17)] R = _
    simp (disch := omega) only [be_X7_clear_m, be_X7_clear_0, Option.bind_some, cond_true, cond_false, decide_true, decide_false, Bool.not_true, Bool.not_false, ite_true, ite_false, and_self, true_and, and_true, or_self, true_or, or_true, false_or, or_false, decide_eq_true_eq, Int.reduceAdd, Int.reduceSub, Int.reduceMul, Int.reduceNeg, Int.reduceEq, Int.reduceLT, Int.reduceLE, Int.reduceNe, lcmp_z, lcmp_le, lcmp_ge, lcmp_lt, lcmp_gt, gf_17, pf_17, pb0_17]
  · have e6 : (am_up (am_up (am_up (am_up (am_up (am_up C 16 4 0) 16 5 0) 16 6 0) 16 9 0) 16 8 0) 16 7 0) 16 6 = 0 := by simp (disch := omega) only [am_up_eq, am_up_nl, am_up_ni]
    rw [e6, opc, z0]
    rfl
  · obtain ⟨r1, r2, r3, r4, r5, r6, r7, r8, r9, r10, r12, r13, r14, r15, r16, r18, r19, r20, r21, r22, r23, r24, r25, r26, r27, r28, r30, r31, r32, r33, r34, r35, r36, r37, r38, r39, r40, r41, r44, r49, r50, r51, r52, r54⟩ := hR
    unfold rs
    simp (disch := omega) only [am_up_eq, am_up_nl, am_up_ni]
    exact ⟨r1, r2, r3, r4, r5, r6, r7, r8, r9, r10, r12, r13, r14, r15, r16, r18, r19, r20, r21, r22, r23, r24, r25, r26, r27, r28, r30, r31, r32, r33, r34, r35, r36, r37, r38, r39, r40, r41, r44, r49, r50, r51, r52, r54⟩
  · unfold hall
    rw [z0, z11]
    simp (disch := omega) only [am_up_eq, am_up_nl, am_up_ni]
    exact ⟨g0, g1, g2, g3, g4, g5, g6, trivial, trivial, by omega, by omega, by omega, by omega, g13⟩
  · omega
  · omega
  · rw [z0, z11]
    refine ⟨fun u u0 u1 => ?_, fun d d0 d1 => ?_⟩
    · rw [uC 50 u (by omega)]
      rcases ho.1 u u0 u1 with ⟨x, y⟩ | ⟨x, y, n, f, z⟩
      · exact Or.inl ⟨x, fun L q => (uC _ _ (by omega)).trans (y L q)⟩
      · exact Or.inr ⟨x, cshape_congr (fun L i q => uC _ _ (by unfold wst at q; omega)) y, n, f, row_other u0 u1 (fun L i p => uC _ _ (by unfold rt at p; omega)) (fun L p => uC _ _ (by omega)) z⟩
    · rw [uC 51 d (by omega)]
      rcases ho.2 d d0 d1 with ⟨x, y⟩ | ⟨x, fm, to, td, wn, tw, o, mo, mk, n, V0, t0, z⟩
      · exact Or.inl ⟨x, fun L q => (uC _ _ (by omega)).trans (y L q)⟩
      · exact Or.inr ⟨x, fm, to, td, wn, tw, o, mo, mk, n, V0, t0, bcl_ext d0 d1 z (fun L i q => uC _ _ (by unfold bt at q; omega)) (fun L q => uC _ _ (by omega)) (fun _ _ _ _ => rfl) (fun _ _ _ => rfl)⟩
  · omega
  · omega
  · exact uC _ _ (by unfold FR at q; omega)
  · exact uR _ _ (by unfold FR at q; omega)
theorem api_reset : API nX6_reset nX7_reset [] := by
  intro C R H
  obtain ⟨hR, hh, hn, ho⟩ := INV_hall H
  obtain ⟨g0, g1, g2, g3, g4, g5, g6, g7, g8, g9, g10, g11, g12, g13⟩ := id hh
  rcases H.2 with N | ⟨h, V, t, HR, -⟩
  · have q1 := N.2.2.2.2.1
    have q2 := N.2.2.2.2.2.1
    refine ⟨-2, C, R, ?_, ?_, H, cf2_refl C, rfr_refl R⟩
    · show am_evm am_PP nX6_reset [(2, 16)] C = _
      simp (disch := omega) only [be_X6_reset_m, be_X6_reset_0, be_X6_reset_1, Option.bind_some, cond_true, cond_false, decide_true, decide_false, Bool.not_true, Bool.not_false, ite_true, ite_false, and_self, true_and, and_true, or_self, true_or, or_true, false_or, or_false, decide_eq_true_eq, Int.reduceAdd, Int.reduceSub, Int.reduceMul, Int.reduceNeg, Int.reduceEq, Int.reduceLT, Int.reduceLE, Int.reduceNe, lcmp_z, lcmp_le, lcmp_ge, lcmp_lt, lcmp_gt, gf_16, q2]
    · show am_evm am_PP nX7_reset [(2, 17)] R = _
      simp (disch := omega) only [be_X7_reset_m, be_X7_reset_0, be_X7_reset_1, Option.bind_some, cond_true, cond_false, decide_true, decide_false, Bool.not_true, Bool.not_false, ite_true, ite_false, and_self, true_and, and_true, or_self, true_or, or_true, false_or, or_false, decide_eq_true_eq, Int.reduceAdd, Int.reduceSub, Int.reduceMul, Int.reduceNeg, Int.reduceEq, Int.reduceLT, Int.reduceLE, Int.reduceNe, lcmp_z, lcmp_le, lcmp_ge, lcmp_lt, lcmp_gt, gf_17, q1]
  · have q1 := HR.2.2.2.2.2.1
    have q2 := HR.2.2.2.2.2.2.1
    have q3 := HR.2.2.2.2.2.2.2.1
    have hbr := HR.2.2.2.2.2.2.2.2.2.2.2.2.2.2.2.2.2.1
    have uC : ∀ L i, L ≠ 16 → (am_up (am_up (am_up C 16 9 0) 16 8 0) 16 7 0) L i = C L i := fun L i q => by simp (disch := omega) only [am_up_or]
    have uC6 : ∀ i, i ≤ 6 → (am_up (am_up (am_up C 16 9 0) 16 8 0) 16 7 0) 16 i = C 16 i := fun i q => by simp (disch := omega) only [am_up_or]
    obtain ⟨S, -, a2, -, -, -, -, -, a8⟩ := rf_begin (way := 0) (many := 0) (x := 0) hR g9 g10 g11 g12
    have e : ∀ L i, ¬ rtb L i → S L i = R L i := a2
    have W0 : S 17 0 = R 17 0 := e _ _ (by unfold rtb rbb rww; omega)
    have B0 : S 17 11 = R 17 11 := e _ _ (by unfold rtb rbb rww; omega)
    have hh1 : hall (am_up (am_up (am_up C 16 9 0) 16 8 0) 16 7 0) S := by
      unfold hall
      rw [uC6 0 (by omega), uC6 1 (by omega), uC6 2 (by omega), uC6 3 (by omega), uC6 4 (by omega), uC6 5 (by omega), uC 12 0 (by omega), uC 12 1 (by omega), uC 12 2 (by omega), W0, B0]
      refine ⟨g0, g1, g2, g3, g4, g5, g6, g7, g8, g9, g10, g11, g12, fun j j0 j1 => ?_⟩
      rw [uC 2 j (by omega), uC 3 j (by omega)]
      exact g13 j j0 j1
    have hnS := net_rtb hh a2 hn
    have hn1 : net (am_up (am_up (am_up C 16 9 0) 16 8 0) 16 7 0) S := by
      refine ⟨fun u u0 u1 => ?_, fun d d0 d1 => ?_⟩
      · obtain ⟨x1, x2, x3⟩ := hnS.1 u u0 u1
        refine ⟨(uC _ _ (by omega)).trans x1, sw_congr u0 (by omega) (fun L i q => uC _ _ (by unfold wst at q; omega)) (fun _ _ _ => rfl) (fun _ n f q => row_other u0 (by omega) (fun L i p => uC _ _ (by unfold rt at p; omega)) (fun L p => uC _ _ (by omega)) q) (fun _ => ?_) x2, ?_⟩
        · obtain ⟨_, _, _, _, _, _, _, _, _, _, _, n, f, q⟩ := x2
          exact ⟨n, f, row_other u0 (by omega) (fun L i p => uC _ _ (by unfold rt at p; omega)) (fun L p => uC _ _ (by omega)) q⟩
        · unfold prt
          refine ⟨fun p p0 p1 => ?_, fun p p0 p1 => ?_⟩
          · rw [uC (55 + 256 * u) p (by omega)]; exact x3.1 p p0 p1
          · rw [uC (56 + 256 * u) p (by omega)]; exact x3.2 p p0 p1
      · rw [uC 51 d (by omega)]; exact hnS.2 d d0 d1
    have bs' : ∀ d, S 61 d = R 61 d ∧ S 317 d = R 317 d ∧ S 1085 d = R 1085 d := fun d => ⟨e _ _ (by unfold rtb rbb rww; omega), e _ _ (by unfold rtb rbb rww; omega), e _ _ (by unfold rtb rbb rww; omega)⟩
    obtain ⟨C1, b1, b2, b3, b4⟩ := cl_restartAll hh1 hn1 (fun d p q => by
      obtain ⟨y1, y2, y3⟩ := bs' d
      unfold bst
      rw [y1, y2, y3]
      exact ⟨_, _, _, _, _, _, _, _, bcl_ext p (by omega) (hbr d p (by omega)).1 (fun L i q => uC _ _ (by unfold bt at q; omega)) (fun L q => uC _ _ (by omega)) (fun _ _ _ _ => rfl) (fun _ _ _ => rfl)⟩) (fun u p q => by
      obtain ⟨w, s⟩ := a8 u p (by omega)
      obtain ⟨w1, w2, w3, w4, w5, w6, w7, w8, w9⟩ := w
      exact ⟨w3, w4, w5, w6, w7, w8, s, w9⟩)
    have k : ∀ L j, (∀ w, 0 ≤ w → ¬ twR w L j) → (∀ d, 0 ≤ d → ¬ (bt d L ∨ L = -2 ∨ (L = -1 ∧ bt d j))) → C1 L j = (am_up (am_up (am_up C 16 9 0) 16 8 0) 16 7 0) L j := fun L j p q => b2 _ _ (fun r => r.elim (no_twW p) (no_twB q))
    have kg : ∀ L j, (L = 16 ∨ L = 12 ∨ L = 50 ∨ L = 51 ∨ L = 52 ∨ L = 2 ∨ L = 3) → C1 L j = (am_up (am_up (am_up C 16 9 0) 16 8 0) 16 7 0) L j := fun L j p => k L j (fun w q => by unfold twR twr twa; omega) (fun d q => by unfold bt; omega)
    have kb : ∀ L j, L ≠ 16 → (∀ w, 0 ≤ w → w < S 17 0 → ¬ twR w L j) → (∀ d, 0 ≤ d → d < S 17 11 → ¬ (bt d L ∨ L = -2 ∨ (L = -1 ∧ bt d j))) → C1 L j = C L j := fun L j r p q => (b2 _ _ (fun z => z.elim (fun ⟨w, c1, c2, c3⟩ => p w c1 c2 c3) (fun ⟨w, c1, c2, c3⟩ => q w c1 c2 c3))).trans (uC L j r)
    have uR : ∀ L i, ¬ (L = 17 ∧ i = 17) → am_up R 17 17 0 L i = R L i := fun L i q => am_up_or _ _ _ _ _ _ (by omega)
    have eS : ∀ L i, ¬ rtb L i → am_up R 17 17 0 L i = S L i := fun L i q => (uR L i (by unfold rtb at q; omega)).trans (e L i q).symm
    refine ⟨R 17 42, C1, am_up R 17 17 0, ?_, ?_, ⟨?_, Or.inl ⟨?_, ?_, ⟨fun u u0 u1 => ?_, fun d d0 d1 => ?_⟩, ⟨fun u u0 u1 => ?_, fun d d0 d1 => ?_⟩, am_up_eq _ _ _ _, ?_, ?_, ?_, fun d d0 d1 V t => ?_, fun u u0 u1 => ?_⟩⟩, fun L i q => ?_, fun L i q => uR _ _ (by unfold FR at q; omega)⟩
    · show am_evm am_PP nX6_reset [(2, 16)] C = _
      simp (disch := omega) only [be_X6_reset_m, be_X6_reset_0, be_X6_reset_2, be_X6_forgetRun_m, be_X6_forgetRun_0, Option.bind_some, cond_true, cond_false, decide_true, decide_false, Bool.not_true, Bool.not_false, ite_true, ite_false, and_self, true_and, and_true, or_self, true_or, or_true, false_or, or_false, decide_eq_true_eq, Int.reduceAdd, Int.reduceSub, Int.reduceMul, Int.reduceNeg, Int.reduceEq, Int.reduceLT, Int.reduceLE, Int.reduceNe, lcmp_z, lcmp_le, lcmp_ge, lcmp_lt, lcmp_gt, gf_16, pf_16, pb0_16, cls_16, q2, q3, b1]
    · show am_evm am_PP nX7_reset [(2, 17)] R = _
      simp (disch := omega) only [be_X7_reset_m, be_X7_reset_0, be_X7_reset_2, Option.bind_some, cond_true, cond_false, decide_true, decide_false, Bool.not_true, Bool.not_false, ite_true, ite_false, and_self, true_and, and_true, or_self, true_or, or_true, false_or, or_false, decide_eq_true_eq, Int.reduceAdd, Int.reduceSub, Int.reduceMul, Int.reduceNeg, Int.reduceEq, Int.reduceLT, Int.reduceLE, Int.reduceNe, lcmp_z, lcmp_le, lcmp_ge, lcmp_lt, lcmp_gt, am_up_eq, am_up_nl, am_up_ni, gf_17, pb0_17, q1]
    · rw [kg 16 6 (by omega), uC6 6 (by omega), H.1]
      exact (opc_same (uR _ _ (by omega)) (fun i => uR _ _ (by omega)) (fun i => uR _ _ (by omega)) (fun i => uR _ _ (by omega))).symm
    · obtain ⟨r1, r2, r3, r4, r5, r6, r7, r8, r9, r10, r12, r13, r14, r15, r16, r18, r19, r20, r21, r22, r23, r24, r25, r26, r27, r28, r30, r31, r32, r33, r34, r35, r36, r37, r38, r39, r40, r41, r44, r49, r50, r51, r52, r54⟩ := hR
      unfold rs
      simp (disch := omega) only [am_up_eq, am_up_nl, am_up_ni]
      exact ⟨r1, r2, r3, r4, r5, r6, r7, r8, r9, r10, r12, r13, r14, r15, r16, r18, r19, r20, r21, r22, r23, r24, r25, r26, r27, r28, r30, r31, r32, r33, r34, r35, r36, r37, r38, r39, r40, r41, r44, r49, r50, r51, r52, r54⟩
    · unfold hall
      rw [kg 16 0 (by omega), kg 16 1 (by omega), kg 16 2 (by omega), kg 16 3 (by omega), kg 16 4 (by omega), kg 16 5 (by omega), kg 12 0 (by omega), kg 12 1 (by omega), kg 12 2 (by omega), uC6 0 (by omega), uC6 1 (by omega), uC6 2 (by omega), uC6 3 (by omega), uC6 4 (by omega), uC6 5 (by omega), uC 12 0 (by omega), uC 12 1 (by omega), uC 12 2 (by omega), uR 17 0 (by omega), uR 17 11 (by omega)]
      refine ⟨g0, g1, g2, g3, g4, g5, g6, g7, g8, g9, g10, g11, g12, fun j j0 j1 => ?_⟩
      rw [kg 2 j (by omega), kg 3 j (by omega), uC 2 j (by omega), uC 3 j (by omega)]
      exact g13 j j0 j1
    · rw [uR 17 0 (by omega)] at u1
      obtain ⟨x1, x2, x3⟩ := hn.1 u u0 u1
      refine ⟨?_, sw_congr u0 (by omega) (fun _ _ _ => rfl) (fun L i q => eS _ _ (by unfold rcs at q; unfold rtb rbb rww; omega)) (fun _ n f q => q) (fun _ => ?_) (b3 u u0 (by omega)).1, ?_⟩
      · rw [kg 50 u (by omega), uC 50 u (by omega)]; exact x1
      · obtain ⟨_, _, _, _, _, _, _, _, _, _, _, n, f, q⟩ := (b3 u u0 (by omega)).1
        exact ⟨n, f, q⟩
      · unfold prt
        refine ⟨fun p p0 p1 => ?_, fun p p0 p1 => ?_⟩
        · rw [k (55 + 256 * u) p (fun w r => by unfold twR twr twa; omega) (fun d r => by unfold bt; omega), uC (55 + 256 * u) p (by omega), uR 63 _ (by omega), uR 317 _ (by omega), uR 17 11 (by omega)]; exact x3.1 p p0 p1
        · rw [k (56 + 256 * u) p (fun w r => by unfold twR twr twa; omega) (fun d r => by unfold bt; omega), uC (56 + 256 * u) p (by omega), uR 62 _ (by omega), uR 61 _ (by omega), uR 17 11 (by omega)]; exact x3.2 p p0 p1
    · rw [uR 17 11 (by omega)] at d1
      rw [kg 51 d (by omega), uC 51 d (by omega), uR 61 _ (by omega), uR 317 _ (by omega), uR 1085 _ (by omega), uR 17 0 (by omega)]
      exact hn.2 d d0 d1
    · rw [uR 17 0 (by omega)] at u0
      rw [kg 50 u (by omega), uC 50 u (by omega)]
      rcases ho.1 u u0 u1 with ⟨x, y⟩ | ⟨x, y, n, f, z⟩
      · exact Or.inl ⟨x, fun L q => (kb _ _ (by omega) (fun w r1 r2 => by unfold wlab at q; unfold twR twr twa; omega) (fun d r1 r2 => by unfold wlab at q; unfold bt; omega)).trans (y L q)⟩
      · refine Or.inr ⟨x, cshape_congr (fun L i q => kb _ _ (by unfold wst at q; omega) (fun w r1 r2 => by unfold wst at q; unfold twR twr twa; omega) (fun d r1 r2 => by unfold wst at q; unfold bt; omega)) y, n, f, ?_⟩
        exact row_other (by omega) u1 (fun L i p => kb _ _ (by unfold rt at p; omega) (fun w r1 r2 => by unfold rt at p; unfold twR twr twa; omega) (fun d r1 r2 => by unfold rt at p; unfold bt; omega)) (fun L p => kb _ _ (by omega) (fun w r1 r2 => by unfold rt at p; unfold twR twr twa; omega) (fun d r1 r2 => by unfold rt at p; unfold bt; omega)) z
    · rw [uR 17 11 (by omega)] at d0
      rw [kg 51 d (by omega), uC 51 d (by omega)]
      rcases ho.2 d d0 d1 with ⟨x, y⟩ | ⟨x, fm, to, td, wn, tw, o, mo, mk, n, V0, t0, z⟩
      · exact Or.inl ⟨x, fun L q => (kb _ _ (by omega) (fun w r1 r2 => by unfold bt at q; unfold twR twr twa; omega) (fun d r1 r2 => by unfold bt at q ⊢; omega)).trans (y L q)⟩
      · exact Or.inr ⟨x, fm, to, td, wn, tw, o, mo, mk, n, V0, t0, bcl_ext (by omega) d1 z (fun L i q => kb _ _ (by unfold bt at q; omega) (fun w r1 r2 => by unfold bt at q; unfold twR twr twa; omega) (fun d r1 r2 => by unfold bt at q ⊢; omega)) (fun L q => kb _ _ (by omega) (fun w r1 r2 => by unfold bt at q; unfold twR twr twa; omega) (fun d r1 r2 => by unfold bt at q ⊢; omega)) (fun _ _ _ _ => rfl) (fun _ _ _ => rfl)⟩
    · rw [kg 16 9 (by omega)]; exact by simp (disch := omega) only [am_up_eq, am_up_nl, am_up_ni]
    · rw [kg 16 7 (by omega)]; exact by simp (disch := omega) only [am_up_eq, am_up_nl, am_up_ni]
    · rw [kg 16 8 (by omega)]; exact by simp (disch := omega) only [am_up_eq, am_up_nl, am_up_ni]
    · rw [uR 17 11 (by omega)] at d1
      obtain ⟨y1, y2, y3⟩ := bs' d
      rw [uR 61 _ (by omega), uR 317 _ (by omega), uR 1085 _ (by omega), ← y1, ← y2, ← y3]
      exact b4 d d0 (by omega) V t
    · rw [uR 17 0 (by omega)] at u1
      obtain ⟨sw1, m1, m2, m3, m4, m5⟩ := b3 u u0 (by omega)
      have hp := (ws_port sw1 m5).1
      refine ⟨m1, m2, by omega, by omega, fun k9 => ?_⟩
      rw [uR 309 _ (by omega), ← e 309 u (by unfold rtb rbb rww; omega)] at k9
      exact (row_len (m4 k9 (fun _ => 0))).1
    · exact (k L i (fun w r => by unfold FR at q; unfold twR twr twa; omega) (fun d r => by unfold FR at q; unfold bt; omega)).trans (uC _ _ (by unfold FR at q; omega))
