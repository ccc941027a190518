/-! count -/
theorem INV_bnd {C R : am_M} (H : INV C R) : bnd C R (R 17 0) (R 17 11) := by
  obtain ⟨hR, hh, hn, ho⟩ := INV_hall H
  intro d d0 d1
  obtain ⟨x1, x2, x3, x4, x5, x6, x7⟩ := hn.2 d d0 d1
  have nf := (hn.1 _ x2 x3).2.1.1.1
  have nt := (hn.1 _ x4 x5).2.1.1.1
  rcases H.2 with N | ⟨h, V, t, H, -⟩
  · obtain ⟨_, _, z2, z3, _⟩ := N.2.2.2.2.2.2.2.2.1 d d0 d1 (fun _ => 0) 0
    exact ⟨x1, z2, z3, nf, nt, x2, x3, x4, x5⟩
  · obtain ⟨⟨_, _, z2, z3, _⟩, _⟩ := H.2.2.2.2.2.2.2.2.2.2.2.2.2.2.2.2.2.1 d d0 d1
    exact ⟨x1, z2, z3, nf, nt, x2, x3, x4, x5⟩
theorem api_count (x : Int) : API nX6_count nX7_count [(0, x)] := by
  intro C R H
  obtain ⟨hR, hh, hn, ho⟩ := INV_hall H
  obtain ⟨g0, g1, g2, g3, g4, g5, g6, g7, g8, g9, g10, g11, g12, g13⟩ := id hh
  have same : (∃ v, am_evm am_PP nX6_count [(2, 16), (0, x)] C = some (v, C) ∧ am_evm am_PP nX7_count [(2, 17), (0, x)] R = some (v, R)) → ∃ ans C' R', am_evm am_PP nX6_count ((2, 16) :: [(0, x)]) C = some (ans, C') ∧ am_evm am_PP nX7_count ((2, 17) :: [(0, x)]) R = some (ans, R') ∧ INV C' R' ∧ cf2 C C' ∧ rfr R R' := by
    rintro ⟨v, a, b⟩
    exact ⟨v, C, R, a, b, H, cf2_refl C, rfr_refl R⟩
  by_cases x0 : x = 0
  · subst x0
    refine same ⟨R 17 0, ?_, ?_⟩
    · simp (disch := omega) only [be_X6_count_m, be_X6_count_0, be_X6_count_1, Option.bind_some, cond_true, cond_false, decide_true, decide_false, Bool.not_true, Bool.not_false, ite_true, ite_false, and_self, true_and, and_true, or_self, true_or, or_true, false_or, or_false, decide_eq_true_eq, Int.reduceAdd, Int.reduceSub, Int.reduceMul, Int.reduceNeg, Int.reduceEq, Int.reduceLT, Int.reduceLE, Int.reduceNe, lcmp_z, lcmp_le, lcmp_ge, lcmp_lt, lcmp_gt, gf_16, g7]
    · simp (disch := omega) only [be_X7_count_m, be_X7_count_0, be_X7_count_1, Option.bind_some, cond_true, cond_false, decide_true, decide_false, Bool.not_true, Bool.not_false, ite_true, ite_false, and_self, true_and, and_true, or_self, true_or, or_true, false_or, or_false, decide_eq_true_eq, Int.reduceAdd, Int.reduceSub, Int.reduceMul, Int.reduceNeg, Int.reduceEq, Int.reduceLT, Int.reduceLE, Int.reduceNe, lcmp_z, lcmp_le, lcmp_ge, lcmp_lt, lcmp_gt, gf_17]
  by_cases x1 : x = 1
  · subst x1
    refine same ⟨R 17 11, ?_, ?_⟩
    · simp (disch := omega) only [be_X6_count_m, be_X6_count_0, be_X6_count_2, Option.bind_some, cond_true, cond_false, decide_true, decide_false, Bool.not_true, Bool.not_false, ite_true, ite_false, and_self, true_and, and_true, or_self, true_or, or_true, false_or, or_false, decide_eq_true_eq, Int.reduceAdd, Int.reduceSub, Int.reduceMul, Int.reduceNeg, Int.reduceEq, Int.reduceLT, Int.reduceLE, Int.reduceNe, lcmp_z, lcmp_le, lcmp_ge, lcmp_lt, lcmp_gt, gf_16, g8]
    · simp (disch := omega) only [be_X7_count_m, be_X7_count_0, be_X7_count_2, Option.bind_some, cond_true, cond_false, decide_true, decide_false, Bool.not_true, Bool.not_false, ite_true, ite_false, and_self, true_and, and_true, or_self, true_or, or_true, false_or, or_false, decide_eq_true_eq, Int.reduceAdd, Int.reduceSub, Int.reduceMul, Int.reduceNeg, Int.reduceEq, Int.reduceLT, Int.reduceLE, Int.reduceNe, lcmp_z, lcmp_le, lcmp_ge, lcmp_lt, lcmp_gt, gf_17]
  by_cases x2 : x = 2
  · subst x2
    rcases H.2 with N | ⟨h, V, t, HR, -⟩
    · have q1 := N.2.2.2.2.1
      have q4 := N.2.2.2.2.2.2.2.1
      refine same ⟨0, ?_, ?_⟩
      · simp (disch := omega) only [be_X6_count_m, be_X6_count_0, be_X6_count_3, Option.bind_some, cond_true, cond_false, decide_true, decide_false, Bool.not_true, Bool.not_false, ite_true, ite_false, and_self, true_and, and_true, or_self, true_or, or_true, false_or, or_false, decide_eq_true_eq, Int.reduceAdd, Int.reduceSub, Int.reduceMul, Int.reduceNeg, Int.reduceEq, Int.reduceLT, Int.reduceLE, Int.reduceNe, lcmp_z, lcmp_le, lcmp_ge, lcmp_lt, lcmp_gt, gf_16, q4]
      · simp (disch := omega) only [be_X7_count_m, be_X7_count_0, be_X7_count_3, be_X7_count_5, be_X7_count_6, Option.bind_some, cond_true, cond_false, decide_true, decide_false, Bool.not_true, Bool.not_false, ite_true, ite_false, and_self, true_and, and_true, or_self, true_or, or_true, false_or, or_false, decide_eq_true_eq, Int.reduceAdd, Int.reduceSub, Int.reduceMul, Int.reduceNeg, Int.reduceEq, Int.reduceLT, Int.reduceLE, Int.reduceNe, lcmp_z, lcmp_le, lcmp_ge, lcmp_lt, lcmp_gt, gf_17, q1]
    · have q1 := HR.2.2.2.2.2.1
      have q4 := HR.2.2.2.2.2.2.2.1
      refine same ⟨R 17 42, ?_, ?_⟩
      · simp (disch := omega) only [be_X6_count_m, be_X6_count_0, be_X6_count_3, Option.bind_some, cond_true, cond_false, decide_true, decide_false, Bool.not_true, Bool.not_false, ite_true, ite_false, and_self, true_and, and_true, or_self, true_or, or_true, false_or, or_false, decide_eq_true_eq, Int.reduceAdd, Int.reduceSub, Int.reduceMul, Int.reduceNeg, Int.reduceEq, Int.reduceLT, Int.reduceLE, Int.reduceNe, lcmp_z, lcmp_le, lcmp_ge, lcmp_lt, lcmp_gt, gf_16, q4]
      · simp (disch := omega) only [be_X7_count_m, be_X7_count_0, be_X7_count_3, be_X7_count_4, be_X7_count_6, Option.bind_some, cond_true, cond_false, decide_true, decide_false, Bool.not_true, Bool.not_false, ite_true, ite_false, and_self, true_and, and_true, or_self, true_or, or_true, false_or, or_false, decide_eq_true_eq, Int.reduceAdd, Int.reduceSub, Int.reduceMul, Int.reduceNeg, Int.reduceEq, Int.reduceLT, Int.reduceLE, Int.reduceNe, lcmp_z, lcmp_le, lcmp_ge, lcmp_lt, lcmp_gt, gf_17, q1]
  by_cases x3 : x = 3
  · subst x3
    rcases H.2 with N | ⟨h, V, t, HR, -⟩
    · have q1 := N.2.2.2.2.1
      have q4 := N.2.2.2.2.2.2.1
      refine same ⟨0, ?_, ?_⟩
      · simp (disch := omega) only [be_X6_count_m, be_X6_count_0, be_X6_count_4, Option.bind_some, cond_true, cond_false, decide_true, decide_false, Bool.not_true, Bool.not_false, ite_true, ite_false, and_self, true_and, and_true, or_self, true_or, or_true, false_or, or_false, decide_eq_true_eq, Int.reduceAdd, Int.reduceSub, Int.reduceMul, Int.reduceNeg, Int.reduceEq, Int.reduceLT, Int.reduceLE, Int.reduceNe, lcmp_z, lcmp_le, lcmp_ge, lcmp_lt, lcmp_gt, gf_16, q4]
      · simp (disch := omega) only [be_X7_count_m, be_X7_count_0, be_X7_count_7, be_X7_count_9, be_X7_count_10, Option.bind_some, cond_true, cond_false, decide_true, decide_false, Bool.not_true, Bool.not_false, ite_true, ite_false, and_self, true_and, and_true, or_self, true_or, or_true, false_or, or_false, decide_eq_true_eq, Int.reduceAdd, Int.reduceSub, Int.reduceMul, Int.reduceNeg, Int.reduceEq, Int.reduceLT, Int.reduceLE, Int.reduceNe, lcmp_z, lcmp_le, lcmp_ge, lcmp_lt, lcmp_gt, gf_17, q1]
    · have q1 := HR.2.2.2.2.2.1
      have q4 := HR.2.2.2.2.2.2.2.2.1
      refine same ⟨R 17 43, ?_, ?_⟩
      · simp (disch := omega) only [be_X6_count_m, be_X6_count_0, be_X6_count_4, Option.bind_some, cond_true, cond_false, decide_true, decide_false, Bool.not_true, Bool.not_false, ite_true, ite_false, and_self, true_and, and_true, or_self, true_or, or_true, false_or, or_false, decide_eq_true_eq, Int.reduceAdd, Int.reduceSub, Int.reduceMul, Int.reduceNeg, Int.reduceEq, Int.reduceLT, Int.reduceLE, Int.reduceNe, lcmp_z, lcmp_le, lcmp_ge, lcmp_lt, lcmp_gt, gf_16, q4]
      · simp (disch := omega) only [be_X7_count_m, be_X7_count_0, be_X7_count_7, be_X7_count_8, be_X7_count_10, Option.bind_some, cond_true, cond_false, decide_true, decide_false, Bool.not_true, Bool.not_false, ite_true, ite_false, and_self, true_and, and_true, or_self, true_or, or_true, false_or, or_false, decide_eq_true_eq, Int.reduceAdd, Int.reduceSub, Int.reduceMul, Int.reduceNeg, Int.reduceEq, Int.reduceLT, Int.reduceLE, Int.reduceNe, lcmp_z, lcmp_le, lcmp_ge, lcmp_lt, lcmp_gt, gf_17, q1]
  by_cases x4 : x = 4
  · subst x4
    have hw := rf_isWhole hR g9 g10
    have h6 := H.1
    by_cases c : opc R = 0
    · rw [if_pos c] at hw
      rw [c] at h6
      refine same ⟨1, ?_, ?_⟩
      · simp (disch := omega) only [be_X6_count_m, be_X6_count_0, be_X6_count_5, be_X6_count_6, be_X6_count_8, Option.bind_some, cond_true, cond_false, decide_true, decide_false, Bool.not_true, Bool.not_false, ite_true, ite_false, and_self, true_and, and_true, or_self, true_or, or_true, false_or, or_false, decide_eq_true_eq, Int.reduceAdd, Int.reduceSub, Int.reduceMul, Int.reduceNeg, Int.reduceEq, Int.reduceLT, Int.reduceLE, Int.reduceNe, lcmp_z, lcmp_le, lcmp_ge, lcmp_lt, lcmp_gt, gf_16, h6]
      · simp (disch := omega) only [be_X7_count_m, be_X7_count_0, be_X7_count_11, be_X7_count_12, be_X7_count_14, Option.bind_some, cond_true, cond_false, decide_true, decide_false, Bool.not_true, Bool.not_false, ite_true, ite_false, and_self, true_and, and_true, or_self, true_or, or_true, false_or, or_false, decide_eq_true_eq, Int.reduceAdd, Int.reduceSub, Int.reduceMul, Int.reduceNeg, Int.reduceEq, Int.reduceLT, Int.reduceLE, Int.reduceNe, lcmp_z, lcmp_le, lcmp_ge, lcmp_lt, lcmp_gt, cls_17, hw]
    · rw [if_neg c] at hw
      refine same ⟨0, ?_, ?_⟩
      · simp (disch := omega) only [be_X6_count_m, be_X6_count_0, be_X6_count_5, be_X6_count_7, be_X6_count_8, Option.bind_some, cond_true, cond_false, decide_true, decide_false, Bool.not_true, Bool.not_false, ite_true, ite_false, and_self, true_and, and_true, or_self, true_or, or_true, false_or, or_false, decide_eq_true_eq, Int.reduceAdd, Int.reduceSub, Int.reduceMul, Int.reduceNeg, Int.reduceEq, Int.reduceLT, Int.reduceLE, Int.reduceNe, lcmp_z, lcmp_le, lcmp_ge, lcmp_lt, lcmp_gt, gf_16, h6, decide_eq_false c]
      · simp (disch := omega) only [be_X7_count_m, be_X7_count_0, be_X7_count_11, be_X7_count_13, be_X7_count_14, Option.bind_some, cond_true, cond_false, decide_true, decide_false, Bool.not_true, Bool.not_false, ite_true, ite_false, and_self, true_and, and_true, or_self, true_or, or_true, false_or, or_false, decide_eq_true_eq, Int.reduceAdd, Int.reduceSub, Int.reduceMul, Int.reduceNeg, Int.reduceEq, Int.reduceLT, Int.reduceLE, Int.reduceNe, lcmp_z, lcmp_le, lcmp_ge, lcmp_lt, lcmp_gt, cls_17, hw]
  by_cases x5 : x = 5
  · subst x5
    rcases INV_run H with ⟨q1, q2, _⟩ | ⟨q1, q2⟩
    · refine same ⟨0, ?_, ?_⟩
      · simp (disch := omega) only [be_X6_count_m, be_X6_count_0, be_X6_count_9, be_X6_count_11, be_X6_count_12, Option.bind_some, cond_true, cond_false, decide_true, decide_false, Bool.not_true, Bool.not_false, ite_true, ite_false, and_self, true_and, and_true, or_self, true_or, or_true, false_or, or_false, decide_eq_true_eq, Int.reduceAdd, Int.reduceSub, Int.reduceMul, Int.reduceNeg, Int.reduceEq, Int.reduceLT, Int.reduceLE, Int.reduceNe, lcmp_z, lcmp_le, lcmp_ge, lcmp_lt, lcmp_gt, gf_16, q2]
      · simp (disch := omega) only [be_X7_count_m, be_X7_count_0, be_X7_count_15, be_X7_count_17, be_X7_count_18, Option.bind_some, cond_true, cond_false, decide_true, decide_false, Bool.not_true, Bool.not_false, ite_true, ite_false, and_self, true_and, and_true, or_self, true_or, or_true, false_or, or_false, decide_eq_true_eq, Int.reduceAdd, Int.reduceSub, Int.reduceMul, Int.reduceNeg, Int.reduceEq, Int.reduceLT, Int.reduceLE, Int.reduceNe, lcmp_z, lcmp_le, lcmp_ge, lcmp_lt, lcmp_gt, gf_17, q1]
    · refine same ⟨1, ?_, ?_⟩
      · simp (disch := omega) only [be_X6_count_m, be_X6_count_0, be_X6_count_9, be_X6_count_10, be_X6_count_12, Option.bind_some, cond_true, cond_false, decide_true, decide_false, Bool.not_true, Bool.not_false, ite_true, ite_false, and_self, true_and, and_true, or_self, true_or, or_true, false_or, or_false, decide_eq_true_eq, Int.reduceAdd, Int.reduceSub, Int.reduceMul, Int.reduceNeg, Int.reduceEq, Int.reduceLT, Int.reduceLE, Int.reduceNe, lcmp_z, lcmp_le, lcmp_ge, lcmp_lt, lcmp_gt, gf_16, q2]
      · simp (disch := omega) only [be_X7_count_m, be_X7_count_0, be_X7_count_15, be_X7_count_16, be_X7_count_18, Option.bind_some, cond_true, cond_false, decide_true, decide_false, Bool.not_true, Bool.not_false, ite_true, ite_false, and_self, true_and, and_true, or_self, true_or, or_true, false_or, or_false, decide_eq_true_eq, Int.reduceAdd, Int.reduceSub, Int.reduceMul, Int.reduceNeg, Int.reduceEq, Int.reduceLT, Int.reduceLE, Int.reduceNe, lcmp_z, lcmp_le, lcmp_ge, lcmp_lt, lcmp_gt, gf_17, q1]
  by_cases x6 : x = 6
  · subst x6
    have hb := INV_bnd H
    obtain ⟨R', k1, k2, k3, k4⟩ := rf_findParts hR g9 g10 g11 g12 hb
    obtain ⟨C', m1, m2, m3⟩ := cl_findParts (C := C) (R := R) (W := R 17 0) (B := (R 17 11).toNat) g9 g10 (by omega) (by rw [show (((R 17 11).toNat : Nat) : Int) = R 17 11 by omega]; exact hb) g4
    rw [show (((R 17 11).toNat : Nat) : Int) = R 17 11 by omega] at m1
    refine ⟨npr (psn R (R 17 11).toNat (R 17 0).toNat idp) (R 17 0).toNat 0 0, C', R', ?_, ?_, ?_, fun L i q => m2 L i (by unfold FR at q; omega), fun L i q => k3 L i (by unfold FR at q; omega) (by unfold FR at q; omega)⟩
    · show am_evm am_PP nX6_count [(2, 16), (0, 6)] C = _
      simp (disch := omega) only [be_X6_count_m, be_X6_count_0, be_X6_count_13, Option.bind_some, cond_true, cond_false, decide_true, decide_false, Bool.not_true, Bool.not_false, ite_true, ite_false, and_self, true_and, and_true, or_self, true_or, or_true, false_or, or_false, decide_eq_true_eq, Int.reduceAdd, Int.reduceSub, Int.reduceMul, Int.reduceNeg, Int.reduceEq, Int.reduceLT, Int.reduceLE, Int.reduceNe, lcmp_z, lcmp_le, lcmp_ge, lcmp_lt, lcmp_gt, gf_16, cls_12, g1, g3, g7, g8, m1]
    · show am_evm am_PP nX7_count [(2, 17), (0, 6)] R = _
      simp (disch := omega) only [be_X7_count_m, be_X7_count_0, be_X7_count_19, Option.bind_some, cond_true, cond_false, decide_true, decide_false, Bool.not_true, Bool.not_false, ite_true, ite_false, and_self, true_and, and_true, or_self, true_or, or_true, false_or, or_false, decide_eq_true_eq, Int.reduceAdd, Int.reduceSub, Int.reduceMul, Int.reduceNeg, Int.reduceEq, Int.reduceLT, Int.reduceLE, Int.reduceNe, lcmp_z, lcmp_le, lcmp_ge, lcmp_lt, lcmp_gt, gf_17, cls_17, k1, k2]
    · exact INV_cong (fun L i q => m2 L i q.2.1) (fun L i q => k3 L i q.2.1 q.2.2.2.2.2) H
  · refine same ⟨-1, ?_, ?_⟩
    · simp (disch := omega) only [be_X6_count_m, be_X6_count_0, be_X6_count_14, Option.bind_some, cond_true, cond_false, decide_true, decide_false, Bool.not_true, Bool.not_false, ite_true, ite_false, and_self, true_and, and_true, or_self, true_or, or_true, false_or, or_false, decide_eq_true_eq, Int.reduceAdd, Int.reduceSub, Int.reduceMul, Int.reduceNeg, Int.reduceEq, Int.reduceLT, Int.reduceLE, Int.reduceNe, lcmp_z, lcmp_le, lcmp_ge, lcmp_lt, lcmp_gt, decide_eq_false x0, decide_eq_false x1, decide_eq_false x2, decide_eq_false x3, decide_eq_false x4, decide_eq_false x5, decide_eq_false x6]
    · simp (disch := omega) only [be_X7_count_m, be_X7_count_0, be_X7_count_20, Option.bind_some, cond_true, cond_false, decide_true, decide_false, Bool.not_true, Bool.not_false, ite_true, ite_false, and_self, true_and, and_true, or_self, true_or, or_true, false_or, or_false, decide_eq_true_eq, Int.reduceAdd, Int.reduceSub, Int.reduceMul, Int.reduceNeg, Int.reduceEq, Int.reduceLT, Int.reduceLE, Int.reduceNe, lcmp_z, lcmp_le, lcmp_ge, lcmp_lt, lcmp_gt, decide_eq_false x0, decide_eq_false x1, decide_eq_false x2, decide_eq_false x3, decide_eq_false x4, decide_eq_false x5, decide_eq_false x6]
