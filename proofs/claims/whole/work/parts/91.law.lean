/-! the law's loop -/
theorem lcmp_refl (x : Int) : am_lcmp x x = 0 := by unfold am_lcmp; rw [if_neg (by omega), if_pos rfl]
def lcase (M : am_M) (i : Int) (b : Nat) : Prop := ∃ M2, am_ev am_PP nL_law b [1, 16, 17, i] [] M = am_ev am_PP nL_law 37 [1, 16, 17, i] [] M2 ∧ INV M2 M2 ∧ ∀ j, M2 1 j = M 1 j
theorem lc_weaver {M : am_M} {i : Int} (H : INV M M) (i0 : 0 ≤ i) (i1 : i + 6 ≤ M 1 (-1)) (i2 : M 1 (-1) ≤ 3072) : lcase M i 3 := by
  obtain ⟨ans, M1, M2, e1, e2, e3, e4, e5⟩ := api_one (api_weaver (M 1 (i + 1)) (M 1 (i + 2))) H
  refine ⟨M2, ?_, e3, e5⟩
  simp (disch := first | omega | (simp (disch := omega) only [e4]; omega)) only [be_L_law_3, Option.bind_some, cond_true, cond_false, decide_true, decide_false, Bool.not_true, Bool.not_false, ite_true, ite_false, and_self, true_and, and_true, or_self, true_or, or_true, false_or, or_false, decide_eq_true_eq, Int.reduceAdd, Int.reduceSub, Int.reduceMul, Int.reduceNeg, Int.reduceEq, Int.reduceLT, Int.reduceLE, Int.reduceNe, lcmp_z, lcmp_le, lcmp_ge, lcmp_lt, lcmp_gt, am_ald_scr, am_w32_ok, cls_16, cls_17, e4, e1, e2, lcmp_refl, eq_self]
theorem lc_feed {M : am_M} {i : Int} (H : INV M M) (i0 : 0 ≤ i) (i1 : i + 6 ≤ M 1 (-1)) (i2 : M 1 (-1) ≤ 3072) : lcase M i 5 := by
  obtain ⟨ans, M1, M2, e1, e2, e3, e4, e5⟩ := api_one (api_feed (M 1 (i + 1)) (am_lor (am_lshl (M 1 (i + 2)) 32) (am_land (M 1 (i + 3)) 4294967295))) H
  refine ⟨M2, ?_, e3, e5⟩
  simp (disch := first | omega | (simp (disch := omega) only [e4]; omega)) only [be_L_law_5, Option.bind_some, cond_true, cond_false, decide_true, decide_false, Bool.not_true, Bool.not_false, ite_true, ite_false, and_self, true_and, and_true, or_self, true_or, or_true, false_or, or_false, decide_eq_true_eq, Int.reduceAdd, Int.reduceSub, Int.reduceMul, Int.reduceNeg, Int.reduceEq, Int.reduceLT, Int.reduceLE, Int.reduceNe, lcmp_z, lcmp_le, lcmp_ge, lcmp_lt, lcmp_gt, am_ald_scr, am_w32_ok, cls_16, cls_17, e4, e1, e2, lcmp_refl, eq_self]
theorem lc_step {M : am_M} {i : Int} (H : INV M M) (i0 : 0 ≤ i) (i1 : i + 6 ≤ M 1 (-1)) (i2 : M 1 (-1) ≤ 3072) : lcase M i 7 := by
  obtain ⟨ans, M1, M2, e1, e2, e3, e4, e5⟩ := api_one (api_step (M 1 (i + 1)) (M 1 (i + 2)) (M 1 (i + 3)) (M 1 (i + 4))) H
  refine ⟨M2, ?_, e3, e5⟩
  simp (disch := first | omega | (simp (disch := omega) only [e4]; omega)) only [be_L_law_7, Option.bind_some, cond_true, cond_false, decide_true, decide_false, Bool.not_true, Bool.not_false, ite_true, ite_false, and_self, true_and, and_true, or_self, true_or, or_true, false_or, or_false, decide_eq_true_eq, Int.reduceAdd, Int.reduceSub, Int.reduceMul, Int.reduceNeg, Int.reduceEq, Int.reduceLT, Int.reduceLE, Int.reduceNe, lcmp_z, lcmp_le, lcmp_ge, lcmp_lt, lcmp_gt, am_ald_scr, am_w32_ok, cls_16, cls_17, e4, e1, e2, lcmp_refl, eq_self]
theorem lc_band {M : am_M} {i : Int} (H : INV M M) (i0 : 0 ≤ i) (i1 : i + 6 ≤ M 1 (-1)) (i2 : M 1 (-1) ≤ 3072) : lcase M i 9 := by
  obtain ⟨ans, M1, M2, e1, e2, e3, e4, e5⟩ := api_one (api_band (M 1 (i + 1)) (M 1 (i + 2)) (M 1 (i + 3)) (M 1 (i + 4)) (M 1 (i + 5))) H
  refine ⟨M2, ?_, e3, e5⟩
  simp (disch := first | omega | (simp (disch := omega) only [e4]; omega)) only [be_L_law_9, Option.bind_some, cond_true, cond_false, decide_true, decide_false, Bool.not_true, Bool.not_false, ite_true, ite_false, and_self, true_and, and_true, or_self, true_or, or_true, false_or, or_false, decide_eq_true_eq, Int.reduceAdd, Int.reduceSub, Int.reduceMul, Int.reduceNeg, Int.reduceEq, Int.reduceLT, Int.reduceLE, Int.reduceNe, lcmp_z, lcmp_le, lcmp_ge, lcmp_lt, lcmp_gt, am_ald_scr, am_w32_ok, cls_16, cls_17, e4, e1, e2, lcmp_refl, eq_self]
theorem lc_width {M : am_M} {i : Int} (H : INV M M) (i0 : 0 ≤ i) (i1 : i + 6 ≤ M 1 (-1)) (i2 : M 1 (-1) ≤ 3072) : lcase M i 11 := by
  obtain ⟨ans, M1, M2, e1, e2, e3, e4, e5⟩ := api_one (api_width (M 1 (i + 1)) (M 1 (i + 2))) H
  refine ⟨M2, ?_, e3, e5⟩
  simp (disch := first | omega | (simp (disch := omega) only [e4]; omega)) only [be_L_law_11, Option.bind_some, cond_true, cond_false, decide_true, decide_false, Bool.not_true, Bool.not_false, ite_true, ite_false, and_self, true_and, and_true, or_self, true_or, or_true, false_or, or_false, decide_eq_true_eq, Int.reduceAdd, Int.reduceSub, Int.reduceMul, Int.reduceNeg, Int.reduceEq, Int.reduceLT, Int.reduceLE, Int.reduceNe, lcmp_z, lcmp_le, lcmp_ge, lcmp_lt, lcmp_gt, am_ald_scr, am_w32_ok, cls_16, cls_17, e4, e1, e2, lcmp_refl, eq_self]
theorem lc_clear {M : am_M} {i : Int} (H : INV M M) (i0 : 0 ≤ i) (i1 : i + 6 ≤ M 1 (-1)) (i2 : M 1 (-1) ≤ 3072) : lcase M i 13 := by
  obtain ⟨ans, M1, M2, e1, e2, e3, e4, e5⟩ := api_one (api_clear) H
  refine ⟨M2, ?_, e3, e5⟩
  simp (disch := first | omega | (simp (disch := omega) only [e4]; omega)) only [be_L_law_13, Option.bind_some, cond_true, cond_false, decide_true, decide_false, Bool.not_true, Bool.not_false, ite_true, ite_false, and_self, true_and, and_true, or_self, true_or, or_true, false_or, or_false, decide_eq_true_eq, Int.reduceAdd, Int.reduceSub, Int.reduceMul, Int.reduceNeg, Int.reduceEq, Int.reduceLT, Int.reduceLE, Int.reduceNe, lcmp_z, lcmp_le, lcmp_ge, lcmp_lt, lcmp_gt, am_ald_scr, am_w32_ok, cls_16, cls_17, e4, e1, e2, lcmp_refl, eq_self]
theorem lc_run {M : am_M} {i : Int} (H : INV M M) (i0 : 0 ≤ i) (i1 : i + 6 ≤ M 1 (-1)) (i2 : M 1 (-1) ≤ 3072) : lcase M i 15 := by
  obtain ⟨ans, M1, M2, e1, e2, e3, e4, e5⟩ := api_one (api_run (M 1 (i + 1)) (M 1 (i + 2)) (M 1 (i + 3))) H
  refine ⟨M2, ?_, e3, e5⟩
  simp (disch := first | omega | (simp (disch := omega) only [e4]; omega)) only [be_L_law_15, Option.bind_some, cond_true, cond_false, decide_true, decide_false, Bool.not_true, Bool.not_false, ite_true, ite_false, and_self, true_and, and_true, or_self, true_or, or_true, false_or, or_false, decide_eq_true_eq, Int.reduceAdd, Int.reduceSub, Int.reduceMul, Int.reduceNeg, Int.reduceEq, Int.reduceLT, Int.reduceLE, Int.reduceNe, lcmp_z, lcmp_le, lcmp_ge, lcmp_lt, lcmp_gt, am_ald_scr, am_w32_ok, cls_16, cls_17, e4, e1, e2, lcmp_refl, eq_self]
theorem lc_reset {M : am_M} {i : Int} (H : INV M M) (i0 : 0 ≤ i) (i1 : i + 6 ≤ M 1 (-1)) (i2 : M 1 (-1) ≤ 3072) : lcase M i 17 := by
  obtain ⟨ans, M1, M2, e1, e2, e3, e4, e5⟩ := api_one (api_reset) H
  refine ⟨M2, ?_, e3, e5⟩
  simp (disch := first | omega | (simp (disch := omega) only [e4]; omega)) only [be_L_law_17, Option.bind_some, cond_true, cond_false, decide_true, decide_false, Bool.not_true, Bool.not_false, ite_true, ite_false, and_self, true_and, and_true, or_self, true_or, or_true, false_or, or_false, decide_eq_true_eq, Int.reduceAdd, Int.reduceSub, Int.reduceMul, Int.reduceNeg, Int.reduceEq, Int.reduceLT, Int.reduceLE, Int.reduceNe, lcmp_z, lcmp_le, lcmp_ge, lcmp_lt, lcmp_gt, am_ald_scr, am_w32_ok, cls_16, cls_17, e4, e1, e2, lcmp_refl, eq_self]
theorem lc_told {M : am_M} {i : Int} (H : INV M M) (i0 : 0 ≤ i) (i1 : i + 6 ≤ M 1 (-1)) (i2 : M 1 (-1) ≤ 3072) : lcase M i 19 := by
  obtain ⟨ans, M1, M2, e1, e2, e3, e4, e5⟩ := api_one (api_told (M 1 (i + 1)) (M 1 (i + 2))) H
  refine ⟨M2, ?_, e3, e5⟩
  simp (disch := first | omega | (simp (disch := omega) only [e4]; omega)) only [be_L_law_19, Option.bind_some, cond_true, cond_false, decide_true, decide_false, Bool.not_true, Bool.not_false, ite_true, ite_false, and_self, true_and, and_true, or_self, true_or, or_true, false_or, or_false, decide_eq_true_eq, Int.reduceAdd, Int.reduceSub, Int.reduceMul, Int.reduceNeg, Int.reduceEq, Int.reduceLT, Int.reduceLE, Int.reduceNe, lcmp_z, lcmp_le, lcmp_ge, lcmp_lt, lcmp_gt, am_ald_scr, am_w32_ok, cls_16, cls_17, e4, e1, e2, lcmp_refl, eq_self]
theorem lc_woven {M : am_M} {i : Int} (H : INV M M) (i0 : 0 ≤ i) (i1 : i + 6 ≤ M 1 (-1)) (i2 : M 1 (-1) ≤ 3072) : lcase M i 21 := by
  obtain ⟨ans, M1, M2, e1, e2, e3, e4, e5⟩ := api_one (api_woven (M 1 (i + 1)) (M 1 (i + 2))) H
  refine ⟨M2, ?_, e3, e5⟩
  simp (disch := first | omega | (simp (disch := omega) only [e4]; omega)) only [be_L_law_21, Option.bind_some, cond_true, cond_false, decide_true, decide_false, Bool.not_true, Bool.not_false, ite_true, ite_false, and_self, true_and, and_true, or_self, true_or, or_true, false_or, or_false, decide_eq_true_eq, Int.reduceAdd, Int.reduceSub, Int.reduceMul, Int.reduceNeg, Int.reduceEq, Int.reduceLT, Int.reduceLE, Int.reduceNe, lcmp_z, lcmp_le, lcmp_ge, lcmp_lt, lcmp_gt, am_ald_scr, am_w32_ok, cls_16, cls_17, e4, e1, e2, lcmp_refl, eq_self]
theorem lc_bandTold {M : am_M} {i : Int} (H : INV M M) (i0 : 0 ≤ i) (i1 : i + 6 ≤ M 1 (-1)) (i2 : M 1 (-1) ≤ 3072) : lcase M i 23 := by
  obtain ⟨ans, M1, M2, e1, e2, e3, e4, e5⟩ := api_one (api_bandTold (M 1 (i + 1)) (M 1 (i + 2))) H
  refine ⟨M2, ?_, e3, e5⟩
  simp (disch := first | omega | (simp (disch := omega) only [e4]; omega)) only [be_L_law_23, Option.bind_some, cond_true, cond_false, decide_true, decide_false, Bool.not_true, Bool.not_false, ite_true, ite_false, and_self, true_and, and_true, or_self, true_or, or_true, false_or, or_false, decide_eq_true_eq, Int.reduceAdd, Int.reduceSub, Int.reduceMul, Int.reduceNeg, Int.reduceEq, Int.reduceLT, Int.reduceLE, Int.reduceNe, lcmp_z, lcmp_le, lcmp_ge, lcmp_lt, lcmp_gt, am_ald_scr, am_w32_ok, cls_16, cls_17, e4, e1, e2, lcmp_refl, eq_self]
theorem lc_history {M : am_M} {i : Int} (H : INV M M) (i0 : 0 ≤ i) (i1 : i + 6 ≤ M 1 (-1)) (i2 : M 1 (-1) ≤ 3072) : lcase M i 25 := by
  obtain ⟨ans, M1, M2, e1, e2, e3, e4, e5⟩ := api_one (api_history (M 1 (i + 1)) (M 1 (i + 2))) H
  refine ⟨M2, ?_, e3, e5⟩
  simp (disch := first | omega | (simp (disch := omega) only [e4]; omega)) only [be_L_law_25, Option.bind_some, cond_true, cond_false, decide_true, decide_false, Bool.not_true, Bool.not_false, ite_true, ite_false, and_self, true_and, and_true, or_self, true_or, or_true, false_or, or_false, decide_eq_true_eq, Int.reduceAdd, Int.reduceSub, Int.reduceMul, Int.reduceNeg, Int.reduceEq, Int.reduceLT, Int.reduceLE, Int.reduceNe, lcmp_z, lcmp_le, lcmp_ge, lcmp_lt, lcmp_gt, am_ald_scr, am_w32_ok, cls_16, cls_17, e4, e1, e2, lcmp_refl, eq_self]
theorem lc_digest {M : am_M} {i : Int} (H : INV M M) (i0 : 0 ≤ i) (i1 : i + 6 ≤ M 1 (-1)) (i2 : M 1 (-1) ≤ 3072) : lcase M i 27 := by
  obtain ⟨ans, M1, M2, e1, e2, e3, e4, e5⟩ := api_one (api_digest (M 1 (i + 1))) H
  refine ⟨M2, ?_, e3, e5⟩
  simp (disch := first | omega | (simp (disch := omega) only [e4]; omega)) only [be_L_law_27, Option.bind_some, cond_true, cond_false, decide_true, decide_false, Bool.not_true, Bool.not_false, ite_true, ite_false, and_self, true_and, and_true, or_self, true_or, or_true, false_or, or_false, decide_eq_true_eq, Int.reduceAdd, Int.reduceSub, Int.reduceMul, Int.reduceNeg, Int.reduceEq, Int.reduceLT, Int.reduceLE, Int.reduceNe, lcmp_z, lcmp_le, lcmp_ge, lcmp_lt, lcmp_gt, am_ald_scr, am_w32_ok, cls_16, cls_17, e4, e1, e2, lcmp_refl, eq_self]
theorem lc_widened {M : am_M} {i : Int} (H : INV M M) (i0 : 0 ≤ i) (i1 : i + 6 ≤ M 1 (-1)) (i2 : M 1 (-1) ≤ 3072) : lcase M i 29 := by
  obtain ⟨ans, M1, M2, e1, e2, e3, e4, e5⟩ := api_one (api_widened (M 1 (i + 1))) H
  refine ⟨M2, ?_, e3, e5⟩
  simp (disch := first | omega | (simp (disch := omega) only [e4]; omega)) only [be_L_law_29, Option.bind_some, cond_true, cond_false, decide_true, decide_false, Bool.not_true, Bool.not_false, ite_true, ite_false, and_self, true_and, and_true, or_self, true_or, or_true, false_or, or_false, decide_eq_true_eq, Int.reduceAdd, Int.reduceSub, Int.reduceMul, Int.reduceNeg, Int.reduceEq, Int.reduceLT, Int.reduceLE, Int.reduceNe, lcmp_z, lcmp_le, lcmp_ge, lcmp_lt, lcmp_gt, am_ald_scr, am_w32_ok, cls_16, cls_17, e4, e1, e2, lcmp_refl, eq_self]
theorem lc_failure {M : am_M} {i : Int} (H : INV M M) (i0 : 0 ≤ i) (i1 : i + 6 ≤ M 1 (-1)) (i2 : M 1 (-1) ≤ 3072) : lcase M i 31 := by
  obtain ⟨ans, M1, M2, e1, e2, e3, e4, e5⟩ := api_one (api_failure (M 1 (i + 1)) (M 1 (i + 2))) H
  refine ⟨M2, ?_, e3, e5⟩
  simp (disch := first | omega | (simp (disch := omega) only [e4]; omega)) only [be_L_law_31, Option.bind_some, cond_true, cond_false, decide_true, decide_false, Bool.not_true, Bool.not_false, ite_true, ite_false, and_self, true_and, and_true, or_self, true_or, or_true, false_or, or_false, decide_eq_true_eq, Int.reduceAdd, Int.reduceSub, Int.reduceMul, Int.reduceNeg, Int.reduceEq, Int.reduceLT, Int.reduceLE, Int.reduceNe, lcmp_z, lcmp_le, lcmp_ge, lcmp_lt, lcmp_gt, am_ald_scr, am_w32_ok, cls_16, cls_17, e4, e1, e2, lcmp_refl, eq_self]
theorem lc_balance {M : am_M} {i : Int} (H : INV M M) (i0 : 0 ≤ i) (i1 : i + 6 ≤ M 1 (-1)) (i2 : M 1 (-1) ≤ 3072) : lcase M i 33 := by
  obtain ⟨ans, M1, M2, e1, e2, e3, e4, e5⟩ := api_one (api_balance (M 1 (i + 1))) H
  refine ⟨M2, ?_, e3, e5⟩
  simp (disch := first | omega | (simp (disch := omega) only [e4]; omega)) only [be_L_law_33, Option.bind_some, cond_true, cond_false, decide_true, decide_false, Bool.not_true, Bool.not_false, ite_true, ite_false, and_self, true_and, and_true, or_self, true_or, or_true, false_or, or_false, decide_eq_true_eq, Int.reduceAdd, Int.reduceSub, Int.reduceMul, Int.reduceNeg, Int.reduceEq, Int.reduceLT, Int.reduceLE, Int.reduceNe, lcmp_z, lcmp_le, lcmp_ge, lcmp_lt, lcmp_gt, am_ald_scr, am_w32_ok, cls_16, cls_17, e4, e1, e2, lcmp_refl, eq_self]
theorem lc_count {M : am_M} {i : Int} (H : INV M M) (i0 : 0 ≤ i) (i1 : i + 6 ≤ M 1 (-1)) (i2 : M 1 (-1) ≤ 3072) : lcase M i 35 := by
  obtain ⟨ans, M1, M2, e1, e2, e3, e4, e5⟩ := api_one (api_count (M 1 (i + 1))) H
  refine ⟨M2, ?_, e3, e5⟩
  simp (disch := first | omega | (simp (disch := omega) only [e4]; omega)) only [be_L_law_35, Option.bind_some, cond_true, cond_false, decide_true, decide_false, Bool.not_true, Bool.not_false, ite_true, ite_false, and_self, true_and, and_true, or_self, true_or, or_true, false_or, or_false, decide_eq_true_eq, Int.reduceAdd, Int.reduceSub, Int.reduceMul, Int.reduceNeg, Int.reduceEq, Int.reduceLT, Int.reduceLE, Int.reduceNe, lcmp_z, lcmp_le, lcmp_ge, lcmp_lt, lcmp_gt, am_ald_scr, am_w32_ok, cls_16, cls_17, e4, e1, e2, lcmp_refl, eq_self]
theorem am_alen_1 (M : am_M) : am_alen M 1 = some (M 1 (-1)) := by
  unfold am_alen am_len
  rw [if_pos ⟨by decide, by decide +kernel⟩, if_pos rfl]
theorem law_loop : ∀ (n : Nat) (i : Int) (M : am_M), INV M M → 0 ≤ i → M 1 (-1) ≤ 3072 → 0 ≤ M 1 (-1) → M 1 (-1) < i + n → ∃ Mf, am_ev am_PP nL_law 1 [1, 16, 17, i] [] M = some (1, Mf) := by
  intro n
  induction n with
  | zero =>
    intro i M H i0 h1 h2 h3
    refine ⟨M, ?_⟩
    simp (disch := omega) only [be_L_law_1, be_L_law_38, Option.bind_some, cond_true, cond_false, decide_true, decide_false, Bool.not_true, Bool.not_false, ite_true, ite_false, and_self, true_and, and_true, or_self, true_or, or_true, false_or, or_false, decide_eq_true_eq, Int.reduceAdd, Int.reduceSub, Int.reduceMul, Int.reduceNeg, Int.reduceEq, Int.reduceLT, Int.reduceLE, Int.reduceNe, lcmp_z, lcmp_le, lcmp_ge, lcmp_lt, lcmp_gt, decide_eq_true, decide_eq_false, if_pos, if_neg, am_alen_1, am_w32_ok]
  | succ n ih =>
    intro i M H i0 h1 h2 h3
    by_cases c : M 1 (-1) - 6 < i
    · refine ⟨M, ?_⟩
      simp (disch := omega) only [be_L_law_1, be_L_law_38, Option.bind_some, cond_true, cond_false, decide_true, decide_false, Bool.not_true, Bool.not_false, ite_true, ite_false, and_self, true_and, and_true, or_self, true_or, or_true, false_or, or_false, decide_eq_true_eq, Int.reduceAdd, Int.reduceSub, Int.reduceMul, Int.reduceNeg, Int.reduceEq, Int.reduceLT, Int.reduceLE, Int.reduceNe, lcmp_z, lcmp_le, lcmp_ge, lcmp_lt, lcmp_gt, decide_eq_true, decide_eq_false, if_pos, if_neg, am_alen_1, am_w32_ok]
    · have c1 : i + 6 ≤ M 1 (-1) := by omega
      have e1 : am_ev am_PP nL_law 1 [1, 16, 17, i] [] M = am_ev am_PP nL_law 2 [1, 16, 17, i] [] M := by
        simp (disch := omega) only [be_L_law_1, Option.bind_some, cond_true, cond_false, decide_true, decide_false, Bool.not_true, Bool.not_false, ite_true, ite_false, and_self, true_and, and_true, or_self, true_or, or_true, false_or, or_false, decide_eq_true_eq, Int.reduceAdd, Int.reduceSub, Int.reduceMul, Int.reduceNeg, Int.reduceEq, Int.reduceLT, Int.reduceLE, Int.reduceNe, lcmp_z, lcmp_le, lcmp_ge, lcmp_lt, lcmp_gt, decide_eq_true, decide_eq_false, if_pos, if_neg, am_alen_1, am_w32_ok]
      suffices hs : ∃ M2, am_ev am_PP nL_law 2 [1, 16, 17, i] [] M = am_ev am_PP nL_law 37 [1, 16, 17, i] [] M2 ∧ INV M2 M2 ∧ ∀ j, M2 1 j = M 1 j by
        obtain ⟨M2, a1, a2, a3⟩ := hs
        obtain ⟨Mf, b1⟩ := ih (i + 6) M2 a2 (by omega) (by rw [a3]; omega) (by rw [a3]; omega) (by rw [a3]; omega)
        refine ⟨Mf, ?_⟩
        rw [e1, a1, ← b1]
        simp (disch := omega) only [be_L_law_37, am_w32_ok]
      generalize hg : am_and (M 1 i) 31 = g
      by_cases g0 : g = 0
      · obtain ⟨M2, a1, a2, a3⟩ := lc_weaver H i0 c1 h1
        refine ⟨M2, ?_, a2, a3⟩
        rw [← a1]
        simp (disch := omega) only [be_L_law_2, Option.bind_some, cond_true, cond_false, decide_true, decide_false, Bool.not_true, Bool.not_false, ite_true, ite_false, and_self, true_and, and_true, or_self, true_or, or_true, false_or, or_false, decide_eq_true_eq, Int.reduceAdd, Int.reduceSub, Int.reduceMul, Int.reduceNeg, Int.reduceEq, Int.reduceLT, Int.reduceLE, Int.reduceNe, lcmp_z, lcmp_le, lcmp_ge, lcmp_lt, lcmp_gt, am_ald_scr, hg, g0]
      by_cases g1 : g = 1
      · obtain ⟨M2, a1, a2, a3⟩ := lc_feed H i0 c1 h1
        refine ⟨M2, ?_, a2, a3⟩
        rw [← a1]
        simp (disch := omega) only [be_L_law_2, Option.bind_some, cond_true, cond_false, decide_true, decide_false, Bool.not_true, Bool.not_false, ite_true, ite_false, and_self, true_and, and_true, or_self, true_or, or_true, false_or, or_false, decide_eq_true_eq, Int.reduceAdd, Int.reduceSub, Int.reduceMul, Int.reduceNeg, Int.reduceEq, Int.reduceLT, Int.reduceLE, Int.reduceNe, lcmp_z, lcmp_le, lcmp_ge, lcmp_lt, lcmp_gt, am_ald_scr, hg, g1]
      by_cases g2 : g = 2
      · obtain ⟨M2, a1, a2, a3⟩ := lc_step H i0 c1 h1
        refine ⟨M2, ?_, a2, a3⟩
        rw [← a1]
        simp (disch := omega) only [be_L_law_2, Option.bind_some, cond_true, cond_false, decide_true, decide_false, Bool.not_true, Bool.not_false, ite_true, ite_false, and_self, true_and, and_true, or_self, true_or, or_true, false_or, or_false, decide_eq_true_eq, Int.reduceAdd, Int.reduceSub, Int.reduceMul, Int.reduceNeg, Int.reduceEq, Int.reduceLT, Int.reduceLE, Int.reduceNe, lcmp_z, lcmp_le, lcmp_ge, lcmp_lt, lcmp_gt, am_ald_scr, hg, g2]
      by_cases g3 : g = 3
      · obtain ⟨M2, a1, a2, a3⟩ := lc_band H i0 c1 h1
        refine ⟨M2, ?_, a2, a3⟩
        rw [← a1]
        simp (disch := omega) only [be_L_law_2, Option.bind_some, cond_true, cond_false, decide_true, decide_false, Bool.not_true, Bool.not_false, ite_true, ite_false, and_self, true_and, and_true, or_self, true_or, or_true, false_or, or_false, decide_eq_true_eq, Int.reduceAdd, Int.reduceSub, Int.reduceMul, Int.reduceNeg, Int.reduceEq, Int.reduceLT, Int.reduceLE, Int.reduceNe, lcmp_z, lcmp_le, lcmp_ge, lcmp_lt, lcmp_gt, am_ald_scr, hg, g3]
      by_cases g4 : g = 4
      · obtain ⟨M2, a1, a2, a3⟩ := lc_width H i0 c1 h1
        refine ⟨M2, ?_, a2, a3⟩
        rw [← a1]
        simp (disch := omega) only [be_L_law_2, Option.bind_some, cond_true, cond_false, decide_true, decide_false, Bool.not_true, Bool.not_false, ite_true, ite_false, and_self, true_and, and_true, or_self, true_or, or_true, false_or, or_false, decide_eq_true_eq, Int.reduceAdd, Int.reduceSub, Int.reduceMul, Int.reduceNeg, Int.reduceEq, Int.reduceLT, Int.reduceLE, Int.reduceNe, lcmp_z, lcmp_le, lcmp_ge, lcmp_lt, lcmp_gt, am_ald_scr, hg, g4]
      by_cases g5 : g = 5
      · obtain ⟨M2, a1, a2, a3⟩ := lc_clear H i0 c1 h1
        refine ⟨M2, ?_, a2, a3⟩
        rw [← a1]
        simp (disch := omega) only [be_L_law_2, Option.bind_some, cond_true, cond_false, decide_true, decide_false, Bool.not_true, Bool.not_false, ite_true, ite_false, and_self, true_and, and_true, or_self, true_or, or_true, false_or, or_false, decide_eq_true_eq, Int.reduceAdd, Int.reduceSub, Int.reduceMul, Int.reduceNeg, Int.reduceEq, Int.reduceLT, Int.reduceLE, Int.reduceNe, lcmp_z, lcmp_le, lcmp_ge, lcmp_lt, lcmp_gt, am_ald_scr, hg, g5]
      by_cases g6 : g = 6
      · obtain ⟨M2, a1, a2, a3⟩ := lc_run H i0 c1 h1
        refine ⟨M2, ?_, a2, a3⟩
        rw [← a1]
        simp (disch := omega) only [be_L_law_2, Option.bind_some, cond_true, cond_false, decide_true, decide_false, Bool.not_true, Bool.not_false, ite_true, ite_false, and_self, true_and, and_true, or_self, true_or, or_true, false_or, or_false, decide_eq_true_eq, Int.reduceAdd, Int.reduceSub, Int.reduceMul, Int.reduceNeg, Int.reduceEq, Int.reduceLT, Int.reduceLE, Int.reduceNe, lcmp_z, lcmp_le, lcmp_ge, lcmp_lt, lcmp_gt, am_ald_scr, hg, g6]
      by_cases g7 : g = 7
      · obtain ⟨M2, a1, a2, a3⟩ := lc_reset H i0 c1 h1
        refine ⟨M2, ?_, a2, a3⟩
        rw [← a1]
        simp (disch := omega) only [be_L_law_2, Option.bind_some, cond_true, cond_false, decide_true, decide_false, Bool.not_true, Bool.not_false, ite_true, ite_false, and_self, true_and, and_true, or_self, true_or, or_true, false_or, or_false, decide_eq_true_eq, Int.reduceAdd, Int.reduceSub, Int.reduceMul, Int.reduceNeg, Int.reduceEq, Int.reduceLT, Int.reduceLE, Int.reduceNe, lcmp_z, lcmp_le, lcmp_ge, lcmp_lt, lcmp_gt, am_ald_scr, hg, g7]
      by_cases g8 : g = 8
      · obtain ⟨M2, a1, a2, a3⟩ := lc_told H i0 c1 h1
        refine ⟨M2, ?_, a2, a3⟩
        rw [← a1]
        simp (disch := omega) only [be_L_law_2, Option.bind_some, cond_true, cond_false, decide_true, decide_false, Bool.not_true, Bool.not_false, ite_true, ite_false, and_self, true_and, and_true, or_self, true_or, or_true, false_or, or_false, decide_eq_true_eq, Int.reduceAdd, Int.reduceSub, Int.reduceMul, Int.reduceNeg, Int.reduceEq, Int.reduceLT, Int.reduceLE, Int.reduceNe, lcmp_z, lcmp_le, lcmp_ge, lcmp_lt, lcmp_gt, am_ald_scr, hg, g8]
      by_cases g9 : g = 9
      · obtain ⟨M2, a1, a2, a3⟩ := lc_woven H i0 c1 h1
        refine ⟨M2, ?_, a2, a3⟩
        rw [← a1]
        simp (disch := omega) only [be_L_law_2, Option.bind_some, cond_true, cond_false, decide_true, decide_false, Bool.not_true, Bool.not_false, ite_true, ite_false, and_self, true_and, and_true, or_self, true_or, or_true, false_or, or_false, decide_eq_true_eq, Int.reduceAdd, Int.reduceSub, Int.reduceMul, Int.reduceNeg, Int.reduceEq, Int.reduceLT, Int.reduceLE, Int.reduceNe, lcmp_z, lcmp_le, lcmp_ge, lcmp_lt, lcmp_gt, am_ald_scr, hg, g9]
      by_cases g10 : g = 10
      · obtain ⟨M2, a1, a2, a3⟩ := lc_bandTold H i0 c1 h1
        refine ⟨M2, ?_, a2, a3⟩
        rw [← a1]
        simp (disch := omega) only [be_L_law_2, Option.bind_some, cond_true, cond_false, decide_true, decide_false, Bool.not_true, Bool.not_false, ite_true, ite_false, and_self, true_and, and_true, or_self, true_or, or_true, false_or, or_false, decide_eq_true_eq, Int.reduceAdd, Int.reduceSub, Int.reduceMul, Int.reduceNeg, Int.reduceEq, Int.reduceLT, Int.reduceLE, Int.reduceNe, lcmp_z, lcmp_le, lcmp_ge, lcmp_lt, lcmp_gt, am_ald_scr, hg, g10]
      by_cases g11 : g = 11
      · obtain ⟨M2, a1, a2, a3⟩ := lc_history H i0 c1 h1
        refine ⟨M2, ?_, a2, a3⟩
        rw [← a1]
        simp (disch := omega) only [be_L_law_2, Option.bind_some, cond_true, cond_false, decide_true, decide_false, Bool.not_true, Bool.not_false, ite_true, ite_false, and_self, true_and, and_true, or_self, true_or, or_true, false_or, or_false, decide_eq_true_eq, Int.reduceAdd, Int.reduceSub, Int.reduceMul, Int.reduceNeg, Int.reduceEq, Int.reduceLT, Int.reduceLE, Int.reduceNe, lcmp_z, lcmp_le, lcmp_ge, lcmp_lt, lcmp_gt, am_ald_scr, hg, g11]
      by_cases g12 : g = 12
      · obtain ⟨M2, a1, a2, a3⟩ := lc_digest H i0 c1 h1
        refine ⟨M2, ?_, a2, a3⟩
        rw [← a1]
        simp (disch := omega) only [be_L_law_2, Option.bind_some, cond_true, cond_false, decide_true, decide_false, Bool.not_true, Bool.not_false, ite_true, ite_false, and_self, true_and, and_true, or_self, true_or, or_true, false_or, or_false, decide_eq_true_eq, Int.reduceAdd, Int.reduceSub, Int.reduceMul, Int.reduceNeg, Int.reduceEq, Int.reduceLT, Int.reduceLE, Int.reduceNe, lcmp_z, lcmp_le, lcmp_ge, lcmp_lt, lcmp_gt, am_ald_scr, hg, g12]
      by_cases g13 : g = 13
      · obtain ⟨M2, a1, a2, a3⟩ := lc_widened H i0 c1 h1
        refine ⟨M2, ?_, a2, a3⟩
        rw [← a1]
        simp (disch := omega) only [be_L_law_2, Option.bind_some, cond_true, cond_false, decide_true, decide_false, Bool.not_true, Bool.not_false, ite_true, ite_false, and_self, true_and, and_true, or_self, true_or, or_true, false_or, or_false, decide_eq_true_eq, Int.reduceAdd, Int.reduceSub, Int.reduceMul, Int.reduceNeg, Int.reduceEq, Int.reduceLT, Int.reduceLE, Int.reduceNe, lcmp_z, lcmp_le, lcmp_ge, lcmp_lt, lcmp_gt, am_ald_scr, hg, g13]
      by_cases g14 : g = 14
      · obtain ⟨M2, a1, a2, a3⟩ := lc_failure H i0 c1 h1
        refine ⟨M2, ?_, a2, a3⟩
        rw [← a1]
        simp (disch := omega) only [be_L_law_2, Option.bind_some, cond_true, cond_false, decide_true, decide_false, Bool.not_true, Bool.not_false, ite_true, ite_false, and_self, true_and, and_true, or_self, true_or, or_true, false_or, or_false, decide_eq_true_eq, Int.reduceAdd, Int.reduceSub, Int.reduceMul, Int.reduceNeg, Int.reduceEq, Int.reduceLT, Int.reduceLE, Int.reduceNe, lcmp_z, lcmp_le, lcmp_ge, lcmp_lt, lcmp_gt, am_ald_scr, hg, g14]
      by_cases g15 : g = 15
      · obtain ⟨M2, a1, a2, a3⟩ := lc_balance H i0 c1 h1
        refine ⟨M2, ?_, a2, a3⟩
        rw [← a1]
        simp (disch := omega) only [be_L_law_2, Option.bind_some, cond_true, cond_false, decide_true, decide_false, Bool.not_true, Bool.not_false, ite_true, ite_false, and_self, true_and, and_true, or_self, true_or, or_true, false_or, or_false, decide_eq_true_eq, Int.reduceAdd, Int.reduceSub, Int.reduceMul, Int.reduceNeg, Int.reduceEq, Int.reduceLT, Int.reduceLE, Int.reduceNe, lcmp_z, lcmp_le, lcmp_ge, lcmp_lt, lcmp_gt, am_ald_scr, hg, g15]
      by_cases g16 : g = 16
      · obtain ⟨M2, a1, a2, a3⟩ := lc_count H i0 c1 h1
        refine ⟨M2, ?_, a2, a3⟩
        rw [← a1]
        simp (disch := omega) only [be_L_law_2, Option.bind_some, cond_true, cond_false, decide_true, decide_false, Bool.not_true, Bool.not_false, ite_true, ite_false, and_self, true_and, and_true, or_self, true_or, or_true, false_or, or_false, decide_eq_true_eq, Int.reduceAdd, Int.reduceSub, Int.reduceMul, Int.reduceNeg, Int.reduceEq, Int.reduceLT, Int.reduceLE, Int.reduceNe, lcmp_z, lcmp_le, lcmp_ge, lcmp_lt, lcmp_gt, am_ald_scr, hg, g16]
      refine ⟨M, ?_, H, fun _ => rfl⟩
      simp (disch := omega) only [be_L_law_2, Option.bind_some, cond_true, cond_false, decide_true, decide_false, Bool.not_true, Bool.not_false, ite_true, ite_false, and_self, true_and, and_true, or_self, true_or, or_true, false_or, or_false, decide_eq_true_eq, Int.reduceAdd, Int.reduceSub, Int.reduceMul, Int.reduceNeg, Int.reduceEq, Int.reduceLT, Int.reduceLE, Int.reduceNe, lcmp_z, lcmp_le, lcmp_ge, lcmp_lt, lcmp_gt, am_ald_scr, hg, decide_eq_false g0, decide_eq_false g1, decide_eq_false g2, decide_eq_false g3, decide_eq_false g4, decide_eq_false g5, decide_eq_false g6, decide_eq_false g7, decide_eq_false g8, decide_eq_false g9, decide_eq_false g10, decide_eq_false g11, decide_eq_false g12, decide_eq_false g13, decide_eq_false g14, decide_eq_false g15, decide_eq_false g16]
