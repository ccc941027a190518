/-! new cells -/
theorem no_15 (w : Int) (M : am_M) (h0 : 0 ≤ w) (h1 : w < 40) (hf : M (-1) (15 + 256 * w) = 0) : am_newo 5 M (15 + 256 * w) = some (am_alloc M (15 + 256 * w)) := am_newo_ok (by omega) (by rw [am_nb_add 15 w, show am_nb 15 = 40 by decide +kernel]; omega) ((am_cls_add 15 w).trans (by decide +kernel)) hf
theorem no_20 (w : Int) (M : am_M) (h0 : 0 ≤ w) (h1 : w < 40) (hf : M (-1) (20 + 256 * w) = 0) : am_newo 3 M (20 + 256 * w) = some (am_alloc M (20 + 256 * w)) := am_newo_ok (by omega) (by rw [am_nb_add 20 w, show am_nb 20 = 40 by decide +kernel]; omega) ((am_cls_add 20 w).trans (by decide +kernel)) hf
theorem no_11 (w : Int) (M : am_M) (h0 : 0 ≤ w) (h1 : w < 40) (hf : M (-1) (11 + 256 * w) = 0) : am_newo 1 M (11 + 256 * w) = some (am_alloc M (11 + 256 * w)) := am_newo_ok (by omega) (by rw [am_nb_add 11 w, show am_nb 11 = 40 by decide +kernel]; omega) ((am_cls_add 11 w).trans (by decide +kernel)) hf
theorem no_14 (w : Int) (M : am_M) (h0 : 0 ≤ w) (h1 : w < 40) (hf : M (-1) (14 + 256 * w) = 0) : am_newo 4 M (14 + 256 * w) = some (am_alloc M (14 + 256 * w)) := am_newo_ok (by omega) (by rw [am_nb_add 14 w, show am_nb 14 = 40 by decide +kernel]; omega) ((am_cls_add 14 w).trans (by decide +kernel)) hf
theorem no_10 (w : Int) (M : am_M) (h0 : 0 ≤ w) (h1 : w < 60) (hf : M (-1) (10 + 256 * w) = 0) : am_newo 0 M (10 + 256 * w) = some (am_alloc M (10 + 256 * w)) := am_newo_ok (by omega) (by rw [am_nb_add 10 w, show am_nb 10 = 60 by decide +kernel]; omega) ((am_cls_add 10 w).trans (by decide +kernel)) hf
theorem no_30 (w : Int) (M : am_M) (h0 : 0 ≤ w) (h1 : w < 60) (hf : M (-1) (30 + 256 * w) = 0) : am_newo 3 M (30 + 256 * w) = some (am_alloc M (30 + 256 * w)) := am_newo_ok (by omega) (by rw [am_nb_add 30 w, show am_nb 30 = 60 by decide +kernel]; omega) ((am_cls_add 30 w).trans (by decide +kernel)) hf
theorem na_55 (w : Int) (M : am_M) (h0 : 0 ≤ w) (h1 : w < 40) (hf : M (-1) (55 + 256 * w) = 0) : am_newa 4 3 M (55 + 256 * w) = some (am_alloc M (55 + 256 * w)) := am_newa_ok (by omega) (by rw [am_nb_add 55 w, show am_nb 55 = 40 by decide +kernel]; omega) ((am_aty_add 55 w).trans (by decide +kernel)) (by rw [am_siz_add 55 w]; decide +kernel) hf
theorem na_56 (w : Int) (M : am_M) (h0 : 0 ≤ w) (h1 : w < 40) (hf : M (-1) (56 + 256 * w) = 0) : am_newa 4 2 M (56 + 256 * w) = some (am_alloc M (56 + 256 * w)) := am_newa_ok (by omega) (by rw [am_nb_add 56 w, show am_nb 56 = 40 by decide +kernel]; omega) ((am_aty_add 56 w).trans (by decide +kernel)) (by rw [am_siz_add 56 w]; decide +kernel) hf
theorem na_21 (w : Int) (M : am_M) (h0 : 0 ≤ w) (h1 : w < 40) (hf : M (-1) (21 + 256 * w) = 0) : am_newa 1 8 M (21 + 256 * w) = some (am_alloc M (21 + 256 * w)) := am_newa_ok (by omega) (by rw [am_nb_add 21 w, show am_nb 21 = 40 by decide +kernel]; omega) ((am_aty_add 21 w).trans (by decide +kernel)) (by rw [am_siz_add 21 w]; decide +kernel) hf
theorem na_57 (w : Int) (M : am_M) (h0 : 0 ≤ w) (h1 : w < 40) (hf : M (-1) (57 + 256 * w) = 0) : am_newa 1 30 M (57 + 256 * w) = some (am_alloc M (57 + 256 * w)) := am_newa_ok (by omega) (by rw [am_nb_add 57 w, show am_nb 57 = 40 by decide +kernel]; omega) ((am_aty_add 57 w).trans (by decide +kernel)) (by rw [am_siz_add 57 w]; decide +kernel) hf
theorem na_58 (w : Int) (M : am_M) (h0 : 0 ≤ w) (h1 : w < 40) (hf : M (-1) (58 + 256 * w) = 0) : am_newa 2 2 M (58 + 256 * w) = some (am_alloc M (58 + 256 * w)) := am_newa_ok (by omega) (by rw [am_nb_add 58 w, show am_nb 58 = 40 by decide +kernel]; omega) ((am_aty_add 58 w).trans (by decide +kernel)) (by rw [am_siz_add 58 w]; decide +kernel) hf
theorem na_72 (w : Int) (M : am_M) (h0 : 0 ≤ w) (h1 : w < 40) (hf : M (-1) (72 + 256 * w) = 0) : am_newa 2 2 M (72 + 256 * w) = some (am_alloc M (72 + 256 * w)) := am_newa_ok (by omega) (by rw [am_nb_add 72 w, show am_nb 72 = 40 by decide +kernel]; omega) ((am_aty_add 72 w).trans (by decide +kernel)) (by rw [am_siz_add 72 w]; decide +kernel) hf
theorem na_59 (w : Int) (M : am_M) (h0 : 0 ≤ w) (h1 : w < 40) (hf : M (-1) (59 + 256 * w) = 0) : am_newa 0 12 M (59 + 256 * w) = some (am_alloc M (59 + 256 * w)) := am_newa_ok (by omega) (by rw [am_nb_add 59 w, show am_nb 59 = 40 by decide +kernel]; omega) ((am_aty_add 59 w).trans (by decide +kernel)) (by rw [am_siz_add 59 w]; decide +kernel) hf
theorem na_73 (w : Int) (M : am_M) (h0 : 0 ≤ w) (h1 : w < 40) (hf : M (-1) (73 + 256 * w) = 0) : am_newa 0 12 M (73 + 256 * w) = some (am_alloc M (73 + 256 * w)) := am_newa_ok (by omega) (by rw [am_nb_add 73 w, show am_nb 73 = 40 by decide +kernel]; omega) ((am_aty_add 73 w).trans (by decide +kernel)) (by rw [am_siz_add 73 w]; decide +kernel) hf
theorem na_74 (w : Int) (M : am_M) (h0 : 0 ≤ w) (h1 : w < 40) (hf : M (-1) (74 + 256 * w) = 0) : am_newa 0 12 M (74 + 256 * w) = some (am_alloc M (74 + 256 * w)) := am_newa_ok (by omega) (by rw [am_nb_add 74 w, show am_nb 74 = 40 by decide +kernel]; omega) ((am_aty_add 74 w).trans (by decide +kernel)) (by rw [am_siz_add 74 w]; decide +kernel) hf
theorem na_60 (w : Int) (M : am_M) (h0 : 0 ≤ w) (h1 : w < 40) (hf : M (-1) (60 + 256 * w) = 0) : am_newa 1 4 M (60 + 256 * w) = some (am_alloc M (60 + 256 * w)) := am_newa_ok (by omega) (by rw [am_nb_add 60 w, show am_nb 60 = 40 by decide +kernel]; omega) ((am_aty_add 60 w).trans (by decide +kernel)) (by rw [am_siz_add 60 w]; decide +kernel) hf
theorem na_41 (w : Int) (M : am_M) (h0 : 0 ≤ w) (h1 : w < 60) (hf : M (-1) (41 + 256 * w) = 0) : am_newa 1 8 M (41 + 256 * w) = some (am_alloc M (41 + 256 * w)) := am_newa_ok (by omega) (by rw [am_nb_add 41 w, show am_nb 41 = 60 by decide +kernel]; omega) ((am_aty_add 41 w).trans (by decide +kernel)) (by rw [am_siz_add 41 w]; decide +kernel) hf
theorem na_31 (w : Int) (M : am_M) (h0 : 0 ≤ w) (h1 : w < 60) (hf : M (-1) (31 + 256 * w) = 0) : am_newa 1 8 M (31 + 256 * w) = some (am_alloc M (31 + 256 * w)) := am_newa_ok (by omega) (by rw [am_nb_add 31 w, show am_nb 31 = 60 by decide +kernel]; omega) ((am_aty_add 31 w).trans (by decide +kernel)) (by rw [am_siz_add 31 w]; decide +kernel) hf
theorem dv_10 (w : Int) : (10 + 256 * w) / 256 = w := by omega
theorem dv_11 (w : Int) : (11 + 256 * w) / 256 = w := by omega
theorem dv_14 (w : Int) : (14 + 256 * w) / 256 = w := by omega
theorem dv_15 (w : Int) : (15 + 256 * w) / 256 = w := by omega
theorem dv_20 (w : Int) : (20 + 256 * w) / 256 = w := by omega
theorem dv_30 (w : Int) : (30 + 256 * w) / 256 = w := by omega
theorem pl_20 (w : Int) : 20 + 256 * w + 1 = 21 + 256 * w := by omega
theorem pl_30 (w : Int) : 30 + 256 * w + 1 = 31 + 256 * w := by omega
/-! a new weaver -/
set_option maxHeartbeats 4000000 in
theorem mk_weaver {C : am_M} {w k a : Int} (w0 : 0 ≤ w) (w1 : w < 40) (g0 : C 16 0 = 50) (h4 : C 16 4 = w) (hm : ∀ L, wlab w L → C (-1) L = 0) : ∃ C', am_ev am_PP nX6_weaver 9 [16, k, a] [] C = am_ev am_PP nX6_weaver 10 [16, k, a, 15 + 256 * w] [] C' ∧ C' 50 w = 15 + 256 * w ∧ cshape C' w ∧ (∃ n f, row C' (20 + 256 * w) n f) ∧ ∀ L i, ¬ (wlab w L ∨ L = -2 ∨ (L = -1 ∧ wlab w i) ∨ (L = 50 ∧ i = w)) → C' L i = C L i := by
  have f11 := hm (11 + 256 * w) (by unfold wlab; omega)
  have f14 := hm (14 + 256 * w) (by unfold wlab; omega)
  have f15 := hm (15 + 256 * w) (by unfold wlab; omega)
  have f20 := hm (20 + 256 * w) (by unfold wlab; omega)
  have f21 := hm (21 + 256 * w) (by unfold wlab; omega)
  have f55 := hm (55 + 256 * w) (by unfold wlab; omega)
  have f56 := hm (56 + 256 * w) (by unfold wlab; omega)
  have f57 := hm (57 + 256 * w) (by unfold wlab; omega)
  have f58 := hm (58 + 256 * w) (by unfold wlab; omega)
  have f59 := hm (59 + 256 * w) (by unfold wlab; omega)
  have f60 := hm (60 + 256 * w) (by unfold wlab; omega)
  have f72 := hm (72 + 256 * w) (by unfold wlab; omega)
  have f73 := hm (73 + 256 * w) (by unfold wlab; omega)
  have f74 := hm (74 + 256 * w) (by unfold wlab; omega)
  simp (disch := first | omega | (simp (disch := omega) only [am_up_nl, am_alloc_mn, f11, f14, f15, f20, f21, f55, f56, f57, f58, f59, f60, f72, f73, f74])) only [be_X6_weaver_9, be_X5_init_m, be_X5_init_0, be_X3_init_m, be_X3_init_0, be_X1_init_m, be_X1_init_0, be_X4_init_m, be_X4_init_0, Option.bind_some, cond_true, cond_false, decide_true, decide_false, Bool.not_true, Bool.not_false, ite_true, ite_false, and_self, true_and, and_true, or_self, true_or, or_true, false_or, or_false, decide_eq_true_eq, Int.reduceAdd, Int.reduceSub, Int.reduceMul, Int.reduceNeg, Int.reduceEq, Int.reduceLT, Int.reduceLE, Int.reduceNe, lcmp_z, lcmp_le, lcmp_ge, lcmp_lt, lcmp_gt, if_neg, gf_16, gf_15, pf_15, pf_20, pf_11, pf_14, sa_50, no_15, no_20, no_11, no_14, na_55, na_56, na_21, na_57, na_58, na_72, na_59, na_73, na_74, na_60, dv_11, dv_14, dv_15, dv_20, pl_20, am_up_eq, am_up_nl, am_up_ni, am_alloc_nl, am_alloc_z, g0, h4]
  refine ⟨_, rfl, ?_, ?_, ⟨0, fun _ => 0, 0, by omega, by omega, ?_, ?_, by omega, Or.inl (by decide), fun g' p q => ?_, fun k p q => by omega⟩, fun L i q => ?_⟩
  · simp (disch := omega) only [am_up_eq, am_up_nl, am_up_ni, am_alloc_nl, am_alloc_z]
  · unfold cshape
    simp (disch := omega) only [am_up_eq, am_up_nl, am_up_ni, am_alloc_nl, am_alloc_z, and_self]
  · simp (disch := omega) only [am_up_eq, am_up_nl, am_up_ni, am_alloc_nl, am_alloc_z]
    omega
  · simp (disch := omega) only [am_up_eq, am_up_nl, am_up_ni, am_alloc_nl, am_alloc_z]
  · have := hm (20 + 256 * w + 1 + g') (by unfold wlab; omega)
    simp (disch := omega) only [am_up_nl, am_alloc_mn]
    exact this
  · unfold wlab at q
    by_cases e : L = -1
    · subst e
      simp (disch := omega) only [am_up_nl, am_alloc_mn]
    · simp (disch := omega) only [am_up_or, am_alloc_nl]
