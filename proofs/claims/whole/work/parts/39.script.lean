/-! SCRIPT: quiet steps -/
def tws (w L i : Int) : Prop := (L = 14 + 256 * w ∧ i = 5) ∨ L = 60 + 256 * w
theorem tws_twa {w L i : Int} (h : tws w L i) : twa w L i := by unfold tws at h; unfold twa; omega
theorem goto_b {n q : Int} (h : 0 ≤ q) (hn : 0 < n) : 0 ≤ goto n q ∧ goto n q < n := by unfold goto; split <;> omega
theorem tm_goto {n p : Int} (h : 0 ≤ p) (h1 : p < n) : Int.tmod (p + 1) n = goto n (p + 1) := by
  unfold goto
  by_cases c : p + 1 < n
  · rw [if_pos c, Int.tmod_eq_of_lt (by omega) c]
  · rw [if_neg c, show p + 1 = n by omega, Int.tmod_self]
theorem irem_ok (x y : Int) (h : y ≠ 0) : am_irem x y = some (Int.tmod x y) := if_neg h
theorem cl_goTo {C : am_M} {w n q : Int} (hw : 0 ≤ w) (h4 : C (14 + 256 * w) 4 = n) : am_evm am_PP nX4_goTo [(2, 14 + 256 * w), (0, q)] C = some (0, am_up C (14 + 256 * w) 5 (goto n q)) := by
  unfold goto
  by_cases c : q < n
  · have c2 : ¬ n ≤ q := by omega
    simp (disch := omega) only [be_X4_goTo_m, be_X4_goTo_0, be_X4_goTo_1, be_X4_goTo_2, be_X4_goTo_3, Option.bind_some, cond_true, cond_false, decide_true, decide_false, Bool.not_true, Bool.not_false, ite_true, ite_false, and_self, true_and, and_true, or_self, true_or, or_true, false_or, or_false, decide_eq_true_eq, Int.reduceAdd, Int.reduceSub, Int.reduceMul, Int.reduceNeg, Int.reduceEq, Int.reduceLT, Int.reduceLE, Int.reduceNe, lcmp_z, lcmp_le, lcmp_ge, lcmp_lt, lcmp_gt, gf_14, pf_14, h4, decide_eq_false c2, c]
  · have c2 : n ≤ q := by omega
    simp (disch := omega) only [be_X4_goTo_m, be_X4_goTo_0, be_X4_goTo_1, be_X4_goTo_2, be_X4_goTo_3, Option.bind_some, cond_true, cond_false, decide_true, decide_false, Bool.not_true, Bool.not_false, ite_true, ite_false, and_self, true_and, and_true, or_self, true_or, or_true, false_or, or_false, decide_eq_true_eq, Int.reduceAdd, Int.reduceSub, Int.reduceMul, Int.reduceNeg, Int.reduceEq, Int.reduceLT, Int.reduceLE, Int.reduceNe, lcmp_z, lcmp_le, lcmp_ge, lcmp_lt, lcmp_gt, gf_14, pf_14, h4, decide_eq_true c2, c]
theorem q1_b {R : am_M} {w p : Int} {r : Int → Int} (p0 : 0 ≤ p) (p1 : p < R 1077 w) (ha : 0 ≤ R 320 (12 * w + p)) : 0 ≤ (q1 R w p r).1 ∧ (q1 R w p r).1 < R 1077 w := by
  unfold q1
  split
  · dsimp only
    split
    · exact goto_b (by omega) (by omega)
    · exact goto_b ha (by omega)
  · exact goto_b (by omega) (by omega)
set_option maxHeartbeats 4000000 in
theorem na_step {C R : am_M} {w p l1 : Int} {r : Int → Int} (hw : 0 ≤ w) (hC : cshape C w) (hs : st13 C R w) (p0 : 0 ≤ p) (p1 : p < R 1077 w) (hp : C (14 + 256 * w) 5 = p) (hr : ∀ k, 0 ≤ k → k ≤ 3 → C (60 + 256 * w) k = r k) (hq : 2 ≤ R 64 (12 * w + p) ∧ R 64 (12 * w + p) ≤ 5) (l0 : 0 ≤ l1) (l2 : l1 < 100) :
    ∃ C', am_ev am_PP nX4_nextAct 4 [14 + 256 * w, l1] [] C = am_ev am_PP nX4_nextAct 3 [14 + 256 * w, l1 + 1] [] C' ∧ fr2 (tws w) C C' ∧ C' (14 + 256 * w) 5 = (q1 R w p r).1 ∧ (∀ k, 0 ≤ k → k ≤ 3 → C' (60 + 256 * w) k = (q1 R w p r).2 k) ∧ 0 ≤ (q1 R w p r).1 ∧ (q1 R w p r).1 < R 1077 w := by
  obtain ⟨c0, c1, c2, c3, c4, c5, d0, d1, d2, s0, s1, s2, s3⟩ := hC
  obtain ⟨n0, n1, n2, hst⟩ := hs
  obtain ⟨e59, e73, e74, v⟩ := hst p p0 p1
  have va : 0 ≤ R 320 (12 * w + p) := by unfold sv at v; omega
  have hb := q1_b (R := R) (w := w) (r := r) p0 p1 va
  unfold sv at v
  rcases (show R 64 (12 * w + p) = 2 ∨ R 64 (12 * w + p) = 3 ∨ R 64 (12 * w + p) = 4 ∨ R 64 (12 * w + p) = 5 by omega) with e | e | e | e
  · have hq1 : q1 R w p r = (goto (R 1077 w) (p + 1), setr r (R 320 (12 * w + p)) (R 576 (12 * w + p))) := by
      unfold q1; rw [if_neg (by omega), if_pos e]
    rw [hq1] at hb ⊢
    rw [e] at e59
    have hg := fun (M : am_M) (h4 : M (14 + 256 * w) 4 = R 1077 w) => cl_goTo (q := p + 1) hw h4
    simp (disch := omega) only [be_X4_nextAct_4, be_X4_nextAct_5, be_X4_nextAct_7, be_X4_nextAct_10, be_X4_nextAct_11, be_X4_reckon_m, be_X4_reckon_0, be_X4_reckon_1, be_X4_reckon_2, be_X4_reckon_3, be_X4_reckon_4, be_X4_reckon_5, be_X4_reckon_6, be_X4_reckon_7, Option.bind_some, cond_true, cond_false, decide_true, decide_false, Bool.not_true, Bool.not_false, ite_true, ite_false, and_self, true_and, and_true, or_self, true_or, or_true, false_or, or_false, decide_eq_true_eq, Int.reduceAdd, Int.reduceSub, Int.reduceMul, Int.reduceNeg, Int.reduceEq, Int.reduceLT, Int.reduceLE, Int.reduceNe, lcmp_z, lcmp_le, lcmp_ge, lcmp_lt, lcmp_gt, am_up_eq, am_up_nl, am_up_ni, gf_15, pf_15, cls_15, pos_15, gf_11, pf_11, cls_11, pos_11, gf_14, pf_14, cls_14, pos_14, gf_20, cls_20, pos_20, c0, c1, c2, c3, c4, c5, d0, d1, d2, s0, s1, s2, s3, ra_55, al_55, sa0_55, sa_55, ra_56, al_56, sa0_56, sa_56, ra_57, al_57, sa_57, ra_58, al_58, sa0_58, sa1_58, ra_72, al_72, sa0_72, sa1_72, ra_59, al_59, sa_59, ra_73, al_73, sa_73, ra_74, al_74, sa_74, ra_60, al_60, sa_60, hp, n2, e59, e73, e74, am_w32_ok]
    rw [hg _ (by simp (disch := omega) only [am_up_eq, am_up_nl, am_up_ni, n2])]
    refine ⟨_, rfl, ?_, by simp (disch := omega) only [am_up_eq, am_up_nl, am_up_ni], fun k a b => ?_, hb.1, hb.2⟩
    · (repeat' first | exact fr2_refl _ _ | refine fr2_up ?_ ?_) <;> (unfold tws; omega)
    · unfold setr
      by_cases c : k = R 320 (12 * w + p)
      · rw [if_pos c]; simp (disch := omega) only [am_up_nl, am_up_at]
      · rw [if_neg c]; simp (disch := omega) only [am_up_eq, am_up_nl, am_up_ni]; exact hr k a b
  · have hq1 : q1 R w p r = (goto (R 1077 w) (p + 1), setr r (R 320 (12 * w + p)) (am_w64 (r (R 320 (12 * w + p)) + r (R 576 (12 * w + p))))) := by
      unfold q1; rw [if_neg (by omega), if_neg (by omega), if_pos e]
    rw [hq1] at hb ⊢
    rw [e] at e59
    have hg := fun (M : am_M) (h4 : M (14 + 256 * w) 4 = R 1077 w) => cl_goTo (q := p + 1) hw h4
    have ra := hr (R 320 (12 * w + p)) (by omega) (by omega)
    have rb := hr (R 576 (12 * w + p)) (by omega) (by omega)
    simp (disch := omega) only [be_X4_nextAct_4, be_X4_nextAct_5, be_X4_nextAct_7, be_X4_nextAct_10, be_X4_nextAct_11, be_X4_reckon_m, be_X4_reckon_0, be_X4_reckon_1, be_X4_reckon_2, be_X4_reckon_3, be_X4_reckon_4, be_X4_reckon_5, be_X4_reckon_6, be_X4_reckon_7, Option.bind_some, cond_true, cond_false, decide_true, decide_false, Bool.not_true, Bool.not_false, ite_true, ite_false, and_self, true_and, and_true, or_self, true_or, or_true, false_or, or_false, decide_eq_true_eq, Int.reduceAdd, Int.reduceSub, Int.reduceMul, Int.reduceNeg, Int.reduceEq, Int.reduceLT, Int.reduceLE, Int.reduceNe, lcmp_z, lcmp_le, lcmp_ge, lcmp_lt, lcmp_gt, am_up_eq, am_up_nl, am_up_ni, gf_15, pf_15, cls_15, pos_15, gf_11, pf_11, cls_11, pos_11, gf_14, pf_14, cls_14, pos_14, gf_20, cls_20, pos_20, c0, c1, c2, c3, c4, c5, d0, d1, d2, s0, s1, s2, s3, ra_55, al_55, sa0_55, sa_55, ra_56, al_56, sa0_56, sa_56, ra_57, al_57, sa_57, ra_58, al_58, sa0_58, sa1_58, ra_72, al_72, sa0_72, sa1_72, ra_59, al_59, sa_59, ra_73, al_73, sa_73, ra_74, al_74, sa_74, ra_60, al_60, sa_60, hp, n2, e59, e73, e74, am_w32_ok, ra, rb]
    rw [hg _ (by simp (disch := omega) only [am_up_eq, am_up_nl, am_up_ni, n2])]
    refine ⟨_, rfl, ?_, by simp (disch := omega) only [am_up_eq, am_up_nl, am_up_ni], fun k a b => ?_, hb.1, hb.2⟩
    · (repeat' first | exact fr2_refl _ _ | refine fr2_up ?_ ?_) <;> (unfold tws; omega)
    · unfold setr
      by_cases c : k = R 320 (12 * w + p)
      · rw [if_pos c]; simp (disch := omega) only [am_up_nl, am_up_at]
      · rw [if_neg c]; simp (disch := omega) only [am_up_eq, am_up_nl, am_up_ni]; exact hr k a b
  · have hq1 : q1 R w p r = (goto (R 1077 w) (p + 1), setr r (R 320 (12 * w + p)) (if r (R 320 (12 * w + p)) < r (R 576 (12 * w + p)) then 1 else 0)) := by
      unfold q1; rw [if_neg (by omega), if_neg (by omega), if_neg (by omega)]
    rw [hq1] at hb ⊢
    rw [e] at e59
    have hg := fun (M : am_M) (h4 : M (14 + 256 * w) 4 = R 1077 w) => cl_goTo (q := p + 1) hw h4
    have ra := hr (R 320 (12 * w + p)) (by omega) (by omega)
    have rb := hr (R 576 (12 * w + p)) (by omega) (by omega)
    by_cases cl : r (R 320 (12 * w + p)) < r (R 576 (12 * w + p))
    · have cl2 : ¬ r (R 576 (12 * w + p)) ≤ r (R 320 (12 * w + p)) := by omega
      simp (disch := omega) only [be_X4_nextAct_4, be_X4_nextAct_5, be_X4_nextAct_7, be_X4_nextAct_10, be_X4_nextAct_11, be_X4_reckon_m, be_X4_reckon_0, be_X4_reckon_1, be_X4_reckon_2, be_X4_reckon_3, be_X4_reckon_4, be_X4_reckon_5, be_X4_reckon_6, be_X4_reckon_7, Option.bind_some, cond_true, cond_false, decide_true, decide_false, Bool.not_true, Bool.not_false, ite_true, ite_false, and_self, true_and, and_true, or_self, true_or, or_true, false_or, or_false, decide_eq_true_eq, Int.reduceAdd, Int.reduceSub, Int.reduceMul, Int.reduceNeg, Int.reduceEq, Int.reduceLT, Int.reduceLE, Int.reduceNe, lcmp_z, lcmp_le, lcmp_ge, lcmp_lt, lcmp_gt, am_up_eq, am_up_nl, am_up_ni, gf_15, pf_15, cls_15, pos_15, gf_11, pf_11, cls_11, pos_11, gf_14, pf_14, cls_14, pos_14, gf_20, cls_20, pos_20, c0, c1, c2, c3, c4, c5, d0, d1, d2, s0, s1, s2, s3, ra_55, al_55, sa0_55, sa_55, ra_56, al_56, sa0_56, sa_56, ra_57, al_57, sa_57, ra_58, al_58, sa0_58, sa1_58, ra_72, al_72, sa0_72, sa1_72, ra_59, al_59, sa_59, ra_73, al_73, sa_73, ra_74, al_74, sa_74, ra_60, al_60, sa_60, hp, n2, e59, e73, e74, am_w32_ok, ra, rb, cl, decide_eq_false cl2]
      rw [hg _ (by simp (disch := omega) only [am_up_eq, am_up_nl, am_up_ni, n2])]
      refine ⟨_, rfl, ?_, by simp (disch := omega) only [am_up_eq, am_up_nl, am_up_ni], fun k a b => ?_, hb.1, hb.2⟩
      · (repeat' first | exact fr2_refl _ _ | refine fr2_up ?_ ?_) <;> (unfold tws; omega)
      · unfold setr
        by_cases c : k = R 320 (12 * w + p)
        · rw [if_pos c]; simp (disch := omega) only [am_up_nl, am_up_at]
        · rw [if_neg c]; simp (disch := omega) only [am_up_eq, am_up_nl, am_up_ni]; exact hr k a b
    · have cl2 : r (R 576 (12 * w + p)) ≤ r (R 320 (12 * w + p)) := by omega
      simp (disch := omega) only [be_X4_nextAct_4, be_X4_nextAct_5, be_X4_nextAct_7, be_X4_nextAct_10, be_X4_nextAct_11, be_X4_reckon_m, be_X4_reckon_0, be_X4_reckon_1, be_X4_reckon_2, be_X4_reckon_3, be_X4_reckon_4, be_X4_reckon_5, be_X4_reckon_6, be_X4_reckon_7, Option.bind_some, cond_true, cond_false, decide_true, decide_false, Bool.not_true, Bool.not_false, ite_true, ite_false, and_self, true_and, and_true, or_self, true_or, or_true, false_or, or_false, decide_eq_true_eq, Int.reduceAdd, Int.reduceSub, Int.reduceMul, Int.reduceNeg, Int.reduceEq, Int.reduceLT, Int.reduceLE, Int.reduceNe, lcmp_z, lcmp_le, lcmp_ge, lcmp_lt, lcmp_gt, am_up_eq, am_up_nl, am_up_ni, gf_15, pf_15, cls_15, pos_15, gf_11, pf_11, cls_11, pos_11, gf_14, pf_14, cls_14, pos_14, gf_20, cls_20, pos_20, c0, c1, c2, c3, c4, c5, d0, d1, d2, s0, s1, s2, s3, ra_55, al_55, sa0_55, sa_55, ra_56, al_56, sa0_56, sa_56, ra_57, al_57, sa_57, ra_58, al_58, sa0_58, sa1_58, ra_72, al_72, sa0_72, sa1_72, ra_59, al_59, sa_59, ra_73, al_73, sa_73, ra_74, al_74, sa_74, ra_60, al_60, sa_60, hp, n2, e59, e73, e74, am_w32_ok, ra, rb, cl, decide_eq_true cl2]
      rw [hg _ (by simp (disch := omega) only [am_up_eq, am_up_nl, am_up_ni, n2])]
      refine ⟨_, rfl, ?_, by simp (disch := omega) only [am_up_eq, am_up_nl, am_up_ni], fun k a b => ?_, hb.1, hb.2⟩
      · (repeat' first | exact fr2_refl _ _ | refine fr2_up ?_ ?_) <;> (unfold tws; omega)
      · unfold setr
        by_cases c : k = R 320 (12 * w + p)
        · rw [if_pos c]; simp (disch := omega) only [am_up_nl, am_up_at]
        · rw [if_neg c]; simp (disch := omega) only [am_up_eq, am_up_nl, am_up_ni]; exact hr k a b
  · rw [e] at e59
    have rb := hr (R 576 (12 * w + p)) (by omega) (by omega)
    by_cases cl : r (R 576 (12 * w + p)) = 0
    · have hq1 : q1 R w p r = (goto (R 1077 w) (p + 1), r) := by
        unfold q1; rw [if_pos e, if_pos cl]
      rw [hq1] at hb ⊢
      have hg := fun (M : am_M) (h4 : M (14 + 256 * w) 4 = R 1077 w) => cl_goTo (q := p + 1) hw h4
      simp (disch := omega) only [be_X4_nextAct_4, be_X4_nextAct_5, be_X4_nextAct_7, be_X4_nextAct_8, be_X4_nextAct_10, be_X4_nextAct_11, be_X4_reckon_m, be_X4_reckon_0, be_X4_reckon_1, be_X4_reckon_2, be_X4_reckon_3, be_X4_reckon_4, be_X4_reckon_5, be_X4_reckon_6, be_X4_reckon_7, Option.bind_some, cond_true, cond_false, decide_true, decide_false, Bool.not_true, Bool.not_false, ite_true, ite_false, and_self, true_and, and_true, or_self, true_or, or_true, false_or, or_false, decide_eq_true_eq, Int.reduceAdd, Int.reduceSub, Int.reduceMul, Int.reduceNeg, Int.reduceEq, Int.reduceLT, Int.reduceLE, Int.reduceNe, lcmp_z, lcmp_le, lcmp_ge, lcmp_lt, lcmp_gt, am_up_eq, am_up_nl, am_up_ni, gf_15, pf_15, cls_15, pos_15, gf_11, pf_11, cls_11, pos_11, gf_14, pf_14, cls_14, pos_14, gf_20, cls_20, pos_20, c0, c1, c2, c3, c4, c5, d0, d1, d2, s0, s1, s2, s3, ra_55, al_55, sa0_55, sa_55, ra_56, al_56, sa0_56, sa_56, ra_57, al_57, sa_57, ra_58, al_58, sa0_58, sa1_58, ra_72, al_72, sa0_72, sa1_72, ra_59, al_59, sa_59, ra_73, al_73, sa_73, ra_74, al_74, sa_74, ra_60, al_60, sa_60, hp, n2, e59, e73, e74, am_w32_ok, rb, cl]
      rw [hg _ n2]
      refine ⟨_, rfl, ?_, by simp (disch := omega) only [am_up_eq, am_up_nl, am_up_ni], fun k a b => ?_, hb.1, hb.2⟩
      · (repeat' first | exact fr2_refl _ _ | refine fr2_up ?_ ?_) <;> (unfold tws; omega)
      · simp (disch := omega) only [am_up_eq, am_up_nl, am_up_ni]; exact hr k a b
    · have hq1 : q1 R w p r = (goto (R 1077 w) (R 320 (12 * w + p)), r) := by
        unfold q1; rw [if_pos e, if_neg cl]
      rw [hq1] at hb ⊢
      have hg := fun (M : am_M) (h4 : M (14 + 256 * w) 4 = R 1077 w) => cl_goTo (q := R 320 (12 * w + p)) hw h4
      simp (disch := omega) only [be_X4_nextAct_4, be_X4_nextAct_5, be_X4_nextAct_7, be_X4_nextAct_8, be_X4_nextAct_9, be_X4_nextAct_11, Option.bind_some, cond_true, cond_false, decide_true, decide_false, Bool.not_true, Bool.not_false, ite_true, ite_false, and_self, true_and, and_true, or_self, true_or, or_true, false_or, or_false, decide_eq_true_eq, Int.reduceAdd, Int.reduceSub, Int.reduceMul, Int.reduceNeg, Int.reduceEq, Int.reduceLT, Int.reduceLE, Int.reduceNe, lcmp_z, lcmp_le, lcmp_ge, lcmp_lt, lcmp_gt, am_up_eq, am_up_nl, am_up_ni, gf_15, pf_15, cls_15, pos_15, gf_11, pf_11, cls_11, pos_11, gf_14, pf_14, cls_14, pos_14, gf_20, cls_20, pos_20, c0, c1, c2, c3, c4, c5, d0, d1, d2, s0, s1, s2, s3, ra_55, al_55, sa0_55, sa_55, ra_56, al_56, sa0_56, sa_56, ra_57, al_57, sa_57, ra_58, al_58, sa0_58, sa1_58, ra_72, al_72, sa0_72, sa1_72, ra_59, al_59, sa_59, ra_73, al_73, sa_73, ra_74, al_74, sa_74, ra_60, al_60, sa_60, hp, n2, e59, e73, e74, am_w32_ok, rb, cl, hg C n2]
      refine ⟨_, rfl, ?_, by simp (disch := omega) only [am_up_eq, am_up_nl, am_up_ni], fun k a b => ?_, hb.1, hb.2⟩
      · (repeat' first | exact fr2_refl _ _ | refine fr2_up ?_ ?_) <;> (unfold tws; omega)
      · simp (disch := omega) only [am_up_eq, am_up_nl, am_up_ni]; exact hr k a b
theorem st13_fr {C C' R : am_M} {w : Int} (h : st13 C R w) (hf : fr2 (twr w) C C') : st13 C' R w := by
  obtain ⟨a, b, c, d⟩ := h
  refine ⟨a, b, (hf _ _ (by unfold twr twa; omega)).trans c, fun i h0 h1 => ?_⟩
  obtain ⟨x, y, z, v⟩ := d i h0 h1
  exact ⟨(hf _ _ (by unfold twr twa; omega)).trans x, (hf _ _ (by unfold twr twa; omega)).trans y, (hf _ _ (by unfold twr twa; omega)).trans z, v⟩
theorem na_loop {R : am_M} {w : Int} (hw : 0 ≤ w) : ∀ (f : Nat) (C : am_M) (p : Int) (r : Int → Int), f ≤ 100 → cshape C w → st13 C R w → 0 ≤ p → p < R 1077 w → C (14 + 256 * w) 5 = p → (∀ k, 0 ≤ k → k ≤ 3 → C (60 + 256 * w) k = r k) →
    ∃ C', am_ev am_PP nX4_nextAct 3 [14 + 256 * w, 100 - (f : Int)] [] C = some ((qs R w f p r).1, C') ∧ fr2 (tws w) C C' ∧ C' (14 + 256 * w) 5 = (qs R w f p r).2.1 ∧ (∀ k, 0 ≤ k → k ≤ 3 → C' (60 + 256 * w) k = (qs R w f p r).2.2 k) ∧ 0 ≤ (qs R w f p r).2.1 ∧ (qs R w f p r).2.1 < R 1077 w := by
  intro f
  induction f with
  | zero =>
    intro C p r hf hC hs p0 p1 hp hr
    rw [be_X4_nextAct_3, decide_eq_true (by omega), cond_true, be_X4_nextAct_12]
    exact ⟨C, rfl, fr2_refl _ _, hp, hr, p0, p1⟩
  | succ f ih =>
    intro C p r hf hC hs p0 p1 hp hr
    rw [be_X4_nextAct_3, decide_eq_false (by omega), cond_false]
    unfold qs
    by_cases c : 2 ≤ R 64 (12 * w + p) ∧ R 64 (12 * w + p) ≤ 5
    · rw [if_pos c]
      obtain ⟨C1, e1, e2, e3, e4, e5, e6⟩ := na_step (l1 := 100 - ((f + 1 : Nat) : Int)) hw hC hs p0 p1 hp hr c (by omega) (by omega)
      rw [e1, show (100 : Int) - ((f + 1 : Nat) : Int) + 1 = 100 - (f : Int) by omega]
      have fw := fr2_mono (fun _ _ q => twa_twr (tws_twa q)) e2
      obtain ⟨C2, g1, g2, g3⟩ := ih C1 (q1 R w p r).1 (q1 R w p r).2 (by omega) (cshape_fr hC fw) (st13_fr hs fw) e5 e6 e3 e4
      exact ⟨C2, g1, fr2_trans e2 g2, g3⟩
    · rw [if_neg c]
      obtain ⟨e59, _, _, v⟩ := hs.2.2.2 p p0 p1
      have n1 := hs.2.1
      unfold sv at v
      obtain ⟨c0, c1, c2, c3, c4, c5, d0, d1, d2, s0, s1, s2, s3⟩ := hC
      rcases (show R 64 (12 * w + p) < 2 ∨ ¬ (R 64 (12 * w + p) < 2) by omega) with c2 | c2
      · have n2 := hs.2.2.1
        simp (disch := omega) only [be_X4_nextAct_4, be_X4_nextAct_6, Option.bind_some, cond_true, cond_false, decide_true, decide_false, Bool.not_true, Bool.not_false, ite_true, ite_false, and_self, true_and, and_true, or_self, true_or, or_true, false_or, or_false, decide_eq_true_eq, Int.reduceAdd, Int.reduceSub, Int.reduceMul, Int.reduceNeg, Int.reduceEq, Int.reduceLT, Int.reduceLE, Int.reduceNe, lcmp_z, lcmp_le, lcmp_ge, lcmp_lt, lcmp_gt, gf_15, pf_15, cls_15, pos_15, gf_11, pf_11, cls_11, pos_11, gf_14, pf_14, cls_14, pos_14, gf_20, cls_20, pos_20, c0, c1, c2, c3, c4, c5, d0, d1, d2, s0, s1, s2, s3, ra_55, al_55, sa0_55, sa_55, ra_56, al_56, sa0_56, sa_56, ra_57, al_57, sa_57, ra_58, al_58, sa0_58, sa1_58, ra_72, al_72, sa0_72, sa1_72, ra_59, al_59, sa_59, ra_73, al_73, sa_73, ra_74, al_74, sa_74, ra_60, al_60, sa_60, hp, e59, decide_eq_true c2]
        exact ⟨C, rfl, fr2_refl _ _, hp, hr, p0, p1⟩
      · have c3 : ¬ R 64 (12 * w + p) ≤ 5 := by omega
        simp (disch := omega) only [be_X4_nextAct_4, be_X4_nextAct_5, be_X4_nextAct_6, Option.bind_some, cond_true, cond_false, decide_true, decide_false, Bool.not_true, Bool.not_false, ite_true, ite_false, and_self, true_and, and_true, or_self, true_or, or_true, false_or, or_false, decide_eq_true_eq, Int.reduceAdd, Int.reduceSub, Int.reduceMul, Int.reduceNeg, Int.reduceEq, Int.reduceLT, Int.reduceLE, Int.reduceNe, lcmp_z, lcmp_le, lcmp_ge, lcmp_lt, lcmp_gt, gf_15, pf_15, cls_15, pos_15, gf_11, pf_11, cls_11, pos_11, gf_14, pf_14, cls_14, pos_14, gf_20, cls_20, pos_20, c0, c1, c2, c3, c4, c5, d0, d1, d2, s0, s1, s2, s3, ra_55, al_55, sa0_55, sa_55, ra_56, al_56, sa0_56, sa_56, ra_57, al_57, sa_57, ra_58, al_58, sa0_58, sa1_58, ra_72, al_72, sa0_72, sa1_72, ra_59, al_59, sa_59, ra_73, al_73, sa_73, ra_74, al_74, sa_74, ra_60, al_60, sa_60, hp, e59, decide_eq_false c2, decide_eq_false c3]
        exact ⟨C, rfl, fr2_refl _ _, hp, hr, p0, p1⟩
