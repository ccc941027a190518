/-! a weaver begins anew -/
def twQ (w L i : Int) : Prop := twa w L i ∨ (L = 15 + 256 * w ∧ 12 ≤ i ∧ i ≤ 14)
def twR (w L i : Int) : Prop := twr w L i ∨ (L = 15 + 256 * w ∧ 12 ≤ i ∧ i ≤ 14)
theorem twQ_twR {w L i : Int} (h : twQ w L i) : twR w L i := h.imp (fun q => twa_twr q) id
theorem cshape_frR {C C' : am_M} {w : Int} (h : cshape C w) (hf : fr2 (twR w) C C') : cshape C' w := by
  obtain ⟨c0, c1, c2, c3, c4, c5, d0, d1, d2, s0, s1, s2, s3⟩ := h
  have e : ∀ L i, ¬ twR w L i → C' L i = C L i := hf
  refine ⟨(e _ _ ?_).trans c0, (e _ _ ?_).trans c1, (e _ _ ?_).trans c2, (e _ _ ?_).trans c3, (e _ _ ?_).trans c4, (e _ _ ?_).trans c5, (e _ _ ?_).trans d0, (e _ _ ?_).trans d1, (e _ _ ?_).trans d2, (e _ _ ?_).trans s0, (e _ _ ?_).trans s1, (e _ _ ?_).trans s2, (e _ _ ?_).trans s3⟩ <;> (unfold twR twr twa; omega)
theorem st13_frR {C C' R : am_M} {w : Int} (h : st13 C R w) (hf : fr2 (twR w) C C') : st13 C' R w := by
  obtain ⟨a, b, c, d⟩ := h
  refine ⟨a, b, (hf _ _ (by unfold twR twr twa; omega)).trans c, fun i h0 h1 => ?_⟩
  obtain ⟨x, y, z, v⟩ := d i h0 h1
  exact ⟨(hf _ _ (by unfold twR twr twa; omega)).trans x, (hf _ _ (by unfold twR twr twa; omega)).trans y, (hf _ _ (by unfold twR twr twa; omega)).trans z, v⟩
theorem cl_handEmpty {C : am_M} {w : Int} (hw : 0 ≤ w) (hC : cshape C w) : am_evm am_PP nX1_empty [(2, 11 + 256 * w)] C = some (0, am_up (am_up (am_up (am_up (am_up C (11 + 256 * w) 3 0) (58 + 256 * w) 0 0) (72 + 256 * w) 0 0) (58 + 256 * w) 1 0) (72 + 256 * w) 1 0) := by
  obtain ⟨c0, c1, c2, c3, c4, c5, d0, d1, d2, s0, s1, s2, s3⟩ := hC
  simp (disch := omega) only [↓bpos, ↓bneg, be_X1_empty_m, be_X1_empty_0, be_X1_empty_1, be_X1_empty_2, be_X1_empty_3, Option.bind_some, cond_true, cond_false, decide_true, decide_false, Bool.not_true, Bool.not_false, ite_true, ite_false, and_self, true_and, and_true, or_self, true_or, or_true, false_or, or_false, decide_eq_true_eq, Int.reduceAdd, Int.reduceSub, Int.reduceMul, Int.reduceNeg, Int.reduceEq, Int.reduceLT, Int.reduceLE, Int.reduceNe, lcmp_z, lcmp_le, lcmp_ge, lcmp_lt, lcmp_gt, am_up_eq, am_up_nl, am_up_ni, gf_15, pf_15, cls_15, pos_15, gf_11, pf_11, cls_11, pos_11, gf_14, pf_14, cls_14, pos_14, gf_20, cls_20, pos_20, pf_20, c0, c1, c2, c3, c4, c5, d0, d1, d2, s0, s1, s2, s3, ra_55, al_55, sa0_55, sa_55, ra_56, al_56, sa0_56, sa_56, ra_57, al_57, sa_57, ra_58, al_58, sa0_58, sa1_58, ra_72, al_72, sa0_72, sa1_72, ra_59, al_59, sa_59, ra_73, al_73, sa_73, ra_74, al_74, sa_74, ra_60, al_60, sa_60, am_w32_ok]
theorem cl_scriptRestart {C : am_M} {w : Int} (hw : 0 ≤ w) (hC : cshape C w) : am_evm am_PP nX4_restart [(2, 14 + 256 * w)] C = some (0, am_up (am_up (am_up (am_up (am_up C (14 + 256 * w) 5 0) (60 + 256 * w) 0 0) (60 + 256 * w) 1 0) (60 + 256 * w) 2 0) (60 + 256 * w) 3 0) := by
  obtain ⟨c0, c1, c2, c3, c4, c5, d0, d1, d2, s0, s1, s2, s3⟩ := hC
  simp (disch := omega) only [be_X4_restart_m, be_X4_restart_0, be_J7_fill_d0a16_m, be_J7_fill_d0a16_0, Option.bind_some, cond_true, cond_false, decide_true, decide_false, Bool.not_true, Bool.not_false, ite_true, ite_false, and_self, true_and, and_true, or_self, true_or, or_true, false_or, or_false, decide_eq_true_eq, Int.reduceAdd, Int.reduceSub, Int.reduceMul, Int.reduceNeg, Int.reduceEq, Int.reduceLT, Int.reduceLE, Int.reduceNe, lcmp_z, lcmp_le, lcmp_ge, lcmp_lt, lcmp_gt, am_up_eq, am_up_nl, am_up_ni, gf_15, pf_15, cls_15, pos_15, gf_11, pf_11, cls_11, pos_11, gf_14, pf_14, cls_14, pos_14, gf_20, cls_20, pos_20, pf_20, c0, c1, c2, c3, c4, c5, d0, d1, d2, s0, s1, s2, s3, ra_55, al_55, sa0_55, sa_55, ra_56, al_56, sa0_56, sa_56, ra_57, al_57, sa_57, ra_58, al_58, sa0_58, sa1_58, ra_72, al_72, sa0_72, sa1_72, ra_59, al_59, sa_59, ra_73, al_73, sa_73, ra_74, al_74, sa_74, ra_60, al_60, sa_60]
  simp (disch := omega) only [↓bpos, ↓bneg, be_J7_fill_d0a16_1, be_J7_fill_d0a16_2, be_J7_fill_d0a16_3, Option.bind_some, cond_true, cond_false, decide_true, decide_false, Bool.not_true, Bool.not_false, ite_true, ite_false, and_self, true_and, and_true, or_self, true_or, or_true, false_or, or_false, decide_eq_true_eq, Int.reduceAdd, Int.reduceSub, Int.reduceMul, Int.reduceNeg, Int.reduceEq, Int.reduceLT, Int.reduceLE, Int.reduceNe, lcmp_z, lcmp_le, lcmp_ge, lcmp_lt, lcmp_gt, ra_55, al_55, sa0_55, sa_55, ra_56, al_56, sa0_56, sa_56, ra_57, al_57, sa_57, ra_58, al_58, sa0_58, sa1_58, ra_72, al_72, sa0_72, sa1_72, ra_59, al_59, sa_59, ra_73, al_73, sa_73, ra_74, al_74, sa_74, ra_60, al_60, sa_60, am_w32_ok]
/-- the reference's weaver at a run's begin -/
def ri (R : am_M) (w : Int) : Prop := R 1589 w = (if R 309 w = 3 then 2 else 0) ∧ R 566 w = (if R 309 w = 3 then R 565 w else 0) ∧ R 822 w = 0 ∧ R 1845 w = 0 ∧ R 2869 w = 0 ∧ R 3125 w = 0 ∧ R 71 w = 0 ∧ ∀ k, 0 ≤ k → k ≤ 3 → R 66 (4 * w + k) = 0
def c1f (C : am_M) (w : Int) : Prop := C (15 + 256 * w) 12 = 0 ∧ C (15 + 256 * w) 13 = 0 ∧ C (15 + 256 * w) 14 = w ∧ C (15 + 256 * w) 11 = 0 ∧ C (15 + 256 * w) 10 = 0 ∧ C (15 + 256 * w) 15 = 0 ∧ C (11 + 256 * w) 3 = 0 ∧ C (58 + 256 * w) 0 = 0 ∧ C (58 + 256 * w) 1 = 0 ∧ C (72 + 256 * w) 0 = 0 ∧ C (72 + 256 * w) 1 = 0 ∧ C (14 + 256 * w) 5 = 0 ∧ ∀ k, 0 ≤ k → k ≤ 3 → C (60 + 256 * w) k = 0
set_option maxHeartbeats 4000000 in
theorem restart_pre {C : am_M} {w k : Int} (hw : 0 ≤ w) (hw2 : w < 40) (hC : cshape C w) (hk : C (15 + 256 * w) 6 = k) (hr : ∃ n f, row C (20 + 256 * w) n f) :
    ∃ C1, am_evm am_PP nX5_restart [(2, 15 + 256 * w)] C = am_ev am_PP nX5_restart 2 [15 + 256 * w] [] C1 ∧ c1f C1 w ∧ (k ≠ 9 → fr2 (twQ w) C C1) ∧ (k = 9 → fr2 (twR w) C C1 ∧ ∀ f, row C1 (20 + 256 * w) 0 f) := by
  obtain ⟨n, f, hr⟩ := hr
  obtain ⟨c0, c1, c2, c3, c4, c5, d0, d1, d2, s0, s1, s2, s3⟩ := id hC
  have e1 := fun (M : am_M) (h : cshape M w) => cl_handEmpty hw h
  have e2 := fun (M : am_M) (h : cshape M w) => cl_scriptRestart hw h
  rw [be_X5_restart_m, be_X5_restart_0]
  simp (disch := omega) only [Option.bind_some, cond_true, cond_false, decide_true, decide_false, Bool.not_true, Bool.not_false, ite_true, ite_false, and_self, true_and, and_true, or_self, true_or, or_true, false_or, or_false, decide_eq_true_eq, Int.reduceAdd, Int.reduceSub, Int.reduceMul, Int.reduceNeg, Int.reduceEq, Int.reduceLT, Int.reduceLE, Int.reduceNe, lcmp_z, lcmp_le, lcmp_ge, lcmp_lt, lcmp_gt, am_up_eq, am_up_nl, am_up_ni, gf_15, pf_15, cls_15, pos_15, gf_11, pf_11, cls_11, pos_11, gf_14, pf_14, cls_14, pos_14, gf_20, cls_20, pos_20, pf_20, c0, c1, c2, c3, c4, c5, d0, d1, d2, s0, s1, s2, s3]
  have f1 : fr2 (twQ w) C (am_up (am_up (am_up (am_up (am_up (am_up C (15 + 256 * w) 12 0) (15 + 256 * w) 13 0) (15 + 256 * w) 11 0) (15 + 256 * w) 10 0) (15 + 256 * w) 14 w) (15 + 256 * w) 15 0) := by
    (repeat' first | exact fr2_refl _ _ | refine fr2_up ?_ ?_) <;> (unfold twQ twa; omega)
  rw [e1 _ (cshape_frR hC (fr2_mono (fun _ _ => twQ_twR) f1))]
  simp (disch := omega) only [Option.bind_some, cond_true, cond_false, decide_true, decide_false, Bool.not_true, Bool.not_false, ite_true, ite_false, and_self, true_and, and_true, or_self, true_or, or_true, false_or, or_false, decide_eq_true_eq, Int.reduceAdd, Int.reduceSub, Int.reduceMul, Int.reduceNeg, Int.reduceEq, Int.reduceLT, Int.reduceLE, Int.reduceNe, lcmp_z, lcmp_le, lcmp_ge, lcmp_lt, lcmp_gt, am_up_eq, am_up_nl, am_up_ni, gf_15, pf_15, cls_15, pos_15, gf_11, pf_11, cls_11, pos_11, gf_14, pf_14, cls_14, pos_14, gf_20, cls_20, pos_20, pf_20, c0, c1, c2, c3, c4, c5, d0, d1, d2, s0, s1, s2, s3]
  rw [e2 _ (cshape_frR hC (fr2_mono (fun _ _ => twQ_twR) (by (repeat' first | exact f1 | refine fr2_up ?_ ?_) <;> (unfold twQ twa; omega))))]
  by_cases c : k = 9
  · rw [c] at hk
    simp (disch := omega) only [Option.bind_some, cond_true, cond_false, decide_true, decide_false, Bool.not_true, Bool.not_false, ite_true, ite_false, and_self, true_and, and_true, or_self, true_or, or_true, false_or, or_false, decide_eq_true_eq, Int.reduceAdd, Int.reduceSub, Int.reduceMul, Int.reduceNeg, Int.reduceEq, Int.reduceLT, Int.reduceLE, Int.reduceNe, lcmp_z, lcmp_le, lcmp_ge, lcmp_lt, lcmp_gt, am_up_eq, am_up_nl, am_up_ni, gf_15, pf_15, cls_15, pos_15, gf_11, pf_11, cls_11, pos_11, gf_14, pf_14, cls_14, pos_14, gf_20, cls_20, pos_20, pf_20, c0, c1, c2, c3, c4, c5, d0, d1, d2, s0, s1, s2, s3, hk, be_X5_restart_1, be_X3_empty_m, be_X3_empty_0]
    refine ⟨_, rfl, ⟨by simp (disch := omega) only [am_up_eq, am_up_nl, am_up_ni], by simp (disch := omega) only [am_up_eq, am_up_nl, am_up_ni], by simp (disch := omega) only [am_up_eq, am_up_nl, am_up_ni], by simp (disch := omega) only [am_up_eq, am_up_nl, am_up_ni], by simp (disch := omega) only [am_up_eq, am_up_nl, am_up_ni], by simp (disch := omega) only [am_up_eq, am_up_nl, am_up_ni], by simp (disch := omega) only [am_up_eq, am_up_nl, am_up_ni], by simp (disch := omega) only [am_up_eq, am_up_nl, am_up_ni], by simp (disch := omega) only [am_up_eq, am_up_nl, am_up_ni], by simp (disch := omega) only [am_up_eq, am_up_nl, am_up_ni], by simp (disch := omega) only [am_up_eq, am_up_nl, am_up_ni], by simp (disch := omega) only [am_up_eq, am_up_nl, am_up_ni], fun k a b => ?_⟩, fun q => absurd c q, fun _ => ⟨?_, fun g => ?_⟩⟩
    · rcases (show k = 0 ∨ k = 1 ∨ k = 2 ∨ k = 3 by omega) with rfl | rfl | rfl | rfl <;> simp (disch := omega) only [am_up_eq, am_up_nl, am_up_ni]
    · (repeat' first | exact fr2_mono (fun _ _ => twQ_twR) f1 | refine fr2_up ?_ ?_) <;> (unfold twR twr twa; omega)
    · refine row_ext (f := g) (rok_w hw hw2) (row_empty (f' := g) (rok_w hw hw2) hr) (fun L i q => ?_) (fun L q => ?_) (fun _ _ _ _ => rfl)
      · unfold rt at q
        by_cases x : L = 20 + 256 * w
        · subst x
          by_cases y : i = 1
          · subst y; simp (disch := omega) only [am_up_eq, am_up_nl, am_up_ni]
          · simp (disch := omega) only [am_up_eq, am_up_nl, am_up_ni]
        · simp (disch := omega) only [am_up_eq, am_up_nl, am_up_ni]
      · simp (disch := omega) only [am_up_eq, am_up_nl, am_up_ni]
  · have hk9 : (C (15 + 256 * w) 6 = 9) = False := eq_false (by omega)
    simp (disch := omega) only [Option.bind_some, cond_true, cond_false, decide_true, decide_false, Bool.not_true, Bool.not_false, ite_true, ite_false, and_self, true_and, and_true, or_self, true_or, or_true, false_or, or_false, decide_eq_true_eq, Int.reduceAdd, Int.reduceSub, Int.reduceMul, Int.reduceNeg, Int.reduceEq, Int.reduceLT, Int.reduceLE, Int.reduceNe, lcmp_z, lcmp_le, lcmp_ge, lcmp_lt, lcmp_gt, am_up_eq, am_up_nl, am_up_ni, gf_15, pf_15, cls_15, pos_15, gf_11, pf_11, cls_11, pos_11, gf_14, pf_14, cls_14, pos_14, gf_20, cls_20, pos_20, pf_20, c0, c1, c2, c3, c4, c5, d0, d1, d2, s0, s1, s2, s3, hk9]
    refine ⟨_, rfl, ⟨by simp (disch := omega) only [am_up_eq, am_up_nl, am_up_ni], by simp (disch := omega) only [am_up_eq, am_up_nl, am_up_ni], by simp (disch := omega) only [am_up_eq, am_up_nl, am_up_ni], by simp (disch := omega) only [am_up_eq, am_up_nl, am_up_ni], by simp (disch := omega) only [am_up_eq, am_up_nl, am_up_ni], by simp (disch := omega) only [am_up_eq, am_up_nl, am_up_ni], by simp (disch := omega) only [am_up_eq, am_up_nl, am_up_ni], by simp (disch := omega) only [am_up_eq, am_up_nl, am_up_ni], by simp (disch := omega) only [am_up_eq, am_up_nl, am_up_ni], by simp (disch := omega) only [am_up_eq, am_up_nl, am_up_ni], by simp (disch := omega) only [am_up_eq, am_up_nl, am_up_ni], by simp (disch := omega) only [am_up_eq, am_up_nl, am_up_ni], fun k a b => ?_⟩, fun _ => ?_, fun q => absurd q c⟩
    · rcases (show k = 0 ∨ k = 1 ∨ k = 2 ∨ k = 3 by omega) with rfl | rfl | rfl | rfl <;> simp (disch := omega) only [am_up_eq, am_up_nl, am_up_ni]
    · (repeat' first | exact f1 | refine fr2_up ?_ ?_) <;> (unfold twQ twa; omega)
set_option maxHeartbeats 8000000 in
theorem restart_two {C1 R : am_M} {w : Int} (hw : 0 ≤ w) (hw2 : w < 40) (hs : sw C1 R w) (hi : ri R w) (hf : c1f C1 w) :
    ∃ C', am_ev am_PP nX5_restart 2 [15 + 256 * w] [] C1 = some (0, C') ∧ fr2 (twa w) C1 C' ∧ ws C' R w := by
  obtain ⟨hC, hk, ha, k0, k1, a2, a5, a11, a12, a0, a13, ar⟩ := hs
  obtain ⟨i1, i2, i3, i4, i5, i6, i7, i8⟩ := hi
  obtain ⟨f12, f13, f14, f11, f10, f15, g3, g58, g581, g72, g721, g5, g60⟩ := hf
  obtain ⟨c0, c1, c2, c3, c4, c5, d0, d1, d2, s0, s1, s2, s3⟩ := id hC
  have rd : ∀ k, R 309 w = k → (k ≠ 0 ∧ k ≠ 3 ∧ k ≠ 12 ∧ k ≠ 13) → am_ev am_PP nX5_restart 2 [15 + 256 * w] [] C1 = some (0, am_up (am_up C1 (15 + 256 * w) 8 0) (15 + 256 * w) 9 0) := by
    intro k hk' hne
    have q0 : (k = 0) = False := eq_false (by omega)
    have q3 : (k = 3) = False := eq_false (by omega)
    have q12 : (k = 12) = False := eq_false (by omega)
    have q13 : (k = 13) = False := eq_false (by omega)
    simp (disch := omega) only [be_X5_restart_2, be_X5_firstAct_m, be_X5_firstAct_0, Option.bind_some, cond_true, cond_false, decide_true, decide_false, Bool.not_true, Bool.not_false, ite_true, ite_false, and_self, true_and, and_true, or_self, true_or, or_true, false_or, or_false, decide_eq_true_eq, Int.reduceAdd, Int.reduceSub, Int.reduceMul, Int.reduceNeg, Int.reduceEq, Int.reduceLT, Int.reduceLE, Int.reduceNe, lcmp_z, lcmp_le, lcmp_ge, lcmp_lt, lcmp_gt, am_up_eq, am_up_nl, am_up_ni, gf_15, pf_15, cls_15, pos_15, gf_11, pf_11, cls_11, pos_11, gf_14, pf_14, cls_14, pos_14, gf_20, cls_20, pos_20, pf_20, hk, hk', q0, q3, q12, q13]
    simp (disch := omega) only [be_X5_firstAct_5, be_X5_firstAct_6, be_X5_toRead_m, be_X5_toRead_0, be_X5_askScript_m, be_X5_askScript_0, be_X5_askScript_1, Option.bind_some, cond_true, cond_false, decide_true, decide_false, Bool.not_true, Bool.not_false, ite_true, ite_false, and_self, true_and, and_true, or_self, true_or, or_true, false_or, or_false, decide_eq_true_eq, Int.reduceAdd, Int.reduceSub, Int.reduceMul, Int.reduceNeg, Int.reduceEq, Int.reduceLT, Int.reduceLE, Int.reduceNe, lcmp_z, lcmp_le, lcmp_ge, lcmp_lt, lcmp_gt, am_up_eq, am_up_nl, am_up_ni, gf_15, pf_15, cls_15, pos_15, gf_11, pf_11, cls_11, pos_11, gf_14, pf_14, cls_14, pos_14, gf_20, cls_20, pos_20, pf_20]
  have fr : fr2 (twa w) C1 (am_up (am_up C1 (15 + 256 * w) 8 0) (15 + 256 * w) 9 0) := by
    (repeat' first | exact fr2_refl _ _ | refine fr2_up ?_ ?_) <;> (unfold twa; omega)
  have n8 : (am_up (am_up C1 (15 + 256 * w) 8 0) (15 + 256 * w) 9 0) (15 + 256 * w) 8 = 0 := by simp (disch := omega) only [am_up_eq, am_up_nl, am_up_ni]
  have n9 : (am_up (am_up C1 (15 + 256 * w) 8 0) (15 + 256 * w) 9 0) (15 + 256 * w) 9 = 0 := by simp (disch := omega) only [am_up_eq, am_up_nl, am_up_ni]
  rcases (show R 309 w = 0 ∨ R 309 w = 1 ∨ R 309 w = 2 ∨ R 309 w = 3 ∨ R 309 w = 4 ∨ R 309 w = 5 ∨ R 309 w = 6 ∨ R 309 w = 7 ∨ R 309 w = 8 ∨ R 309 w = 9 ∨ R 309 w = 10 ∨ R 309 w = 11 ∨ R 309 w = 12 ∨ R 309 w = 13 by omega) with e | e | e | e | e | e | e | e | e | e | e | e | e | e
  · obtain ⟨hrow, hF⟩ := a0 e
    have hl := row_len hrow
    rw [e, if_neg (by decide)] at i1
    by_cases cA : R 821 w ≤ 0
    · simp (disch := omega) only [be_X5_restart_2, be_X5_firstAct_m, be_X5_firstAct_0, Option.bind_some, cond_true, cond_false, decide_true, decide_false, Bool.not_true, Bool.not_false, ite_true, ite_false, and_self, true_and, and_true, or_self, true_or, or_true, false_or, or_false, decide_eq_true_eq, Int.reduceAdd, Int.reduceSub, Int.reduceMul, Int.reduceNeg, Int.reduceEq, Int.reduceLT, Int.reduceLE, Int.reduceNe, lcmp_z, lcmp_le, lcmp_ge, lcmp_lt, lcmp_gt, am_up_eq, am_up_nl, am_up_ni, gf_15, pf_15, cls_15, pos_15, gf_11, pf_11, cls_11, pos_11, gf_14, pf_14, cls_14, pos_14, gf_20, cls_20, pos_20, pf_20, hk, e]
      simp (disch := omega) only [be_X5_firstAct_1, be_X5_firstAct_6, be_X5_sourceGoesOn_m, be_X5_sourceGoesOn_0, be_X5_sourceGoesOn_1, be_X5_sourceGoesOn_2, be_X5_sourceGoesOn_3, be_X5_toWrite_m, be_X5_toWrite_0, be_X5_askScript_m, be_X5_askScript_0, be_X5_askScript_1, Option.bind_some, cond_true, cond_false, decide_true, decide_false, Bool.not_true, Bool.not_false, ite_true, ite_false, and_self, true_and, and_true, or_self, true_or, or_true, false_or, or_false, decide_eq_true_eq, Int.reduceAdd, Int.reduceSub, Int.reduceMul, Int.reduceNeg, Int.reduceEq, Int.reduceLT, Int.reduceLE, Int.reduceNe, lcmp_z, lcmp_le, lcmp_ge, lcmp_lt, lcmp_gt, am_up_eq, am_up_nl, am_up_ni, gf_15, pf_15, cls_15, pos_15, gf_11, pf_11, cls_11, pos_11, gf_14, pf_14, cls_14, pos_14, gf_20, cls_20, pos_20, pf_20, c0, c1, c2, c3, c4, c5, d0, d1, d2, s0, s1, s2, s3, hl, f11, row_at (rok_w hw hw2) hrow, decide_eq_true cA]
      refine ⟨_, rfl, ?_, Or.inl (wsn_0 e (Or.inr ⟨by omega, by simp (disch := omega) only [am_up_eq, am_up_nl, am_up_ni]⟩))⟩
      (repeat' first | exact fr2_refl _ _ | refine fr2_up ?_ ?_) <;> (unfold twa; omega)
    · have cB : (0 ≤ (0 : Int) ∧ 0 < R 821 w ∧ (0 : Int) < 300) = True := eq_true ⟨by omega, by omega, by omega⟩
      simp (disch := omega) only [be_X5_restart_2, be_X5_firstAct_m, be_X5_firstAct_0, Option.bind_some, cond_true, cond_false, decide_true, decide_false, Bool.not_true, Bool.not_false, ite_true, ite_false, and_self, true_and, and_true, or_self, true_or, or_true, false_or, or_false, decide_eq_true_eq, Int.reduceAdd, Int.reduceSub, Int.reduceMul, Int.reduceNeg, Int.reduceEq, Int.reduceLT, Int.reduceLE, Int.reduceNe, lcmp_z, lcmp_le, lcmp_ge, lcmp_lt, lcmp_gt, am_up_eq, am_up_nl, am_up_ni, gf_15, pf_15, cls_15, pos_15, gf_11, pf_11, cls_11, pos_11, gf_14, pf_14, cls_14, pos_14, gf_20, cls_20, pos_20, pf_20, hk, e]
      simp (disch := omega) only [be_X5_firstAct_1, be_X5_firstAct_6, be_X5_sourceGoesOn_m, be_X5_sourceGoesOn_0, be_X5_sourceGoesOn_1, be_X5_sourceGoesOn_2, be_X5_sourceGoesOn_3, be_X5_toWrite_m, be_X5_toWrite_0, be_X5_askScript_m, be_X5_askScript_0, be_X5_askScript_1, Option.bind_some, cond_true, cond_false, decide_true, decide_false, Bool.not_true, Bool.not_false, ite_true, ite_false, and_self, true_and, and_true, or_self, true_or, or_true, false_or, or_false, decide_eq_true_eq, Int.reduceAdd, Int.reduceSub, Int.reduceMul, Int.reduceNeg, Int.reduceEq, Int.reduceLT, Int.reduceLE, Int.reduceNe, lcmp_z, lcmp_le, lcmp_ge, lcmp_lt, lcmp_gt, am_up_eq, am_up_nl, am_up_ni, gf_15, pf_15, cls_15, pos_15, gf_11, pf_11, cls_11, pos_11, gf_14, pf_14, cls_14, pos_14, gf_20, cls_20, pos_20, pf_20, c0, c1, c2, c3, c4, c5, d0, d1, d2, s0, s1, s2, s3, hl, f11, row_at (rok_w hw hw2) hrow, decide_eq_false cA, cB, am_w32_ok, if_pos]
      refine ⟨_, rfl, ?_, Or.inl (wsn_0 e (Or.inl ⟨by omega, by omega, by simp (disch := omega) only [am_up_eq, am_up_nl, am_up_ni], by simp (disch := omega) only [am_up_eq, am_up_nl, am_up_ni], ?_, ?_⟩))⟩
      · (repeat' first | exact fr2_refl _ _ | refine fr2_up ?_ ?_) <;> (unfold twa; omega)
      · simp (disch := omega) only [am_up_eq, am_up_nl, am_up_ni, i1]
      · simp (disch := omega) only [am_up_eq, am_up_nl, am_up_ni, i1]; omega
  · rw [e, if_neg (by decide)] at i1
    exact ⟨_, rd _ e (by omega), fr, Or.inl (wsn_1 (Or.inl e) (Or.inl ⟨i1, n8, n9⟩))⟩
  · rw [e, if_neg (by decide)] at i1
    exact ⟨_, rd _ e (by omega), fr, Or.inl (wsn_2 e (Or.inl ⟨i1, n8, n9⟩))⟩
  · rw [e, if_pos rfl] at i1 i2
    simp (disch := omega) only [be_X5_restart_2, be_X5_firstAct_m, be_X5_firstAct_0, Option.bind_some, cond_true, cond_false, decide_true, decide_false, Bool.not_true, Bool.not_false, ite_true, ite_false, and_self, true_and, and_true, or_self, true_or, or_true, false_or, or_false, decide_eq_true_eq, Int.reduceAdd, Int.reduceSub, Int.reduceMul, Int.reduceNeg, Int.reduceEq, Int.reduceLT, Int.reduceLE, Int.reduceNe, lcmp_z, lcmp_le, lcmp_ge, lcmp_lt, lcmp_gt, am_up_eq, am_up_nl, am_up_ni, gf_15, pf_15, cls_15, pos_15, gf_11, pf_11, cls_11, pos_11, gf_14, pf_14, cls_14, pos_14, gf_20, cls_20, pos_20, pf_20, hk, e]
    simp (disch := omega) only [be_X5_firstAct_2, be_X5_firstAct_6, be_X5_toWrite_m, be_X5_toWrite_0, be_X5_askScript_m, be_X5_askScript_0, be_X5_askScript_1, Option.bind_some, cond_true, cond_false, decide_true, decide_false, Bool.not_true, Bool.not_false, ite_true, ite_false, and_self, true_and, and_true, or_self, true_or, or_true, false_or, or_false, decide_eq_true_eq, Int.reduceAdd, Int.reduceSub, Int.reduceMul, Int.reduceNeg, Int.reduceEq, Int.reduceLT, Int.reduceLE, Int.reduceNe, lcmp_z, lcmp_le, lcmp_ge, lcmp_lt, lcmp_gt, am_up_eq, am_up_nl, am_up_ni, gf_15, pf_15, cls_15, pos_15, gf_11, pf_11, cls_11, pos_11, gf_14, pf_14, cls_14, pos_14, gf_20, cls_20, pos_20, pf_20, ha]
    refine ⟨_, rfl, ?_, Or.inl (wsn_1 (Or.inr (Or.inl e)) (Or.inr (Or.inl ⟨Or.inr i1, by simp (disch := omega) only [am_up_eq, am_up_nl, am_up_ni], by simp (disch := omega) only [am_up_eq, am_up_nl, am_up_ni], ?_⟩)))⟩
    · (repeat' first | exact fr2_refl _ _ | refine fr2_up ?_ ?_) <;> (unfold twa; omega)
    · simp (disch := omega) only [am_up_eq, am_up_nl, am_up_ni, i2]
  · rw [e, if_neg (by decide)] at i1
    refine ⟨_, rd _ e (by omega), fr, Or.inl (wsn_4 e ⟨0, 0, 0, 0, Or.inl rfl, Or.inl rfl, Or.inl rfl, Or.inl rfl, i1, ?_, ?_, fun q => by omega, fun q => by omega, Or.inl ⟨rfl, rfl, n8, n9, ?_, ?_⟩⟩)⟩ <;> simp (disch := omega) only [am_up_eq, am_up_nl, am_up_ni, g58, g581, g72, g721]
  · rw [e, if_neg (by decide)] at i1
    exact ⟨_, rd _ e (by omega), fr, Or.inl (wsn_5 e (Or.inl ⟨i1, n8, n9⟩))⟩
  · rw [e, if_neg (by decide)] at i1
    exact ⟨_, rd _ e (by omega), fr, Or.inl (wsn_6 e (Or.inl ⟨i1, n8, n9⟩))⟩
  · rw [e, if_neg (by decide)] at i1
    exact ⟨_, rd _ e (by omega), fr, Or.inl (wsn_7 e (Or.inl ⟨by omega, by omega, n8, by rw [n9, i1]⟩))⟩
  · rw [e, if_neg (by decide)] at i1
    exact ⟨_, rd _ e (by omega), fr, Or.inl (wsn_8 e (Or.inl ⟨i1, n8, n9⟩))⟩
  · rw [e, if_neg (by decide)] at i1
    exact ⟨_, rd _ e (by omega), fr, Or.inl (wsn_9 e (Or.inl ⟨i1, n8, n9⟩))⟩
  · rw [e, if_neg (by decide)] at i1
    exact ⟨_, rd _ e (by omega), fr, Or.inl (wsn_1 (Or.inr (Or.inr e)) (Or.inl ⟨i1, n8, n9⟩))⟩
  · rw [e, if_neg (by decide)] at i1
    have hA := a11 e
    refine ⟨_, rd _ e (by omega), fr, Or.inl (wsn_11 e (Or.inl ⟨i1, n8, n9, i6, by omega, by omega, by omega, ?_, ?_, fun k a b => by omega, fun j k a b c => by omega⟩))⟩
    · simp (disch := omega) only [am_up_eq, am_up_nl, am_up_ni, g3, i5]
    · simp (disch := omega) only [am_up_eq, am_up_nl, am_up_ni, g72]
  · rw [e, if_neg (by decide)] at i1
    have hA := a12 e
    by_cases cA : 0 < R 565 w
    · simp (disch := omega) only [be_X5_restart_2, be_X5_firstAct_m, be_X5_firstAct_0, Option.bind_some, cond_true, cond_false, decide_true, decide_false, Bool.not_true, Bool.not_false, ite_true, ite_false, and_self, true_and, and_true, or_self, true_or, or_true, false_or, or_false, decide_eq_true_eq, Int.reduceAdd, Int.reduceSub, Int.reduceMul, Int.reduceNeg, Int.reduceEq, Int.reduceLT, Int.reduceLE, Int.reduceNe, lcmp_z, lcmp_le, lcmp_ge, lcmp_lt, lcmp_gt, am_up_eq, am_up_nl, am_up_ni, gf_15, pf_15, cls_15, pos_15, gf_11, pf_11, cls_11, pos_11, gf_14, pf_14, cls_14, pos_14, gf_20, cls_20, pos_20, pf_20, hk, e]
      simp (disch := omega) only [be_X5_firstAct_3, be_X5_firstAct_6, be_X5_tearGoesOn_m, be_X5_tearGoesOn_0, be_X5_tearGoesOn_1, be_X5_tearGoesOn_2, be_X5_tearGoesOn_3, be_X5_toRead_m, be_X5_toRead_0, be_X5_toFail_m, be_X5_toFail_0, be_X5_askScript_m, be_X5_askScript_0, be_X5_askScript_1, Option.bind_some, cond_true, cond_false, decide_true, decide_false, Bool.not_true, Bool.not_false, ite_true, ite_false, and_self, true_and, and_true, or_self, true_or, or_true, false_or, or_false, decide_eq_true_eq, Int.reduceAdd, Int.reduceSub, Int.reduceMul, Int.reduceNeg, Int.reduceEq, Int.reduceLT, Int.reduceLE, Int.reduceNe, lcmp_z, lcmp_le, lcmp_ge, lcmp_lt, lcmp_gt, am_up_eq, am_up_nl, am_up_ni, gf_15, pf_15, cls_15, pos_15, gf_11, pf_11, cls_11, pos_11, gf_14, pf_14, cls_14, pos_14, gf_20, cls_20, pos_20, pf_20, ha, f12, decide_eq_true cA]
      refine ⟨_, rfl, ?_, Or.inl (wsn_12 e (Or.inr (Or.inl ⟨i1, by omega, by simp (disch := omega) only [am_up_eq, am_up_nl, am_up_ni], by simp (disch := omega) only [am_up_eq, am_up_nl, am_up_ni]⟩)))⟩
      (repeat' first | exact fr2_refl _ _ | refine fr2_up ?_ ?_) <;> (unfold twa; omega)
    · simp (disch := omega) only [be_X5_restart_2, be_X5_firstAct_m, be_X5_firstAct_0, Option.bind_some, cond_true, cond_false, decide_true, decide_false, Bool.not_true, Bool.not_false, ite_true, ite_false, and_self, true_and, and_true, or_self, true_or, or_true, false_or, or_false, decide_eq_true_eq, Int.reduceAdd, Int.reduceSub, Int.reduceMul, Int.reduceNeg, Int.reduceEq, Int.reduceLT, Int.reduceLE, Int.reduceNe, lcmp_z, lcmp_le, lcmp_ge, lcmp_lt, lcmp_gt, am_up_eq, am_up_nl, am_up_ni, gf_15, pf_15, cls_15, pos_15, gf_11, pf_11, cls_11, pos_11, gf_14, pf_14, cls_14, pos_14, gf_20, cls_20, pos_20, pf_20, hk, e]
      simp (disch := omega) only [be_X5_firstAct_3, be_X5_firstAct_6, be_X5_tearGoesOn_m, be_X5_tearGoesOn_0, be_X5_tearGoesOn_1, be_X5_tearGoesOn_2, be_X5_tearGoesOn_3, be_X5_toRead_m, be_X5_toRead_0, be_X5_toFail_m, be_X5_toFail_0, be_X5_askScript_m, be_X5_askScript_0, be_X5_askScript_1, Option.bind_some, cond_true, cond_false, decide_true, decide_false, Bool.not_true, Bool.not_false, ite_true, ite_false, and_self, true_and, and_true, or_self, true_or, or_true, false_or, or_false, decide_eq_true_eq, Int.reduceAdd, Int.reduceSub, Int.reduceMul, Int.reduceNeg, Int.reduceEq, Int.reduceLT, Int.reduceLE, Int.reduceNe, lcmp_z, lcmp_le, lcmp_ge, lcmp_lt, lcmp_gt, am_up_eq, am_up_nl, am_up_ni, gf_15, pf_15, cls_15, pos_15, gf_11, pf_11, cls_11, pos_11, gf_14, pf_14, cls_14, pos_14, gf_20, cls_20, pos_20, pf_20, ha, f12, decide_eq_false cA]
      refine ⟨_, rfl, ?_, Or.inl (wsn_12 e (Or.inl ⟨i1, by omega, by simp (disch := omega) only [am_up_eq, am_up_nl, am_up_ni], by simp (disch := omega) only [am_up_eq, am_up_nl, am_up_ni]⟩))⟩
      (repeat' first | exact fr2_refl _ _ | refine fr2_up ?_ ?_) <;> (unfold twa; omega)
  · rw [e, if_neg (by decide)] at i1
    have hst := a13 e
    have fC : fr2 (twa w) C1 (am_up C1 (15 + 256 * w) 8 6) := by
      (repeat' first | exact fr2_refl _ _ | refine fr2_up ?_ ?_) <;> (unfold twa; omega)
    by_cases cA : R 1077 w = 0
    · have h0 := ask_ev0 (C := am_up C1 (15 + 256 * w) 8 6) hw (cshape_fr hC (fr2_mono (fun _ _ => twa_twr) fC)) (by simp (disch := omega) only [am_up_eq, am_up_nl, am_up_ni]) (by simp (disch := omega) only [am_up_eq, am_up_nl, am_up_ni]; exact hst.2.2.1.trans cA)
      simp (disch := omega) only [be_X5_restart_2, be_X5_firstAct_m, be_X5_firstAct_0, Option.bind_some, cond_true, cond_false, decide_true, decide_false, Bool.not_true, Bool.not_false, ite_true, ite_false, and_self, true_and, and_true, or_self, true_or, or_true, false_or, or_false, decide_eq_true_eq, Int.reduceAdd, Int.reduceSub, Int.reduceMul, Int.reduceNeg, Int.reduceEq, Int.reduceLT, Int.reduceLE, Int.reduceNe, lcmp_z, lcmp_le, lcmp_ge, lcmp_lt, lcmp_gt, am_up_eq, am_up_nl, am_up_ni, gf_15, pf_15, cls_15, pos_15, gf_11, pf_11, cls_11, pos_11, gf_14, pf_14, cls_14, pos_14, gf_20, cls_20, pos_20, pf_20, hk, e]
      simp (disch := omega) only [be_X5_firstAct_4, be_X5_firstAct_6, Option.bind_some, cond_true, cond_false, decide_true, decide_false, Bool.not_true, Bool.not_false, ite_true, ite_false, and_self, true_and, and_true, or_self, true_or, or_true, false_or, or_false, decide_eq_true_eq, Int.reduceAdd, Int.reduceSub, Int.reduceMul, Int.reduceNeg, Int.reduceEq, Int.reduceLT, Int.reduceLE, Int.reduceNe, lcmp_z, lcmp_le, lcmp_ge, lcmp_lt, lcmp_gt, am_up_eq, am_up_nl, am_up_ni, gf_15, pf_15, cls_15, pos_15, gf_11, pf_11, cls_11, pos_11, gf_14, pf_14, cls_14, pos_14, gf_20, cls_20, pos_20, pf_20, h0]
      refine ⟨_, rfl, ?_, Or.inr ⟨e, Or.inr (Or.inr (Or.inl ⟨i7, cA, i1, by simp (disch := omega) only [am_up_eq, am_up_nl, am_up_ni]⟩))⟩⟩
      (repeat' first | exact fr2_refl _ _ | refine fr2_up ?_ ?_) <;> (unfold twa; omega)
    · have n0 := hst.1
      obtain ⟨C', m1, m2, m3⟩ := ask_ws13 (C := am_up C1 (15 + 256 * w) 8 6) (R := R) hw (cshape_fr hC (fr2_mono (fun _ _ => twa_twr) fC)) (st13_fr hst (fr2_mono (fun _ _ => twa_twr) fC)) (by simp (disch := omega) only [am_up_eq, am_up_nl, am_up_ni]) (by omega) (by omega) i7 (by simp (disch := omega) only [am_up_eq, am_up_nl, am_up_ni]; rw [g5, i1]) (fun k a b => by simp (disch := omega) only [am_up_eq, am_up_nl, am_up_ni]; rw [g60 k a b, i8 k a b])
      simp (disch := omega) only [be_X5_restart_2, be_X5_firstAct_m, be_X5_firstAct_0, Option.bind_some, cond_true, cond_false, decide_true, decide_false, Bool.not_true, Bool.not_false, ite_true, ite_false, and_self, true_and, and_true, or_self, true_or, or_true, false_or, or_false, decide_eq_true_eq, Int.reduceAdd, Int.reduceSub, Int.reduceMul, Int.reduceNeg, Int.reduceEq, Int.reduceLT, Int.reduceLE, Int.reduceNe, lcmp_z, lcmp_le, lcmp_ge, lcmp_lt, lcmp_gt, am_up_eq, am_up_nl, am_up_ni, gf_15, pf_15, cls_15, pos_15, gf_11, pf_11, cls_11, pos_11, gf_14, pf_14, cls_14, pos_14, gf_20, cls_20, pos_20, pf_20, hk, e]
      simp (disch := omega) only [be_X5_firstAct_4, be_X5_firstAct_6, Option.bind_some, cond_true, cond_false, decide_true, decide_false, Bool.not_true, Bool.not_false, ite_true, ite_false, and_self, true_and, and_true, or_self, true_or, or_true, false_or, or_false, decide_eq_true_eq, Int.reduceAdd, Int.reduceSub, Int.reduceMul, Int.reduceNeg, Int.reduceEq, Int.reduceLT, Int.reduceLE, Int.reduceNe, lcmp_z, lcmp_le, lcmp_ge, lcmp_lt, lcmp_gt, am_up_eq, am_up_nl, am_up_ni, gf_15, pf_15, cls_15, pos_15, gf_11, pf_11, cls_11, pos_11, gf_14, pf_14, cls_14, pos_14, gf_20, cls_20, pos_20, pf_20, m1]
      exact ⟨_, rfl, fr2_trans fC m2, Or.inr ⟨e, m3⟩⟩
