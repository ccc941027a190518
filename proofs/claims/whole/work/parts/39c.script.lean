/-! SCRIPT: what is next; a look; behind a pattern, a writing, an end -/
theorem q1_congr {R R' : am_M} {w : Int} (h1 : ∀ i, R' 64 i = R 64 i) (h2 : ∀ i, R' 320 i = R 320 i) (h3 : ∀ i, R' 576 i = R 576 i) (h4 : R' 1077 w = R 1077 w) (p : Int) (r : Int → Int) : q1 R' w p r = q1 R w p r := by
  unfold q1
  rw [h1, h2, h3, h4]
theorem qs_congr {R R' : am_M} {w : Int} (h1 : ∀ i, R' 64 i = R 64 i) (h2 : ∀ i, R' 320 i = R 320 i) (h3 : ∀ i, R' 576 i = R 576 i) (h4 : R' 1077 w = R 1077 w) : ∀ (f : Nat) (p : Int) (r : Int → Int), qs R' w f p r = qs R w f p r := by
  intro f
  induction f with
  | zero => intro p r; rfl
  | succ f ih =>
    intro p r
    unfold qs
    rw [h1, q1_congr h1 h2 h3 h4, ih]
theorem qs_rtw {R R' : am_M} {w : Int} (h : fr2 (rtw w) R R') (f : Nat) (p : Int) (r : Int → Int) : qs R' w f p r = qs R w f p r :=
  qs_congr (fun i => h _ _ (by unfold rtw; omega)) (fun i => h _ _ (by unfold rtw; omega)) (fun i => h _ _ (by unfold rtw; omega)) (h _ _ (by unfold rtw; omega)) f p r
theorem qs_rtl {R R' : am_M} {w : Int} (h : fr2 (rtl w) R R') (f : Nat) (p : Int) (r : Int → Int) : qs R' w f p r = qs R w f p r :=
  qs_congr (fun i => h _ _ (by unfold rtl; omega)) (fun i => h _ _ (by unfold rtl; omega)) (fun i => h _ _ (by unfold rtl; omega)) (h _ _ (by unfold rtl; omega)) f p r
theorem qs_end {R : am_M} {w : Int} (hs : sr R w) : ∀ (f : Nat) (p : Int) (r : Int → Int), 0 ≤ p → p < R 1077 w → 0 ≤ (qs R w f p r).2.1 ∧ (qs R w f p r).2.1 < R 1077 w ∧ ((qs R w f p r).1 = 9 ∨ (qs R w f p r).1 = R 64 (12 * w + (qs R w f p r).2.1) ∧ ¬ quiet (R 64 (12 * w + (qs R w f p r).2.1))) := by
  intro f
  induction f with
  | zero => intro p r p0 p1; exact ⟨p0, p1, Or.inl rfl⟩
  | succ f ih =>
    intro p r p0 p1
    unfold qs
    by_cases c : 2 ≤ R 64 (12 * w + p) ∧ R 64 (12 * w + p) ≤ 5
    · rw [if_pos c]
      have v := hs.2.2 p p0 p1
      have hb := q1_b (R := R) (w := w) (r := r) p0 p1 (by unfold sv at v; omega)
      exact ih _ _ hb.1 hb.2
    · rw [if_neg c]
      exact ⟨p0, p1, Or.inr ⟨rfl, c⟩⟩
/-- registers that agree lead to the same -/
theorem q1_ext {R : am_M} {w p : Int} {r r' : Int → Int} (v : sv (R 64 (12 * w + p)) (R 320 (12 * w + p)) (R 576 (12 * w + p))) (c : 2 ≤ R 64 (12 * w + p) ∧ R 64 (12 * w + p) ≤ 5) (h : ∀ k, 0 ≤ k → k ≤ 3 → r' k = r k) : (q1 R w p r').1 = (q1 R w p r).1 ∧ ∀ k, 0 ≤ k → k ≤ 3 → (q1 R w p r').2 k = (q1 R w p r).2 k := by
  unfold sv at v
  unfold q1
  by_cases e : R 64 (12 * w + p) = 5
  · rw [if_pos e, if_pos e, h (R 576 (12 * w + p)) (by omega) (by omega)]
    exact ⟨rfl, h⟩
  · rw [if_neg e, if_neg e]
    refine ⟨rfl, fun k a b => ?_⟩
    dsimp only
    unfold setr
    by_cases e2 : R 64 (12 * w + p) = 2
    · rw [if_pos e2, if_pos e2, h k a b]
    · rw [if_neg e2, if_neg e2, h (R 576 (12 * w + p)) (by omega) (by omega), h (R 320 (12 * w + p)) (by omega) (by omega), h k a b]
theorem qs_ext {R : am_M} {w : Int} (hs : sr R w) : ∀ (f : Nat) (p : Int) (r r' : Int → Int), 0 ≤ p → p < R 1077 w → (∀ k, 0 ≤ k → k ≤ 3 → r' k = r k) → (qs R w f p r').1 = (qs R w f p r).1 ∧ (qs R w f p r').2.1 = (qs R w f p r).2.1 ∧ ∀ k, 0 ≤ k → k ≤ 3 → (qs R w f p r').2.2 k = (qs R w f p r).2.2 k := by
  intro f
  induction f with
  | zero => intro p r r' p0 p1 h; exact ⟨rfl, rfl, h⟩
  | succ f ih =>
    intro p r r' p0 p1 h
    unfold qs
    by_cases c : 2 ≤ R 64 (12 * w + p) ∧ R 64 (12 * w + p) ≤ 5
    · rw [if_pos c, if_pos c]
      have v := hs.2.2 p p0 p1
      have hb := q1_b (R := R) (w := w) (r := r) p0 p1 (by unfold sv at v; omega)
      obtain ⟨x1, x2⟩ := q1_ext (r := r) (r' := r') v c h
      rw [x1]
      exact ih _ _ _ hb.1 hb.2 x2
    · rw [if_neg c, if_neg c]
      exact ⟨rfl, rfl, h⟩
set_option maxHeartbeats 4000000 in
theorem ask_ev {C R : am_M} {w p : Int} {r : Int → Int} (hw : 0 ≤ w) (hC : cshape C w) (hs : st13 C R w) (hn : C (15 + 256 * w) 8 = 6) (p0 : 0 ≤ p) (p1 : p < R 1077 w) (hp : C (14 + 256 * w) 5 = p) (hr : ∀ k, 0 ≤ k → k ≤ 3 → C (60 + 256 * w) k = r k) :
    ∃ C', am_evm am_PP nX5_askScript [(2, 15 + 256 * w)] C = some (0, C') ∧ fr2 (twa w) C C' ∧ C' (14 + 256 * w) 5 = (qs R w 100 p r).2.1 ∧ (∀ k, 0 ≤ k → k ≤ 3 → C' (60 + 256 * w) k = (qs R w 100 p r).2.2 k) ∧ scn C' R w (qs R w 100 p r).1 (qs R w 100 p r).2.1 (qs R w 100 p r).2.2 := by
  obtain ⟨C1, e1, e2, e3, e4, e5, e6⟩ := na_loop hw 100 C p r (by omega) hC hs p0 p1 hp hr
  obtain ⟨b1, b2, b3⟩ := qs_end (st13_sr hs) 100 p r p0 p1
  have f1 := fr2_mono (fun _ _ q => twa_twr (tws_twa q)) e2
  have hC1 := cshape_fr hC f1
  have hs1 := st13_fr hs f1
  have nev : am_evm am_PP nX4_nextAct [(2, 14 + 256 * w)] C = some ((qs R w 100 p r).1, C1) := by
    have hn2 : (C (14 + 256 * w) 4 = 0) = False := eq_false (by have := hs.2.2.1; omega)
    rw [show (100 : Int) - ((100 : Nat) : Int) = 0 from rfl] at e1
    simp (disch := omega) only [be_X4_nextAct_m, be_X4_nextAct_0, be_X4_nextAct_2, Option.bind_some, cond_true, cond_false, decide_true, decide_false, Bool.not_true, Bool.not_false, ite_true, ite_false, and_self, true_and, and_true, or_self, true_or, or_true, false_or, or_false, decide_eq_true_eq, Int.reduceAdd, Int.reduceSub, Int.reduceMul, Int.reduceNeg, Int.reduceEq, Int.reduceLT, Int.reduceLE, Int.reduceNe, lcmp_z, lcmp_le, lcmp_ge, lcmp_lt, lcmp_gt, gf_14, hn2, e1]
  obtain ⟨u1, u2, u3, hst⟩ := hs1
  obtain ⟨w1, w2, w3, v⟩ := hst _ b1 b2
  have n6 : C1 (15 + 256 * w) 8 = 6 := by rw [← hn]; exact e2 _ _ (by unfold tws; omega)
  obtain ⟨_, _, _, _, _, c5', _⟩ := hC
  obtain ⟨c0, c1, c2, c3, c4, c5, d0, d1, d2, s0, s1, s2, s3⟩ := hC1
  unfold quiet at b3
  unfold sv at v
  revert b1 b2 b3 v w1 w2 w3 e3 e4 e5 e6 nev
  generalize qs R w 100 p r = Q
  obtain ⟨s, q, rr⟩ := Q
  dsimp only
  intro e3 e4 e5 e6 b1 b2 b3 nev w1 w2 w3 v
  have e2' : fr2 (twa w) C C1 := fr2_mono (fun _ _ q => tws_twa q) e2
  rcases (show s = 0 ∨ s = 6 ∨ s = 1 ∨ s = 7 ∨ s = 9 by omega) with e | e | e | e | e
  · subst e
    simp (disch := omega) only [be_X5_askScript_m, be_X5_askScript_0, Option.bind_some, cond_true, cond_false, decide_true, decide_false, Bool.not_true, Bool.not_false, ite_true, ite_false, and_self, true_and, and_true, or_self, true_or, or_true, false_or, or_false, decide_eq_true_eq, Int.reduceAdd, Int.reduceSub, Int.reduceMul, Int.reduceNeg, Int.reduceEq, Int.reduceLT, Int.reduceLE, Int.reduceNe, lcmp_z, lcmp_le, lcmp_ge, lcmp_lt, lcmp_gt, gf_15, pf_15, cls_15, pos_15, gf_11, pf_11, cls_11, pos_11, gf_14, pf_14, cls_14, pos_14, gf_20, cls_20, pos_20, hn]
    simp (disch := omega) only [be_X5_askScript_2, Option.bind_some, cond_true, cond_false, decide_true, decide_false, Bool.not_true, Bool.not_false, ite_true, ite_false, and_self, true_and, and_true, or_self, true_or, or_true, false_or, or_false, decide_eq_true_eq, Int.reduceAdd, Int.reduceSub, Int.reduceMul, Int.reduceNeg, Int.reduceEq, Int.reduceLT, Int.reduceLE, Int.reduceNe, lcmp_z, lcmp_le, lcmp_ge, lcmp_lt, lcmp_gt, gf_15, pf_15, cls_15, pos_15, gf_11, pf_11, cls_11, pos_11, gf_14, pf_14, cls_14, pos_14, gf_20, cls_20, pos_20, c5', nev]
    simp (disch := omega) only [be_X5_askScript_3, be_X5_askScript_8, be_X4_portNow_m, be_X4_portNow_0, be_X5_toRead_m, be_X5_toRead_0, Option.bind_some, cond_true, cond_false, decide_true, decide_false, Bool.not_true, Bool.not_false, ite_true, ite_false, and_self, true_and, and_true, or_self, true_or, or_true, false_or, or_false, decide_eq_true_eq, Int.reduceAdd, Int.reduceSub, Int.reduceMul, Int.reduceNeg, Int.reduceEq, Int.reduceLT, Int.reduceLE, Int.reduceNe, lcmp_z, lcmp_le, lcmp_ge, lcmp_lt, lcmp_gt, am_up_eq, am_up_nl, am_up_ni, gf_15, pf_15, cls_15, pos_15, gf_11, pf_11, cls_11, pos_11, gf_14, pf_14, cls_14, pos_14, gf_20, cls_20, pos_20, c0, c1, c2, c3, c4, c5, d0, d1, d2, s0, s1, s2, s3, ra_55, al_55, sa0_55, sa_55, ra_56, al_56, sa0_56, sa_56, ra_57, al_57, sa_57, ra_58, al_58, sa0_58, sa1_58, ra_72, al_72, sa0_72, sa1_72, ra_59, al_59, sa_59, ra_73, al_73, sa_73, ra_74, al_74, sa_74, ra_60, al_60, sa_60, e3, w2]
    refine ⟨_, rfl, ?_, ?_, fun k a b => ?_, Or.inl ⟨Or.inl rfl, by simp (disch := omega) only [am_up_eq, am_up_nl, am_up_ni], by simp (disch := omega) only [am_up_eq, am_up_nl, am_up_ni]⟩⟩
    · refine fr2_trans e2' ?_
      (repeat' first | exact fr2_refl _ _ | refine fr2_up ?_ ?_) <;> (unfold twa; omega)
    · simp (disch := omega) only [am_up_eq, am_up_nl, am_up_ni]; exact e3
    · simp (disch := omega) only [am_up_eq, am_up_nl, am_up_ni]; exact e4 k a b
  · subst e
    simp (disch := omega) only [be_X5_askScript_m, be_X5_askScript_0, Option.bind_some, cond_true, cond_false, decide_true, decide_false, Bool.not_true, Bool.not_false, ite_true, ite_false, and_self, true_and, and_true, or_self, true_or, or_true, false_or, or_false, decide_eq_true_eq, Int.reduceAdd, Int.reduceSub, Int.reduceMul, Int.reduceNeg, Int.reduceEq, Int.reduceLT, Int.reduceLE, Int.reduceNe, lcmp_z, lcmp_le, lcmp_ge, lcmp_lt, lcmp_gt, gf_15, pf_15, cls_15, pos_15, gf_11, pf_11, cls_11, pos_11, gf_14, pf_14, cls_14, pos_14, gf_20, cls_20, pos_20, hn]
    simp (disch := omega) only [be_X5_askScript_2, Option.bind_some, cond_true, cond_false, decide_true, decide_false, Bool.not_true, Bool.not_false, ite_true, ite_false, and_self, true_and, and_true, or_self, true_or, or_true, false_or, or_false, decide_eq_true_eq, Int.reduceAdd, Int.reduceSub, Int.reduceMul, Int.reduceNeg, Int.reduceEq, Int.reduceLT, Int.reduceLE, Int.reduceNe, lcmp_z, lcmp_le, lcmp_ge, lcmp_lt, lcmp_gt, gf_15, pf_15, cls_15, pos_15, gf_11, pf_11, cls_11, pos_11, gf_14, pf_14, cls_14, pos_14, gf_20, cls_20, pos_20, c5', nev]
    simp (disch := omega) only [be_X5_askScript_3, be_X5_askScript_8, be_X4_portNow_m, be_X4_portNow_0, be_X5_toRead_m, be_X5_toRead_0, Option.bind_some, cond_true, cond_false, decide_true, decide_false, Bool.not_true, Bool.not_false, ite_true, ite_false, and_self, true_and, and_true, or_self, true_or, or_true, false_or, or_false, decide_eq_true_eq, Int.reduceAdd, Int.reduceSub, Int.reduceMul, Int.reduceNeg, Int.reduceEq, Int.reduceLT, Int.reduceLE, Int.reduceNe, lcmp_z, lcmp_le, lcmp_ge, lcmp_lt, lcmp_gt, am_up_eq, am_up_nl, am_up_ni, gf_15, pf_15, cls_15, pos_15, gf_11, pf_11, cls_11, pos_11, gf_14, pf_14, cls_14, pos_14, gf_20, cls_20, pos_20, c0, c1, c2, c3, c4, c5, d0, d1, d2, s0, s1, s2, s3, ra_55, al_55, sa0_55, sa_55, ra_56, al_56, sa0_56, sa_56, ra_57, al_57, sa_57, ra_58, al_58, sa0_58, sa1_58, ra_72, al_72, sa0_72, sa1_72, ra_59, al_59, sa_59, ra_73, al_73, sa_73, ra_74, al_74, sa_74, ra_60, al_60, sa_60, e3, w2]
    refine ⟨_, rfl, ?_, ?_, fun k a b => ?_, Or.inl ⟨Or.inr rfl, by simp (disch := omega) only [am_up_eq, am_up_nl, am_up_ni], by simp (disch := omega) only [am_up_eq, am_up_nl, am_up_ni]⟩⟩
    · refine fr2_trans e2' ?_
      (repeat' first | exact fr2_refl _ _ | refine fr2_up ?_ ?_) <;> (unfold twa; omega)
    · simp (disch := omega) only [am_up_eq, am_up_nl, am_up_ni]; exact e3
    · simp (disch := omega) only [am_up_eq, am_up_nl, am_up_ni]; exact e4 k a b
  · subst e
    have rb := e4 (R 576 (12 * w + q)) (by omega) (by omega)
    simp (disch := omega) only [be_X5_askScript_m, be_X5_askScript_0, Option.bind_some, cond_true, cond_false, decide_true, decide_false, Bool.not_true, Bool.not_false, ite_true, ite_false, and_self, true_and, and_true, or_self, true_or, or_true, false_or, or_false, decide_eq_true_eq, Int.reduceAdd, Int.reduceSub, Int.reduceMul, Int.reduceNeg, Int.reduceEq, Int.reduceLT, Int.reduceLE, Int.reduceNe, lcmp_z, lcmp_le, lcmp_ge, lcmp_lt, lcmp_gt, gf_15, pf_15, cls_15, pos_15, gf_11, pf_11, cls_11, pos_11, gf_14, pf_14, cls_14, pos_14, gf_20, cls_20, pos_20, hn]
    simp (disch := omega) only [be_X5_askScript_2, Option.bind_some, cond_true, cond_false, decide_true, decide_false, Bool.not_true, Bool.not_false, ite_true, ite_false, and_self, true_and, and_true, or_self, true_or, or_true, false_or, or_false, decide_eq_true_eq, Int.reduceAdd, Int.reduceSub, Int.reduceMul, Int.reduceNeg, Int.reduceEq, Int.reduceLT, Int.reduceLE, Int.reduceNe, lcmp_z, lcmp_le, lcmp_ge, lcmp_lt, lcmp_gt, gf_15, pf_15, cls_15, pos_15, gf_11, pf_11, cls_11, pos_11, gf_14, pf_14, cls_14, pos_14, gf_20, cls_20, pos_20, c5', nev]
    simp (disch := omega) only [be_X5_askScript_4, be_X5_askScript_8, be_X4_portNow_m, be_X4_portNow_0, be_X4_registerNow_m, be_X4_registerNow_0, be_X5_toWrite_m, be_X5_toWrite_0, Option.bind_some, cond_true, cond_false, decide_true, decide_false, Bool.not_true, Bool.not_false, ite_true, ite_false, and_self, true_and, and_true, or_self, true_or, or_true, false_or, or_false, decide_eq_true_eq, Int.reduceAdd, Int.reduceSub, Int.reduceMul, Int.reduceNeg, Int.reduceEq, Int.reduceLT, Int.reduceLE, Int.reduceNe, lcmp_z, lcmp_le, lcmp_ge, lcmp_lt, lcmp_gt, am_up_eq, am_up_nl, am_up_ni, gf_15, pf_15, cls_15, pos_15, gf_11, pf_11, cls_11, pos_11, gf_14, pf_14, cls_14, pos_14, gf_20, cls_20, pos_20, c0, c1, c2, c3, c4, c5, d0, d1, d2, s0, s1, s2, s3, ra_55, al_55, sa0_55, sa_55, ra_56, al_56, sa0_56, sa_56, ra_57, al_57, sa_57, ra_58, al_58, sa0_58, sa1_58, ra_72, al_72, sa0_72, sa1_72, ra_59, al_59, sa_59, ra_73, al_73, sa_73, ra_74, al_74, sa_74, ra_60, al_60, sa_60, e3, w2, w3, rb]
    refine ⟨_, rfl, ?_, ?_, fun k a b => ?_, Or.inr (Or.inl ⟨rfl, by simp (disch := omega) only [am_up_eq, am_up_nl, am_up_ni], by simp (disch := omega) only [am_up_eq, am_up_nl, am_up_ni], by simp (disch := omega) only [am_up_eq, am_up_nl, am_up_ni]⟩)⟩
    · refine fr2_trans e2' ?_
      (repeat' first | exact fr2_refl _ _ | refine fr2_up ?_ ?_) <;> (unfold twa; omega)
    · simp (disch := omega) only [am_up_eq, am_up_nl, am_up_ni]; exact e3
    · simp (disch := omega) only [am_up_eq, am_up_nl, am_up_ni]; exact e4 k a b
  · subst e
    simp (disch := omega) only [be_X5_askScript_m, be_X5_askScript_0, Option.bind_some, cond_true, cond_false, decide_true, decide_false, Bool.not_true, Bool.not_false, ite_true, ite_false, and_self, true_and, and_true, or_self, true_or, or_true, false_or, or_false, decide_eq_true_eq, Int.reduceAdd, Int.reduceSub, Int.reduceMul, Int.reduceNeg, Int.reduceEq, Int.reduceLT, Int.reduceLE, Int.reduceNe, lcmp_z, lcmp_le, lcmp_ge, lcmp_lt, lcmp_gt, gf_15, pf_15, cls_15, pos_15, gf_11, pf_11, cls_11, pos_11, gf_14, pf_14, cls_14, pos_14, gf_20, cls_20, pos_20, hn]
    simp (disch := omega) only [be_X5_askScript_2, Option.bind_some, cond_true, cond_false, decide_true, decide_false, Bool.not_true, Bool.not_false, ite_true, ite_false, and_self, true_and, and_true, or_self, true_or, or_true, false_or, or_false, decide_eq_true_eq, Int.reduceAdd, Int.reduceSub, Int.reduceMul, Int.reduceNeg, Int.reduceEq, Int.reduceLT, Int.reduceLE, Int.reduceNe, lcmp_z, lcmp_le, lcmp_ge, lcmp_lt, lcmp_gt, gf_15, pf_15, cls_15, pos_15, gf_11, pf_11, cls_11, pos_11, gf_14, pf_14, cls_14, pos_14, gf_20, cls_20, pos_20, c5', nev]
    simp (disch := omega) only [be_X5_askScript_5, be_X5_askScript_8, be_X5_toFail_m, be_X5_toFail_0, Option.bind_some, cond_true, cond_false, decide_true, decide_false, Bool.not_true, Bool.not_false, ite_true, ite_false, and_self, true_and, and_true, or_self, true_or, or_true, false_or, or_false, decide_eq_true_eq, Int.reduceAdd, Int.reduceSub, Int.reduceMul, Int.reduceNeg, Int.reduceEq, Int.reduceLT, Int.reduceLE, Int.reduceNe, lcmp_z, lcmp_le, lcmp_ge, lcmp_lt, lcmp_gt, am_up_eq, am_up_nl, am_up_ni, gf_15, pf_15, cls_15, pos_15, gf_11, pf_11, cls_11, pos_11, gf_14, pf_14, cls_14, pos_14, gf_20, cls_20, pos_20]
    refine ⟨_, rfl, ?_, ?_, fun k a b => ?_, Or.inr (Or.inr (Or.inl ⟨rfl, by simp (disch := omega) only [am_up_eq, am_up_nl, am_up_ni], by simp (disch := omega) only [am_up_eq, am_up_nl, am_up_ni]⟩))⟩
    · refine fr2_trans e2' ?_
      (repeat' first | exact fr2_refl _ _ | refine fr2_up ?_ ?_) <;> (unfold twa; omega)
    · simp (disch := omega) only [am_up_eq, am_up_nl, am_up_ni]; exact e3
    · simp (disch := omega) only [am_up_eq, am_up_nl, am_up_ni]; exact e4 k a b
  · subst e
    simp (disch := omega) only [be_X5_askScript_m, be_X5_askScript_0, Option.bind_some, cond_true, cond_false, decide_true, decide_false, Bool.not_true, Bool.not_false, ite_true, ite_false, and_self, true_and, and_true, or_self, true_or, or_true, false_or, or_false, decide_eq_true_eq, Int.reduceAdd, Int.reduceSub, Int.reduceMul, Int.reduceNeg, Int.reduceEq, Int.reduceLT, Int.reduceLE, Int.reduceNe, lcmp_z, lcmp_le, lcmp_ge, lcmp_lt, lcmp_gt, gf_15, pf_15, cls_15, pos_15, gf_11, pf_11, cls_11, pos_11, gf_14, pf_14, cls_14, pos_14, gf_20, cls_20, pos_20, hn]
    simp (disch := omega) only [be_X5_askScript_2, Option.bind_some, cond_true, cond_false, decide_true, decide_false, Bool.not_true, Bool.not_false, ite_true, ite_false, and_self, true_and, and_true, or_self, true_or, or_true, false_or, or_false, decide_eq_true_eq, Int.reduceAdd, Int.reduceSub, Int.reduceMul, Int.reduceNeg, Int.reduceEq, Int.reduceLT, Int.reduceLE, Int.reduceNe, lcmp_z, lcmp_le, lcmp_ge, lcmp_lt, lcmp_gt, gf_15, pf_15, cls_15, pos_15, gf_11, pf_11, cls_11, pos_11, gf_14, pf_14, cls_14, pos_14, gf_20, cls_20, pos_20, c5', nev]
    simp (disch := omega) only [be_X5_askScript_6, be_X5_askScript_8, be_X5_toFail_m, be_X5_toFail_0, Option.bind_some, cond_true, cond_false, decide_true, decide_false, Bool.not_true, Bool.not_false, ite_true, ite_false, and_self, true_and, and_true, or_self, true_or, or_true, false_or, or_false, decide_eq_true_eq, Int.reduceAdd, Int.reduceSub, Int.reduceMul, Int.reduceNeg, Int.reduceEq, Int.reduceLT, Int.reduceLE, Int.reduceNe, lcmp_z, lcmp_le, lcmp_ge, lcmp_lt, lcmp_gt, am_up_eq, am_up_nl, am_up_ni, gf_15, pf_15, cls_15, pos_15, gf_11, pf_11, cls_11, pos_11, gf_14, pf_14, cls_14, pos_14, gf_20, cls_20, pos_20]
    refine ⟨_, rfl, ?_, ?_, fun k a b => ?_, Or.inr (Or.inr (Or.inr ⟨rfl, by simp (disch := omega) only [am_up_eq, am_up_nl, am_up_ni], by simp (disch := omega) only [am_up_eq, am_up_nl, am_up_ni]⟩))⟩
    · refine fr2_trans e2' ?_
      (repeat' first | exact fr2_refl _ _ | refine fr2_up ?_ ?_) <;> (unfold twa; omega)
    · simp (disch := omega) only [am_up_eq, am_up_nl, am_up_ni]; exact e3
    · simp (disch := omega) only [am_up_eq, am_up_nl, am_up_ni]; exact e4 k a b
theorem ask_ev0 {C : am_M} {w : Int} (hw : 0 ≤ w) (hC : cshape C w) (hn : C (15 + 256 * w) 8 = 6) (h4 : C (14 + 256 * w) 4 = 0) :
    am_evm am_PP nX5_askScript [(2, 15 + 256 * w)] C = some (0, am_up C (15 + 256 * w) 8 2) := by
  obtain ⟨c0, c1, c2, c3, c4, c5, d0, d1, d2, s0, s1, s2, s3⟩ := hC
  simp (disch := omega) only [be_X5_askScript_m, be_X5_askScript_0, Option.bind_some, cond_true, cond_false, decide_true, decide_false, Bool.not_true, Bool.not_false, ite_true, ite_false, and_self, true_and, and_true, or_self, true_or, or_true, false_or, or_false, decide_eq_true_eq, Int.reduceAdd, Int.reduceSub, Int.reduceMul, Int.reduceNeg, Int.reduceEq, Int.reduceLT, Int.reduceLE, Int.reduceNe, lcmp_z, lcmp_le, lcmp_ge, lcmp_lt, lcmp_gt, gf_15, pf_15, cls_15, pos_15, gf_11, pf_11, cls_11, pos_11, gf_14, pf_14, cls_14, pos_14, gf_20, cls_20, pos_20, hn]
  simp (disch := omega) only [be_X5_askScript_2, be_X4_nextAct_m, be_X4_nextAct_0, be_X4_nextAct_1, Option.bind_some, cond_true, cond_false, decide_true, decide_false, Bool.not_true, Bool.not_false, ite_true, ite_false, and_self, true_and, and_true, or_self, true_or, or_true, false_or, or_false, decide_eq_true_eq, Int.reduceAdd, Int.reduceSub, Int.reduceMul, Int.reduceNeg, Int.reduceEq, Int.reduceLT, Int.reduceLE, Int.reduceNe, lcmp_z, lcmp_le, lcmp_ge, lcmp_lt, lcmp_gt, gf_15, pf_15, cls_15, pos_15, gf_11, pf_11, cls_11, pos_11, gf_14, pf_14, cls_14, pos_14, gf_20, cls_20, pos_20, c0, c1, c2, c3, c4, c5, d0, d1, d2, s0, s1, s2, s3, h4]
  simp (disch := omega) only [be_X5_askScript_7, be_X5_askScript_8, Option.bind_some, cond_true, cond_false, decide_true, decide_false, Bool.not_true, Bool.not_false, ite_true, ite_false, and_self, true_and, and_true, or_self, true_or, or_true, false_or, or_false, decide_eq_true_eq, Int.reduceAdd, Int.reduceSub, Int.reduceMul, Int.reduceNeg, Int.reduceEq, Int.reduceLT, Int.reduceLE, Int.reduceNe, lcmp_z, lcmp_le, lcmp_ge, lcmp_lt, lcmp_gt, am_up_eq, am_up_nl, am_up_ni, gf_15, pf_15, cls_15, pos_15, gf_11, pf_11, cls_11, pos_11, gf_14, pf_14, cls_14, pos_14, gf_20, cls_20, pos_20]
theorem qs_still {R : am_M} {w p : Int} {r : Int → Int} (h : ¬ quiet (R 64 (12 * w + p))) : qs R w 100 p r = (R 64 (12 * w + p), p, r) := if_neg h
theorem wl_ws13 {C R : am_M} {w : Int} (h : wl13 C R w) : ws13 C R w := by
  unfold wl13 at h
  rcases h with h | h | h | ⟨h1, h2, h3, h4, h5, h6, h7⟩
  · exact Or.inl h
  · exact Or.inr (Or.inl h)
  · exact Or.inr (Or.inr (Or.inl h))
  · exact Or.inr (Or.inr (Or.inr ⟨h1, h2, h3, _, _, _, qs_still h6, h4, h5, h7⟩))
