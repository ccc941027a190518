/-! the tightest band -/
def tgs (R : am_M) (s b : Int) : Int := if R 1341 b < 1000 ∧ ((if s = -2 then -1 else s) < 0 ∨ R 1341 b < R 1341 (if s = -2 then -1 else s) ∨ (R 1341 b = R 1341 (if s = -2 then -1 else s) ∧ b < (if s = -2 then -1 else s))) then b else (if s = -2 then -1 else s)
def tgf (C R : am_M) : Nat → Int → Int → Int
  | 0, _, s => s
  | n + 1, i, s => tgf C R n (i + 1) (if dgr C R i = 2 then tgs R s (R 62 (2 * i + C (15 + 256 * i) 9)) else s)
theorem tgs_rlk {R R1 : am_M} (e : rlk R R1) (s b : Int) : tgs R1 s b = tgs R s b := by
  unfold tgs
  rw [e 1341 b (by omega), e 1341 _ (by omega)]
theorem tgf_rlk {C R R1 : am_M} (e : rlk R R1) : ∀ (n : Nat) (i s : Int), tgf C R1 n i s = tgf C R n i s := by
  intro n
  induction n with
  | zero => intro i s; rfl
  | succ n ih =>
    intro i s
    unfold tgf
    rw [ih, dgr_rlk e, tgs_rlk e, e 62 _ (by omega)]
/-- a weaver that waits to write has a band -/
theorem RR_wait {C R : am_M} {h V : Int → Int → Int} {t : Int → Int} {w : Int} (H : RR C R h V t) (w0 : 0 ≤ w) (w1 : w < R 17 0) (hd : dgr C R w = 2) : C (15 + 256 * w) 8 = 1 ∧ 0 ≤ C (15 + 256 * w) 9 ∧ C (15 + 256 * w) 9 < 2 ∧ 0 ≤ R 62 (2 * w + C (15 + 256 * w) 9) ∧ R 62 (2 * w + C (15 + 256 * w) 9) < R 17 11 ∧ C (56 + 256 * w) (C (15 + 256 * w) 9) = 10 + 256 * R 62 (2 * w + C (15 + 256 * w) 9) ∧ ¬ (R 1597 (R 62 (2 * w + C (15 + 256 * w) 9)) < R 1341 (R 62 (2 * w + C (15 + 256 * w) 9)) ∨ 2 < R 1333 (R 317 (R 62 (2 * w + C (15 + 256 * w) 9)))) := by
  obtain ⟨n1, n2, n3⟩ := RR_next H w0 w1
  unfold dgr at hd
  by_cases q0 : C (15 + 256 * w) 8 = 0
  · rw [if_pos q0] at hd
    split at hd <;> omega
  · rw [if_neg q0] at hd
    by_cases q1 : C (15 + 256 * w) 8 = 1
    · rw [if_pos q1] at hd
      obtain ⟨p0, p1, p2⟩ := n2 q1
      obtain ⟨b0, b1, b2, b3⟩ := RR_out H w0 w1 p0 p1 p2
      refine ⟨q1, p0, p2, b0, b1, b3, ?_⟩
      intro c
      rw [if_pos c] at hd
      omega
    · rw [if_neg q1] at hd
      split at hd
      · omega
      · split at hd <;> omega
theorem cl_tighter {C : am_M} {b s x y : Int} (b0 : 0 ≤ b) (s0 : 0 ≤ s) (hb : C (10 + 256 * b) 0 = b) (hs : C (10 + 256 * s) 0 = s) (hx : C (10 + 256 * b) 5 = x) (hy : C (10 + 256 * s) 5 = y) : am_evm am_PP nX0_isTighterThan [(2, 10 + 256 * b), (2, 10 + 256 * s)] C = some (if x < y ∨ (x = y ∧ b < s) then 1 else 0, C) := by
  by_cases c1 : x < y
  · rw [if_pos (Or.inl c1)]
    simp (disch := omega) only [be_X0_isTighterThan_m, be_X0_isTighterThan_0, be_X0_isTighterThan_1, be_X0_isTighterThan_2, be_X0_isTighterThan_3, be_X0_isTighterThan_4, be_X0_isTighterThan_5, Option.bind_some, cond_true, cond_false, decide_true, decide_false, Bool.not_true, Bool.not_false, ite_true, ite_false, and_self, true_and, and_true, or_self, true_or, or_true, false_or, or_false, decide_eq_true_eq, Int.reduceAdd, Int.reduceSub, Int.reduceMul, Int.reduceNeg, Int.reduceEq, Int.reduceLT, Int.reduceLE, Int.reduceNe, lcmp_z, lcmp_le, lcmp_ge, lcmp_lt, lcmp_gt, gf_10, hx, hy, decide_eq_true c1]
  · by_cases c2 : x = y
    · by_cases c3 : b < s
      · rw [if_pos (Or.inr ⟨c2, c3⟩)]
        simp (disch := omega) only [be_X0_isTighterThan_m, be_X0_isTighterThan_0, be_X0_isTighterThan_1, be_X0_isTighterThan_2, be_X0_isTighterThan_3, be_X0_isTighterThan_4, be_X0_isTighterThan_5, Option.bind_some, cond_true, cond_false, decide_true, decide_false, Bool.not_true, Bool.not_false, ite_true, ite_false, and_self, true_and, and_true, or_self, true_or, or_true, false_or, or_false, decide_eq_true_eq, Int.reduceAdd, Int.reduceSub, Int.reduceMul, Int.reduceNeg, Int.reduceEq, Int.reduceLT, Int.reduceLE, Int.reduceNe, lcmp_z, lcmp_le, lcmp_ge, lcmp_lt, lcmp_gt, gf_10, hx, hy, hb, hs, decide_eq_false c1, decide_eq_true c2, decide_eq_false (show ¬ s ≤ b by omega)]
      · rw [if_neg (by omega)]
        simp (disch := omega) only [be_X0_isTighterThan_m, be_X0_isTighterThan_0, be_X0_isTighterThan_1, be_X0_isTighterThan_2, be_X0_isTighterThan_3, be_X0_isTighterThan_4, be_X0_isTighterThan_5, Option.bind_some, cond_true, cond_false, decide_true, decide_false, Bool.not_true, Bool.not_false, ite_true, ite_false, and_self, true_and, and_true, or_self, true_or, or_true, false_or, or_false, decide_eq_true_eq, Int.reduceAdd, Int.reduceSub, Int.reduceMul, Int.reduceNeg, Int.reduceEq, Int.reduceLT, Int.reduceLE, Int.reduceNe, lcmp_z, lcmp_le, lcmp_ge, lcmp_lt, lcmp_gt, gf_10, hx, hy, hb, hs, decide_eq_false c1, decide_eq_true c2, decide_eq_true (show s ≤ b by omega)]
    · rw [if_neg (by omega)]
      simp (disch := omega) only [be_X0_isTighterThan_m, be_X0_isTighterThan_0, be_X0_isTighterThan_1, be_X0_isTighterThan_2, be_X0_isTighterThan_3, be_X0_isTighterThan_4, be_X0_isTighterThan_5, Option.bind_some, cond_true, cond_false, decide_true, decide_false, Bool.not_true, Bool.not_false, ite_true, ite_false, and_self, true_and, and_true, or_self, true_or, or_true, false_or, or_false, decide_eq_true_eq, Int.reduceAdd, Int.reduceSub, Int.reduceMul, Int.reduceNeg, Int.reduceEq, Int.reduceLT, Int.reduceLE, Int.reduceNe, lcmp_z, lcmp_le, lcmp_ge, lcmp_lt, lcmp_gt, gf_10, hx, hy, decide_eq_false c1, decide_eq_false c2]
theorem tgs_b {R : am_M} {s b B : Int} (hb : 0 ≤ b) (hb2 : b < B) (hs : s = -2 ∨ s = -1 ∨ (0 ≤ s ∧ s < B)) : tgs R s b = -1 ∨ (0 ≤ tgs R s b ∧ tgs R s b < B) := by
  unfold tgs
  have e : (if s = -2 then (-1 : Int) else s) = -1 ∨ (0 ≤ (if s = -2 then (-1 : Int) else s) ∧ (if s = -2 then (-1 : Int) else s) < B) := by
    by_cases q : s = -2
    · rw [if_pos q]; exact Or.inl rfl
    · rw [if_neg q]; omega
  revert e
  generalize (if s = -2 then (-1 : Int) else s) = s'
  intro e
  split
  · exact Or.inr ⟨hb, hb2⟩
  · exact e
theorem tight_loop {C R : am_M} {h V : Int → Int → Int} {t : Int → Int} (H : RR C R h V t) : ∀ (n : Nat) (i s : Int), 0 ≤ i → i + n = R 17 0 → (s = -2 ∨ s = -1 ∨ (0 ≤ s ∧ s < R 17 11)) → am_ev am_PP nX6_tightest 1 [16, bl s, i] [] C = some (bl (tgf C R n i s), C) := by
  obtain ⟨g0, g4, g9, g10, _⟩ := RR_hall H
  intro n
  induction n with
  | zero =>
    intro i s i0 i1 hs
    simp (disch := omega) only [be_X6_tightest_1, be_X6_tightest_11, Option.bind_some, cond_true, cond_false, decide_true, decide_false, Bool.not_true, Bool.not_false, ite_true, ite_false, and_self, true_and, and_true, or_self, true_or, or_true, false_or, or_false, decide_eq_true_eq, Int.reduceAdd, Int.reduceSub, Int.reduceMul, Int.reduceNeg, Int.reduceEq, Int.reduceLT, Int.reduceLE, Int.reduceNe, lcmp_z, lcmp_le, lcmp_ge, lcmp_lt, lcmp_gt, gf_16, g4, decide_eq_true (show R 17 0 ≤ i by omega)]
    rfl
  | succ n ih =>
    intro i s i0 i1 hs
    obtain ⟨hR, w2, hsw, hpr, hwr, h50, h8, z1, z2, z3, z4, z5, z6⟩ := RR_w H i0 (show i < R 17 0 by omega)
    have dv := cl_doing H i0 (show i < R 17 0 by omega)
    unfold tgf
    have step : am_ev am_PP nX6_tightest 1 [16, bl s, i] [] C = am_ev am_PP nX6_tightest 1 [16, bl (if dgr C R i = 2 then tgs R s (R 62 (2 * i + C (15 + 256 * i) 9)) else s), i + 1] [] C := by
      by_cases c : dgr C R i = 2
      · rw [if_pos c]
        obtain ⟨q1, p0, p2, b0, b1, b3, _⟩ := RR_wait H i0 (show i < R 17 0 by omega) c
        rw [c] at dv
        revert b0 b1 b3
        generalize R 62 (2 * i + C (15 + 256 * i) 9) = b
        intro b0 b1 b3
        obtain ⟨b60, ⟨hbcl, hrb, _⟩, f0, f1, t0, t1⟩ := RR_b H b0 b1
        have hwn := hbcl.2.2.2.2.2.1
        have hnb := hbcl.1
        have nb : (10 + 256 * b = 0) = False := eq_false (by omega)
        have c2i : C (15 + 256 * i) 2 = 56 + 256 * i := hsw.1.2.2.1
        have beg : am_ev am_PP nX6_tightest 1 [16, bl s, i] [] C = am_ev am_PP nX6_tightest 6 [16, bl s, i, 10 + 256 * b] [] C := by
          simp (disch := omega) only [be_X6_tightest_1, Option.bind_some, cond_true, cond_false, decide_true, decide_false, Bool.not_true, Bool.not_false, ite_true, ite_false, and_self, true_and, and_true, or_self, true_or, or_true, false_or, or_false, decide_eq_true_eq, Int.reduceAdd, Int.reduceSub, Int.reduceMul, Int.reduceNeg, Int.reduceEq, Int.reduceLT, Int.reduceLE, Int.reduceNe, lcmp_z, lcmp_le, lcmp_ge, lcmp_lt, lcmp_gt, gf_16, g4, decide_eq_false (show ¬ R 17 0 ≤ i by omega)]
          simp (disch := omega) only [be_X6_tightest_2, be_X6_tightest_3, be_X6_tightest_5, Option.bind_some, cond_true, cond_false, decide_true, decide_false, Bool.not_true, Bool.not_false, ite_true, ite_false, and_self, true_and, and_true, or_self, true_or, or_true, false_or, or_false, decide_eq_true_eq, Int.reduceAdd, Int.reduceSub, Int.reduceMul, Int.reduceNeg, Int.reduceEq, Int.reduceLT, Int.reduceLE, Int.reduceNe, lcmp_z, lcmp_le, lcmp_ge, lcmp_lt, lcmp_gt, gf_15, pf_15, cls_15, pos_15, gf_10, pf_10, cls_10, pos_10, gf_16, g0, ra_50, ra_56, h50, dv, c2i, b3, nb]
        rw [beg]
        unfold tgs
        by_cases d1 : R 1341 b < 1000
        · by_cases d2 : s < 0
          · have e0 : bl s = 0 := by unfold bl; rw [if_pos d2]
            have e1 : (if s = -2 then (-1 : Int) else s) < 0 := by split <;> omega
            rw [if_pos ⟨d1, Or.inl e1⟩, e0]
            simp (disch := omega) only [be_X6_tightest_6, be_X6_tightest_7, be_X6_tightest_9, be_X6_tightest_10, Option.bind_some, cond_true, cond_false, decide_true, decide_false, Bool.not_true, Bool.not_false, ite_true, ite_false, and_self, true_and, and_true, or_self, true_or, or_true, false_or, or_false, decide_eq_true_eq, Int.reduceAdd, Int.reduceSub, Int.reduceMul, Int.reduceNeg, Int.reduceEq, Int.reduceLT, Int.reduceLE, Int.reduceNe, lcmp_z, lcmp_le, lcmp_ge, lcmp_lt, lcmp_gt, gf_15, pf_15, cls_15, pos_15, gf_10, pf_10, cls_10, pos_10, hwn, decide_eq_false (show ¬ 1000 ≤ R 1341 b by omega), am_w32_ok, bl, if_neg (show ¬ b < 0 by omega)]
          · have e0 : bl s = 10 + 256 * s := by unfold bl; rw [if_neg d2]
            have e2 : (if s = -2 then (-1 : Int) else s) = s := if_neg (by omega)
            obtain ⟨s60, ⟨hbs, _⟩, _⟩ := RR_b H (show 0 ≤ s by omega) (show s < R 17 11 by omega)
            have ht := cl_tighter (C := C) b0 (show 0 ≤ s by omega) hnb hbs.1 hwn hbs.2.2.2.2.2.1
            rw [e2, e0]
            have ns : (10 + 256 * s = 0) = False := eq_false (by omega)
            by_cases d3 : R 1341 b < R 1341 s ∨ (R 1341 b = R 1341 s ∧ b < s)
            · rw [if_pos d3] at ht
              rw [if_pos ⟨d1, Or.inr d3⟩]
              simp (disch := omega) only [be_X6_tightest_6, be_X6_tightest_7, be_X6_tightest_8, be_X6_tightest_9, be_X6_tightest_10, Option.bind_some, cond_true, cond_false, decide_true, decide_false, Bool.not_true, Bool.not_false, ite_true, ite_false, and_self, true_and, and_true, or_self, true_or, or_true, false_or, or_false, decide_eq_true_eq, Int.reduceAdd, Int.reduceSub, Int.reduceMul, Int.reduceNeg, Int.reduceEq, Int.reduceLT, Int.reduceLE, Int.reduceNe, lcmp_z, lcmp_le, lcmp_ge, lcmp_lt, lcmp_gt, gf_15, pf_15, cls_15, pos_15, gf_10, pf_10, cls_10, pos_10, hwn, decide_eq_false (show ¬ 1000 ≤ R 1341 b by omega), ns, ht, am_w32_ok, bl, if_neg (show ¬ b < 0 by omega)]
            · rw [if_neg d3] at ht
              rw [if_neg (by omega), e0]
              simp (disch := omega) only [be_X6_tightest_6, be_X6_tightest_7, be_X6_tightest_8, be_X6_tightest_10, Option.bind_some, cond_true, cond_false, decide_true, decide_false, Bool.not_true, Bool.not_false, ite_true, ite_false, and_self, true_and, and_true, or_self, true_or, or_true, false_or, or_false, decide_eq_true_eq, Int.reduceAdd, Int.reduceSub, Int.reduceMul, Int.reduceNeg, Int.reduceEq, Int.reduceLT, Int.reduceLE, Int.reduceNe, lcmp_z, lcmp_le, lcmp_ge, lcmp_lt, lcmp_gt, gf_15, pf_15, cls_15, pos_15, gf_10, pf_10, cls_10, pos_10, hwn, decide_eq_false (show ¬ 1000 ≤ R 1341 b by omega), ns, ht, am_w32_ok]
        · rw [if_neg (fun q => d1 q.1)]
          have e3 : bl (if s = -2 then -1 else s) = bl s := by
            by_cases q : s = -2
            · rw [if_pos q, q]; rfl
            · rw [if_neg q]
          rw [e3]
          simp (disch := omega) only [be_X6_tightest_6, be_X6_tightest_10, Option.bind_some, cond_true, cond_false, decide_true, decide_false, Bool.not_true, Bool.not_false, ite_true, ite_false, and_self, true_and, and_true, or_self, true_or, or_true, false_or, or_false, decide_eq_true_eq, Int.reduceAdd, Int.reduceSub, Int.reduceMul, Int.reduceNeg, Int.reduceEq, Int.reduceLT, Int.reduceLE, Int.reduceNe, lcmp_z, lcmp_le, lcmp_ge, lcmp_lt, lcmp_gt, gf_15, pf_15, cls_15, pos_15, gf_10, pf_10, cls_10, pos_10, hwn, decide_eq_true (show 1000 ≤ R 1341 b by omega), am_w32_ok]
      · rw [if_neg c]
        have beg : am_ev am_PP nX6_tightest 1 [16, bl s, i] [] C = am_ev am_PP nX6_tightest 2 [16, bl s, i] [] C := by
          simp (disch := omega) only [be_X6_tightest_1, Option.bind_some, cond_true, cond_false, decide_true, decide_false, Bool.not_true, Bool.not_false, ite_true, ite_false, and_self, true_and, and_true, or_self, true_or, or_true, false_or, or_false, decide_eq_true_eq, Int.reduceAdd, Int.reduceSub, Int.reduceMul, Int.reduceNeg, Int.reduceEq, Int.reduceLT, Int.reduceLE, Int.reduceNe, lcmp_z, lcmp_le, lcmp_ge, lcmp_lt, lcmp_gt, gf_16, g4, decide_eq_false (show ¬ R 17 0 ≤ i by omega)]
        rw [beg]
        simp (disch := omega) only [be_X6_tightest_2, be_X6_tightest_4, be_X6_tightest_5, be_X6_tightest_10, Option.bind_some, cond_true, cond_false, decide_true, decide_false, Bool.not_true, Bool.not_false, ite_true, ite_false, and_self, true_and, and_true, or_self, true_or, or_true, false_or, or_false, decide_eq_true_eq, Int.reduceAdd, Int.reduceSub, Int.reduceMul, Int.reduceNeg, Int.reduceEq, Int.reduceLT, Int.reduceLE, Int.reduceNe, lcmp_z, lcmp_le, lcmp_ge, lcmp_lt, lcmp_gt, gf_15, pf_15, cls_15, pos_15, gf_10, pf_10, cls_10, pos_10, gf_16, g0, ra_50, h50, dv, eq_false c, am_w32_ok]
    rw [step]
    refine ih _ _ (by omega) (by omega) ?_
    by_cases c : dgr C R i = 2
    · rw [if_pos c]
      obtain ⟨q1, p0, p2, b0, b1, b3, _⟩ := RR_wait H i0 (show i < R 17 0 by omega) c
      exact Or.inr (tgs_b b0 b1 hs)
    · rw [if_neg c]; exact hs
theorem cl_tightest {C R : am_M} {h V : Int → Int → Int} {t : Int → Int} (H : RR C R h V t) : am_evm am_PP nX6_tightest [(2, 16)] C = some (bl (tgf C R (R 17 0).toNat 0 (-2)), C) := by
  obtain ⟨g0, g4, g9, g10, _⟩ := RR_hall H
  rw [be_X6_tightest_m, be_X6_tightest_0]
  exact tight_loop H (R 17 0).toNat 0 (-2) (by omega) (by omega) (Or.inl rfl)
