/-! a run of both, act by act -/
theorem rlk_rfr {R R' : am_M} (e : rlk R R') : rfr R R' := fun L i q => e L i (by unfold FR at q; omega)
theorem rfr_refl (R : am_M) : rfr R R := fun _ _ _ => rfl
theorem cfr_refl (R : am_M) : cfr R R := fun _ _ _ => rfl
theorem go_step {C R : am_M} {h V : Int → Int → Int} {t : Int → Int} (H : RR C R h V t) {way many dr made T : Int} (T0 : 0 ≤ T) (T1 : T < R 17 0) (hf : fa C R (R 17 0) (dw way) (R 17 0).toNat T ≠ -1) (m0 : 0 ≤ made) (m1 : made < 2000) (hac : R 17 42 < 42000) :
    ∃ v C2 R2 h2 V2 t2, fa C R (R 17 0) (dw way) (R 17 0).toNat T = v ∧ 0 ≤ v ∧ v < R 17 0 ∧ am_ev am_PP nX6_doActs 15 [16, way, many, dw way, dr, made, v] [] C = am_ev am_PP nX6_doActs 7 [16, way, many, dw way, (if way = 2 then v else v + dw way), dr, made + 1] [] C2 ∧ am_ev am_PP nX7_run 28 [17, way, many, T, dr, made] [] R = am_ev am_PP nX7_run 15 [17, way, many, (if way = 0 then nrm (R 17 0) (v + 1) else if way = 1 then nrm (R 17 0) (v + -1) else v), dr, made + 1] [] R2 ∧ RR C2 R2 h2 V2 t2 ∧ R2 17 42 = R 17 42 + 1 ∧ R2 17 43 = R 17 43 ∧ R2 17 0 = R 17 0 ∧ R2 17 11 = R 17 11 ∧ cfr C C2 ∧ rfr R R2 := by
  obtain ⟨g0, g4, g9, g10, _⟩ := RR_hall H
  have hv := (fa_b (show 0 < R 17 0 by omega) (R 17 0).toNat T T0 T1).resolve_left hf
  obtain ⟨R1, e1, e2, e3⟩ := rw_loop (way := way) (many := many) (dr := dr) (made := made) (R 17 0).toNat R T H T0 T1 hf
  revert hv e1 hf
  generalize fa C R (R 17 0) (dw way) (R 17 0).toNat T = v
  intro hf hv e1
  obtain ⟨v0, v1, vd⟩ := hv
  have k0 : R1 17 0 = R 17 0 := e3 _ _ (by omega)
  have k42 : R1 17 42 = R 17 42 := e3 _ _ (by omega)
  have vd1 : dgr C R1 v = 0 := by rw [dgr_rlk e3]; exact vd
  obtain ⟨C', R', h', V', t', a1, a2, a3, a4, a5, a6, a7, a8, a9, a10⟩ := act_step e2 v0 (by omega) (by omega) vd1
  have h50 := (RR_w H v0 v1).2.2.2.2.2.1
  have h8 := (RR_w H v0 v1).2.2.2.2.2.2.1
  have z42 := (RR_w H v0 v1).2.2.2.2.2.2.2.1
  have nv : (v = -1) = False := eq_false (by omega)
  refine ⟨v, am_up C' 16 8 (C 16 8 + 1), R', h', V', t', rfl, v0, v1, ?_, ?_, a4, by omega, by rw [a6]; exact e3 _ _ (by omega), by rw [a7]; exact k0, by rw [a8]; exact e3 _ _ (by omega), fun L i q => ?_, rfr_trans (rlk_rfr e3) a10⟩
  · by_cases q : way = 2
    · simp (disch := omega) only [be_X6_doActs_15, be_X6_doActs_17, be_X6_doActs_18, be_X6_doActs_20, Option.bind_some, cond_true, cond_false, decide_true, decide_false, Bool.not_true, Bool.not_false, ite_true, ite_false, and_self, true_and, and_true, or_self, true_or, or_true, false_or, or_false, decide_eq_true_eq, Int.reduceAdd, Int.reduceSub, Int.reduceMul, Int.reduceNeg, Int.reduceEq, Int.reduceLT, Int.reduceLE, Int.reduceNe, lcmp_z, lcmp_le, lcmp_ge, lcmp_lt, lcmp_gt, gf_16, pf_16, g0, ra_50, h50, cls_15, pos_15, a1, a3, nv, am_w32_ok, q]
    · have db := dw_b way
      simp (disch := omega) only [be_X6_doActs_15, be_X6_doActs_17, be_X6_doActs_19, be_X6_doActs_20, Option.bind_some, cond_true, cond_false, decide_true, decide_false, Bool.not_true, Bool.not_false, ite_true, ite_false, and_self, true_and, and_true, or_self, true_or, or_true, false_or, or_false, decide_eq_true_eq, Int.reduceAdd, Int.reduceSub, Int.reduceMul, Int.reduceNeg, Int.reduceEq, Int.reduceLT, Int.reduceLE, Int.reduceNe, lcmp_z, lcmp_le, lcmp_ge, lcmp_lt, lcmp_gt, gf_16, pf_16, g0, ra_50, h50, cls_15, pos_15, a1, a3, nv, am_w32_ok, eq_false q]
  · rw [e1]
    have k7 : R' 17 0 = R 17 0 := by rw [a7]; exact k0
    by_cases q0 : way = 0
    · have td := turn_up v0 v1
      simp (disch := omega) only [be_X7_run_33, be_X7_run_34, be_X7_run_38, Option.bind_some, cond_true, cond_false, decide_true, decide_false, Bool.not_true, Bool.not_false, ite_true, ite_false, and_self, true_and, and_true, or_self, true_or, or_true, false_or, or_false, decide_eq_true_eq, Int.reduceAdd, Int.reduceSub, Int.reduceMul, Int.reduceNeg, Int.reduceEq, Int.reduceLT, Int.reduceLE, Int.reduceNe, lcmp_z, lcmp_le, lcmp_ge, lcmp_lt, lcmp_gt, cls_17, gf_17, a2, k7, q0, am_w32_ok, irem_ok, td]
    · by_cases q1 : way = 1
      · have td := turn_dn v0 v1
        simp (disch := omega) only [be_X7_run_33, be_X7_run_35, be_X7_run_36, be_X7_run_38, Option.bind_some, cond_true, cond_false, decide_true, decide_false, Bool.not_true, Bool.not_false, ite_true, ite_false, and_self, true_and, and_true, or_self, true_or, or_true, false_or, or_false, decide_eq_true_eq, Int.reduceAdd, Int.reduceSub, Int.reduceMul, Int.reduceNeg, Int.reduceEq, Int.reduceLT, Int.reduceLE, Int.reduceNe, lcmp_z, lcmp_le, lcmp_ge, lcmp_lt, lcmp_gt, cls_17, gf_17, a2, k7, q1, am_w32_ok, irem_ok, td]
      · simp (disch := omega) only [be_X7_run_33, be_X7_run_35, be_X7_run_37, be_X7_run_38, Option.bind_some, cond_true, cond_false, decide_true, decide_false, Bool.not_true, Bool.not_false, ite_true, ite_false, and_self, true_and, and_true, or_self, true_or, or_true, false_or, or_false, decide_eq_true_eq, Int.reduceAdd, Int.reduceSub, Int.reduceMul, Int.reduceNeg, Int.reduceEq, Int.reduceLT, Int.reduceLE, Int.reduceNe, lcmp_z, lcmp_le, lcmp_ge, lcmp_lt, lcmp_gt, cls_17, gf_17, a2, k7, eq_false q0, eq_false q1, am_w32_ok]
  · rw [am_up_or _ _ _ _ _ _ (by unfold FR at q; omega)]
    exact a9 L i q
/-- the turn and the drawn number of the next act -/
def tnx (W way turn sd : Int) : Int := if way = 3 then Int.tmod (am_ushr (am_w32 (am_w32 (sd * 1103515245) + 12345)) 16) W else nrm W turn
def snx (way sd : Int) : Int := if way = 3 then am_w32 (am_w32 (sd * 1103515245) + 12345) else sd
theorem tnx_b {W way turn sd : Int} (h : 0 < W) : 0 ≤ tnx W way turn sd ∧ tnx W way turn sd < W := by
  unfold tnx
  split
  · have := ushr_b (am_w32 (am_w32 (sd * 1103515245) + 12345))
    exact ⟨Int.tmod_nonneg _ this.1, Int.tmod_lt_of_pos _ h⟩
  · exact nrm_b h
set_option maxHeartbeats 4000000 in
theorem main_loop {way many : Int} (wy0 : 0 ≤ way) (wy1 : way ≤ 3) (my1 : many ≤ 2000) : ∀ (m : Nat) (C R : am_M) (h V : Int → Int → Int) (t : Int → Int) (turn trn sd made : Int), RR C R h V t → 0 ≤ made → made + m = many → R 17 42 + m ≤ 42000 → R 17 43 ≤ R 17 42 → -1 ≤ turn → turn ≤ R 17 0 → (way ≠ 3 → 0 < R 17 0 → trn = nrm (R 17 0) turn) →
    ∃ ans C' R' h' V' t', am_ev am_PP nX6_doActs 7 [16, way, many, dw way, turn, sd, made] [] C = some (ans, C') ∧ am_ev am_PP nX7_run 15 [17, way, many, trn, sd, made] [] R = some (ans, R') ∧ RR C' R' h' V' t' ∧ R' 17 43 ≤ R' 17 42 ∧ R' 17 42 ≤ R 17 42 + m ∧ R' 17 0 = R 17 0 ∧ R' 17 11 = R 17 11 ∧ cfr C C' ∧ rfr R R' := by
  intro m
  induction m with
  | zero =>
    intro C R h V t turn trn sd made H m0 m1 hac hwd t0 t1 htr
    obtain ⟨g0, g4, g9, g10, _⟩ := RR_hall H
    obtain ⟨x, R1, e1, e2, e3, e4⟩ := ca_loop (R 17 0).toNat R 0 H (by omega) (by omega)
    have ca : am_evm am_PP nX7_canAny [(2, 17)] R = some (x, R1) := by rw [be_X7_canAny_m, be_X7_canAny_0]; exact e1
    have mm : many = made := by omega
    have fb := cl_firstAble H (d := 1) (turn := 0) (Or.inl rfl) (by omega) (by omega)
    have k : ∀ i, ¬ (45 ≤ i ∧ i ≤ 48) → R1 17 i = R 17 i := fun i q => e3 _ _ (by omega)
    have tail : R1 17 43 ≤ R1 17 42 ∧ R1 17 42 ≤ R 17 42 + (0 : Nat) ∧ R1 17 0 = R 17 0 ∧ R1 17 11 = R 17 11 := by
      rw [k 43 (by omega), k 42 (by omega), k 0 (by omega), k 11 (by omega)]; omega
    rcases e4 with ⟨x1, v, v0, v1, v2⟩ | ⟨x0, hn⟩
    · subst x1
      have hne := fa_some (d := 1) (u := nrm (R 17 0) 0) (Or.inl rfl) (nrm_b (by omega)).1 (nrm_b (by omega)).2 v0 v1 v2
      refine ⟨1, C, R1, h, V, t, ?_, ?_, e2, tail.1, tail.2.1, tail.2.2.1, tail.2.2.2, cfr_refl _, rlk_rfr e3⟩
      · simp (disch := omega) only [be_X6_doActs_7, be_X6_doActs_21, be_X6_doActs_23, be_X6_doActs_24, Option.bind_some, cond_true, cond_false, decide_true, decide_false, Bool.not_true, Bool.not_false, ite_true, ite_false, and_self, true_and, and_true, or_self, true_or, or_true, false_or, or_false, decide_eq_true_eq, Int.reduceAdd, Int.reduceSub, Int.reduceMul, Int.reduceNeg, Int.reduceEq, Int.reduceLT, Int.reduceLE, Int.reduceNe, lcmp_z, lcmp_le, lcmp_ge, lcmp_lt, lcmp_gt, cls_16, decide_eq_true (show many ≤ made by omega), fb, eq_false hne]
      · simp (disch := omega) only [be_X7_run_15, be_X7_run_24, be_X7_run_25, Option.bind_some, cond_true, cond_false, decide_true, decide_false, Bool.not_true, Bool.not_false, ite_true, ite_false, and_self, true_and, and_true, or_self, true_or, or_true, false_or, or_false, decide_eq_true_eq, Int.reduceAdd, Int.reduceSub, Int.reduceMul, Int.reduceNeg, Int.reduceEq, Int.reduceLT, Int.reduceLE, Int.reduceNe, lcmp_z, lcmp_le, lcmp_ge, lcmp_lt, lcmp_gt, cls_17, ca, decide_eq_true mm.symm]
    · subst x0
      have hfe : fa C R (R 17 0) 1 (R 17 0).toNat (nrm (R 17 0) 0) = -1 := by
        by_cases q : R 17 0 = 0
        · rw [q]; rfl
        · have nb := nrm_b (x := 0) (show 0 < R 17 0 by omega)
          rcases fa_b (C := C) (R := R) (d := 1) (show 0 < R 17 0 by omega) (R 17 0).toNat _ nb.1 nb.2 with a | ⟨a, b, c⟩
          · exact a
          · exact absurd c (hn _ a b)
      rw [hfe] at fb
      have st := cl_stillness H
      obtain ⟨R2, n1, n2, n3⟩ := nar_loop (R 17 0).toNat R1 0 (-2) e2 (by omega) (by rw [k 0 (by omega)]; omega) (Or.inl rfl)
      rw [tgf_rlk e3] at n1
      have na : am_evm am_PP nX7_narrow [(2, 17)] R1 = some (tgf C R (R 17 0).toNat 0 (-2), R2) := by rw [be_X7_narrow_m, be_X7_narrow_0]; exact n1
      have k2 : ∀ i, ¬ (45 ≤ i ∧ i ≤ 48) → R2 17 i = R1 17 i := fun i q => n3 _ _ (by omega)
      refine ⟨(if 0 ≤ tgf C R (R 17 0).toNat 0 (-2) then 1 else if tgf C R (R 17 0).toNat 0 (-2) = -1 then 2 else 0), C, R2, h, V, t, ?_, ?_, n2, by rw [k2 43 (by omega), k2 42 (by omega)]; exact tail.1, by rw [k2 42 (by omega)]; exact tail.2.1, by rw [k2 0 (by omega)]; exact tail.2.2.1, by rw [k2 11 (by omega)]; exact tail.2.2.2, cfr_refl _, rfr_trans (rlk_rfr e3) (rlk_rfr n3)⟩
      · simp (disch := omega) only [be_X6_doActs_7, be_X6_doActs_21, be_X6_doActs_22, be_X6_doActs_24, Option.bind_some, cond_true, cond_false, decide_true, decide_false, Bool.not_true, Bool.not_false, ite_true, ite_false, and_self, true_and, and_true, or_self, true_or, or_true, false_or, or_false, decide_eq_true_eq, Int.reduceAdd, Int.reduceSub, Int.reduceMul, Int.reduceNeg, Int.reduceEq, Int.reduceLT, Int.reduceLE, Int.reduceNe, lcmp_z, lcmp_le, lcmp_ge, lcmp_lt, lcmp_gt, cls_16, decide_eq_true (show many ≤ made by omega), fb, st]
      · by_cases c : 0 ≤ tgf C R (R 17 0).toNat 0 (-2)
        · rw [if_pos c]
          simp (disch := omega) only [be_X7_run_15, be_X7_run_16, be_X7_run_21, be_X7_run_22, Option.bind_some, cond_true, cond_false, decide_true, decide_false, Bool.not_true, Bool.not_false, ite_true, ite_false, and_self, true_and, and_true, or_self, true_or, or_true, false_or, or_false, decide_eq_true_eq, Int.reduceAdd, Int.reduceSub, Int.reduceMul, Int.reduceNeg, Int.reduceEq, Int.reduceLT, Int.reduceLE, Int.reduceNe, lcmp_z, lcmp_le, lcmp_ge, lcmp_lt, lcmp_gt, cls_17, ca, na, decide_eq_true c, decide_eq_true mm.symm]
        · rw [if_neg c]
          by_cases c2 : tgf C R (R 17 0).toNat 0 (-2) = -1
          · rw [if_pos c2]
            simp (disch := omega) only [be_X7_run_15, be_X7_run_16, be_X7_run_17, be_X7_run_18, be_X7_run_20, Option.bind_some, cond_true, cond_false, decide_true, decide_false, Bool.not_true, Bool.not_false, ite_true, ite_false, and_self, true_and, and_true, or_self, true_or, or_true, false_or, or_false, decide_eq_true_eq, Int.reduceAdd, Int.reduceSub, Int.reduceMul, Int.reduceNeg, Int.reduceEq, Int.reduceLT, Int.reduceLE, Int.reduceNe, lcmp_z, lcmp_le, lcmp_ge, lcmp_lt, lcmp_gt, cls_17, ca, na, decide_eq_false c, c2]
          · rw [if_neg c2]
            simp (disch := omega) only [be_X7_run_15, be_X7_run_16, be_X7_run_17, be_X7_run_19, be_X7_run_20, Option.bind_some, cond_true, cond_false, decide_true, decide_false, Bool.not_true, Bool.not_false, ite_true, ite_false, and_self, true_and, and_true, or_self, true_or, or_true, false_or, or_false, decide_eq_true_eq, Int.reduceAdd, Int.reduceSub, Int.reduceMul, Int.reduceNeg, Int.reduceEq, Int.reduceLT, Int.reduceLE, Int.reduceNe, lcmp_z, lcmp_le, lcmp_ge, lcmp_lt, lcmp_gt, cls_17, ca, na, decide_eq_false c, eq_false c2]
  | succ m ih =>
    intro C R h V t turn trn sd made H m0 m1 hac hwd t0 t1 htr
    -- someone can act
    have able : ∀ (C R : am_M) (h V : Int → Int → Int) (t : Int → Int), RR C R h V t → R 17 42 + (m + 1 : Nat) ≤ 42000 → R 17 43 ≤ R 17 42 + 1 → (way ≠ 3 → 0 < R 17 0 → trn = nrm (R 17 0) turn) → (∃ v, 0 ≤ v ∧ v < R 17 0 ∧ dgr C R v = 0) → ∃ v, fa C R (R 17 0) (dw way) (R 17 0).toNat (tnx (R 17 0) way turn sd) = v ∧ v ≠ -1 ∧ ∃ ans C' R' h' V' t', am_ev am_PP nX6_doActs 15 [16, way, many, dw way, snx way sd, made, v] [] C = some (ans, C') ∧ am_ev am_PP nX7_run 15 [17, way, many, trn, sd, made] [] R = some (ans, R') ∧ RR C' R' h' V' t' ∧ R' 17 43 ≤ R' 17 42 ∧ R' 17 42 ≤ R 17 42 + (m + 1 : Nat) ∧ R' 17 0 = R 17 0 ∧ R' 17 11 = R 17 11 ∧ cfr C C' ∧ rfr R R' := by
      intro C R h V t H hac hwd htr hab
      obtain ⟨v, v0, v1, v2⟩ := hab
      obtain ⟨g0, g4, g9, g10, _⟩ := RR_hall H
      have hW : 0 < R 17 0 := by omega
      obtain ⟨x, R1, e1, e2, e3, e4⟩ := ca_loop (R 17 0).toNat R 0 H (by omega) (by omega)
      have ca : am_evm am_PP nX7_canAny [(2, 17)] R = some (x, R1) := by rw [be_X7_canAny_m, be_X7_canAny_0]; exact e1
      have k : ∀ i, ¬ (45 ≤ i ∧ i ≤ 48) → R1 17 i = R 17 i := fun i q => e3 _ _ (by omega)
      have x1 : x = 1 := by
        rcases e4 with ⟨a, _⟩ | ⟨_, q⟩
        · exact a
        · exact absurd v2 (q v v0 v1)
      subst x1
      have tb := tnx_b (way := way) (turn := turn) (sd := sd) hW
      have hne := fa_some (C := C) (R := R) (dw_b way) tb.1 tb.2 v0 v1 v2
      have hne1 : fa C R1 (R1 17 0) (dw way) (R1 17 0).toNat (tnx (R 17 0) way turn sd) ≠ -1 := by
        rw [k 0 (by omega), fa_rlk e3]; exact hne
      obtain ⟨v', C2, R2, h2, V2, t2, f1, f2, f3, f4, f5, f6, f7, f8, f9, f10, f11, f12⟩ := go_step (way := way) (many := many) (dr := snx way sd) (made := made) e2 tb.1 (by rw [k 0 (by omega)]; exact tb.2) hne1 m0 (by omega) (by rw [k 42 (by omega)]; omega)
      rw [k 0 (by omega), fa_rlk e3] at f1
      rw [k 0 (by omega)] at f3 f5 f9
      rw [k 42 (by omega)] at f7
      rw [k 43 (by omega)] at f8
      rw [k 11 (by omega)] at f10
      have db := dw_b way
      obtain ⟨ans, C3, R3, h3, V3, t3, i1, i2, i3, i4, i5, i6, i7, i8, i9⟩ := ih C2 R2 h2 V2 t2 (if way = 2 then v' else v' + dw way) (if way = 0 then nrm (R 17 0) (v' + 1) else if way = 1 then nrm (R 17 0) (v' + -1) else v') (snx way sd) (made + 1) f6 (by omega) (by omega) (by omega) (by omega) (by split <;> omega) (by split <;> omega) (fun q3 _ => by
        rw [f9]
        by_cases q0 : way = 0
        · rw [if_pos q0, if_neg (by omega), q0]; rfl
        · rw [if_neg q0]
          by_cases q1 : way = 1
          · rw [if_pos q1, if_neg (by omega), q1]; rfl
          · rw [if_neg q1, if_pos (by omega)]
            unfold nrm
            rw [if_neg (by omega), if_neg (by omega)])
      refine ⟨v', f1, by omega, ans, C3, R3, h3, V3, t3, by rw [f4]; exact i1, ?_, i3, i4, by omega, by omega, by omega, cfr_trans f11 i8, rfr_trans (rlk_rfr e3) (rfr_trans f12 i9)⟩
      rw [← i2, ← f5]
      have mm : ¬ made = many := by omega
      unfold tnx snx
      by_cases q : way = 3
      · rw [if_pos q, if_pos q]
        simp (disch := omega) only [be_X7_run_15, be_X7_run_24, be_X7_run_26, be_X7_run_27, Option.bind_some, cond_true, cond_false, decide_true, decide_false, Bool.not_true, Bool.not_false, ite_true, ite_false, and_self, true_and, and_true, or_self, true_or, or_true, false_or, or_false, decide_eq_true_eq, Int.reduceAdd, Int.reduceSub, Int.reduceMul, Int.reduceNeg, Int.reduceEq, Int.reduceLT, Int.reduceLE, Int.reduceNe, lcmp_z, lcmp_le, lcmp_ge, lcmp_lt, lcmp_gt, cls_17, gf_17, ca, k, decide_eq_false mm, q, irem_ok]
      · rw [if_neg q, if_neg q, ← htr q hW]
        simp (disch := omega) only [be_X7_run_15, be_X7_run_24, be_X7_run_26, Option.bind_some, cond_true, cond_false, decide_true, decide_false, Bool.not_true, Bool.not_false, ite_true, ite_false, and_self, true_and, and_true, or_self, true_or, or_true, false_or, or_false, decide_eq_true_eq, Int.reduceAdd, Int.reduceSub, Int.reduceMul, Int.reduceNeg, Int.reduceEq, Int.reduceLT, Int.reduceLE, Int.reduceNe, lcmp_z, lcmp_le, lcmp_ge, lcmp_lt, lcmp_gt, cls_17, gf_17, ca, decide_eq_false mm, eq_false q]
    obtain ⟨g0, g4, g9, g10, _⟩ := RR_hall H
    -- the class draws
    obtain ⟨T, T0, T1, hT, hb⟩ : ∃ T, -2 ≤ T ∧ T ≤ 41 ∧ (0 < R 17 0 → nrm (R 17 0) T = tnx (R 17 0) way turn sd) ∧ ∃ S, (0 < R 17 0 → S = snx way sd) ∧ am_ev am_PP nX6_doActs 7 [16, way, many, dw way, turn, sd, made] [] C = am_ev am_PP nX6_doActs 11 [16, way, many, dw way, T, S, made] [] C := by
      have mm : ¬ many ≤ made := by omega
      by_cases q : way = 3
      · by_cases q2 : R 17 0 ≤ 0
        · refine ⟨turn, by omega, by omega, fun a => by omega, sd, fun a => by omega, ?_⟩
          simp (disch := omega) only [be_X6_doActs_7, be_X6_doActs_8, be_X6_doActs_9, Option.bind_some, cond_true, cond_false, decide_true, decide_false, Bool.not_true, Bool.not_false, ite_true, ite_false, and_self, true_and, and_true, or_self, true_or, or_true, false_or, or_false, decide_eq_true_eq, Int.reduceAdd, Int.reduceSub, Int.reduceMul, Int.reduceNeg, Int.reduceEq, Int.reduceLT, Int.reduceLE, Int.reduceNe, lcmp_z, lcmp_le, lcmp_ge, lcmp_lt, lcmp_gt, gf_16, g4, decide_eq_false mm, q, decide_eq_true q2]
        · have tb := tnx_b (W := R 17 0) (way := way) (turn := turn) (sd := sd) (by omega)
          refine ⟨tnx (R 17 0) way turn sd, by omega, by omega, fun _ => ?_, snx way sd, fun _ => rfl, ?_⟩
          · unfold nrm; rw [if_neg (by omega), if_neg (by omega)]
          · unfold tnx snx
            rw [if_pos q, if_pos q]
            simp (disch := omega) only [be_X6_doActs_7, be_X6_doActs_8, be_X6_doActs_9, be_X6_doActs_10, Option.bind_some, cond_true, cond_false, decide_true, decide_false, Bool.not_true, Bool.not_false, ite_true, ite_false, and_self, true_and, and_true, or_self, true_or, or_true, false_or, or_false, decide_eq_true_eq, Int.reduceAdd, Int.reduceSub, Int.reduceMul, Int.reduceNeg, Int.reduceEq, Int.reduceLT, Int.reduceLE, Int.reduceNe, lcmp_z, lcmp_le, lcmp_ge, lcmp_lt, lcmp_gt, gf_16, g4, decide_eq_false mm, q, decide_eq_false q2, irem_ok]
      · refine ⟨turn, by omega, by omega, fun _ => ?_, sd, fun _ => ?_, ?_⟩
        · unfold tnx; rw [if_neg q]
        · unfold snx; rw [if_neg q]
        · simp (disch := omega) only [be_X6_doActs_7, be_X6_doActs_8, Option.bind_some, cond_true, cond_false, decide_true, decide_false, Bool.not_true, Bool.not_false, ite_true, ite_false, and_self, true_and, and_true, or_self, true_or, or_true, false_or, or_false, decide_eq_true_eq, Int.reduceAdd, Int.reduceSub, Int.reduceMul, Int.reduceNeg, Int.reduceEq, Int.reduceLT, Int.reduceLE, Int.reduceNe, lcmp_z, lcmp_le, lcmp_ge, lcmp_lt, lcmp_gt, decide_eq_false mm, eq_false q]
    obtain ⟨S, hS, hb⟩ := hb
    rw [hb]
    have fb := cl_firstAble H (turn := T) (dw_b way) T0 T1
    obtain ⟨x, R1, e1, e2, e3, e4⟩ := ca_loop (R 17 0).toNat R 0 H (by omega) (by omega)
    have ca : am_evm am_PP nX7_canAny [(2, 17)] R = some (x, R1) := by rw [be_X7_canAny_m, be_X7_canAny_0]; exact e1
    have k : ∀ i, ¬ (45 ≤ i ∧ i ≤ 48) → R1 17 i = R 17 i := fun i q => e3 _ _ (by omega)
    rcases e4 with ⟨x1, v, v0, v1, v2⟩ | ⟨x0, hn⟩
    · obtain ⟨v', a1, a2, ans, C', R', h', V', t', a3, a4, a5⟩ := able C R h V t H hac (by omega) htr ⟨v, v0, v1, v2⟩
      have hW : 0 < R 17 0 := by omega
      rw [hT hW, a1] at fb
      rw [hS hW]
      refine ⟨ans, C', R', h', V', t', ?_, a4, a5⟩
      rw [← a3]
      simp (disch := omega) only [be_X6_doActs_11, Option.bind_some, cond_true, cond_false, decide_true, decide_false, Bool.not_true, Bool.not_false, ite_true, ite_false, and_self, true_and, and_true, or_self, true_or, or_true, false_or, or_false, decide_eq_true_eq, Int.reduceAdd, Int.reduceSub, Int.reduceMul, Int.reduceNeg, Int.reduceEq, Int.reduceLT, Int.reduceLE, Int.reduceNe, lcmp_z, lcmp_le, lcmp_ge, lcmp_lt, lcmp_gt, cls_16, fb, eq_false a2]
    · subst x0
      have hfe : fa C R (R 17 0) (dw way) (R 17 0).toNat (nrm (R 17 0) T) = -1 := by
        by_cases q : R 17 0 = 0
        · rw [q]; rfl
        · have nb := nrm_b (x := T) (show 0 < R 17 0 by omega)
          rcases fa_b (C := C) (R := R) (d := dw way) (show 0 < R 17 0 by omega) (R 17 0).toNat _ nb.1 nb.2 with a | ⟨a, b, c⟩
          · exact a
          · exact absurd c (hn _ a b)
      rw [hfe] at fb
      obtain ⟨R2, n1, n2, n3⟩ := nar_loop (R 17 0).toNat R1 0 (-2) e2 (by omega) (by rw [k 0 (by omega)]; omega) (Or.inl rfl)
      rw [tgf_rlk e3] at n1
      have na : am_evm am_PP nX7_narrow [(2, 17)] R1 = some (tgf C R (R 17 0).toNat 0 (-2), R2) := by rw [be_X7_narrow_m, be_X7_narrow_0]; exact n1
      have e23 := rlk_trans e3 n3
      have k2 : ∀ i, ¬ (45 ≤ i ∧ i ≤ 48) → R2 17 i = R 17 i := fun i q => e23 _ _ (by omega)
      by_cases c : 0 ≤ tgf C R (R 17 0).toNat 0 (-2)
      · obtain ⟨C3, R3, w1, w2, w3, w4, w5, w6, w7, w8, w9, w10⟩ := wid_step (b := tgf C R (R 17 0).toNat 0 (-2)) n2 (by rw [k2 0 (by omega), tgf_rlk e23]) c (by rw [k2 43 (by omega)]; omega)
        rw [k2 43 (by omega)] at w4
        rw [k2 42 (by omega)] at w5
        rw [k2 0 (by omega)] at w6 w10
        rw [k2 11 (by omega)] at w7
        obtain ⟨v', a1, a2, ans, C', R', h', V', t', a3, a4, a5, a6, a7, a8, a9, a10, a11⟩ := able C3 R3 h V t w3 (by omega) (by omega) (fun q1 q2 => by rw [w6]; exact htr q1 (by omega)) (by rw [w6]; exact w10)
        have hW : 0 < R 17 0 := by obtain ⟨v, v0, v1, _⟩ := w10; omega
        have fb2 := cl_firstAble w3 (turn := T) (dw_b way) T0 T1
        rw [w6] at fb2 a1
        rw [hT hW, a1] at fb2
        have mm : ¬ made = many := by omega
        rw [hS hW]
        refine ⟨ans, C', R', h', V', t', ?_, ?_, a5, a6, by omega, by omega, by omega, cfr_trans w8 a10, rfr_trans (rlk_rfr e23) (rfr_trans w9 a11)⟩
        · rw [← a3]
          simp (disch := omega) only [be_X6_doActs_11, be_X6_doActs_12, be_X6_doActs_14, Option.bind_some, cond_true, cond_false, decide_true, decide_false, Bool.not_true, Bool.not_false, ite_true, ite_false, and_self, true_and, and_true, or_self, true_or, or_true, false_or, or_false, decide_eq_true_eq, Int.reduceAdd, Int.reduceSub, Int.reduceMul, Int.reduceNeg, Int.reduceEq, Int.reduceLT, Int.reduceLE, Int.reduceNe, lcmp_z, lcmp_le, lcmp_ge, lcmp_lt, lcmp_gt, cls_16, fb, w1, fb2]
        · rw [← a4]
          have beg : am_ev am_PP nX7_run 15 [17, way, many, trn, sd, made] [] R = am_ev am_PP nX7_run 21 [17, way, many, trn, sd, made, tgf C R (R 17 0).toNat 0 (-2)] [] R2 := by
            simp (disch := omega) only [be_X7_run_15, be_X7_run_16, Option.bind_some, cond_true, cond_false, decide_true, decide_false, Bool.not_true, Bool.not_false, ite_true, ite_false, and_self, true_and, and_true, or_self, true_or, or_true, false_or, or_false, decide_eq_true_eq, Int.reduceAdd, Int.reduceSub, Int.reduceMul, Int.reduceNeg, Int.reduceEq, Int.reduceLT, Int.reduceLE, Int.reduceNe, lcmp_z, lcmp_le, lcmp_ge, lcmp_lt, lcmp_gt, cls_17, ca, na, decide_eq_true c]
          rw [beg]
          simp (disch := omega) only [be_X7_run_21, be_X7_run_23, Option.bind_some, cond_true, cond_false, decide_true, decide_false, Bool.not_true, Bool.not_false, ite_true, ite_false, and_self, true_and, and_true, or_self, true_or, or_true, false_or, or_false, decide_eq_true_eq, Int.reduceAdd, Int.reduceSub, Int.reduceMul, Int.reduceNeg, Int.reduceEq, Int.reduceLT, Int.reduceLE, Int.reduceNe, lcmp_z, lcmp_le, lcmp_ge, lcmp_lt, lcmp_gt, cls_17, w2, decide_eq_false mm]
      · have st := cl_stillness H
        have ht := cl_tightest H
        have nb : bl (tgf C R (R 17 0).toNat 0 (-2)) = 0 := by unfold bl; rw [if_pos (by omega)]
        rw [nb] at ht
        rw [if_neg c] at st
        refine ⟨(if tgf C R (R 17 0).toNat 0 (-2) = -1 then 2 else 0), C, R2, h, V, t, ?_, ?_, n2, by rw [k2 43 (by omega), k2 42 (by omega)]; exact hwd, by rw [k2 42 (by omega)]; omega, k2 0 (by omega), k2 11 (by omega), cfr_refl _, rlk_rfr e23⟩
        · simp (disch := omega) only [be_X6_doActs_11, be_X6_doActs_12, be_X6_doActs_13, be_X6_widenTightest_m, be_X6_widenTightest_0, be_X6_widenTightest_1, Option.bind_some, cond_true, cond_false, decide_true, decide_false, Bool.not_true, Bool.not_false, ite_true, ite_false, and_self, true_and, and_true, or_self, true_or, or_true, false_or, or_false, decide_eq_true_eq, Int.reduceAdd, Int.reduceSub, Int.reduceMul, Int.reduceNeg, Int.reduceEq, Int.reduceLT, Int.reduceLE, Int.reduceNe, lcmp_z, lcmp_le, lcmp_ge, lcmp_lt, lcmp_gt, cls_16, fb, ht, st]
        · by_cases c2 : tgf C R (R 17 0).toNat 0 (-2) = -1
          · rw [if_pos c2]
            simp (disch := omega) only [be_X7_run_15, be_X7_run_16, be_X7_run_17, be_X7_run_18, be_X7_run_20, Option.bind_some, cond_true, cond_false, decide_true, decide_false, Bool.not_true, Bool.not_false, ite_true, ite_false, and_self, true_and, and_true, or_self, true_or, or_true, false_or, or_false, decide_eq_true_eq, Int.reduceAdd, Int.reduceSub, Int.reduceMul, Int.reduceNeg, Int.reduceEq, Int.reduceLT, Int.reduceLE, Int.reduceNe, lcmp_z, lcmp_le, lcmp_ge, lcmp_lt, lcmp_gt, cls_17, ca, na, decide_eq_false c, c2]
          · rw [if_neg c2]
            simp (disch := omega) only [be_X7_run_15, be_X7_run_16, be_X7_run_17, be_X7_run_19, be_X7_run_20, Option.bind_some, cond_true, cond_false, decide_true, decide_false, Bool.not_true, Bool.not_false, ite_true, ite_false, and_self, true_and, and_true, or_self, true_or, or_true, false_or, or_false, decide_eq_true_eq, Int.reduceAdd, Int.reduceSub, Int.reduceMul, Int.reduceNeg, Int.reduceEq, Int.reduceLT, Int.reduceLE, Int.reduceNe, lcmp_z, lcmp_le, lcmp_ge, lcmp_lt, lcmp_gt, cls_17, ca, na, decide_eq_false c, eq_false c2]
