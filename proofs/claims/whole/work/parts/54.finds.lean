/-! the reference finds the same one -/
theorem fa_rlk {C R R1 : am_M} (e : rlk R R1) {W d : Int} : ∀ (n : Nat) (u : Int), fa C R1 W d n u = fa C R W d n u := by
  intro n
  induction n with
  | zero => intro u; rfl
  | succ n ih => intro u; unfold fa; rw [dgr_rlk e, ih]
theorem ushr_b (x : Int) : 0 ≤ am_ushr x 16 ∧ am_ushr x 16 ≤ 65535 := by
  unfold am_ushr
  generalize (Int32.ofInt x).toUInt32 = y
  have h1 : (Int32.ofInt 16).toUInt32 &&& Int32.toUInt32 31 = 16 := by decide
  rw [h1]
  have h2 : (y >>> 16).toNat < 65536 := by
    rw [UInt32.toNat_shiftRight]
    have := y.toNat_lt
    rw [show (16 : UInt32).toNat % 32 = 16 from rfl, Nat.shiftRight_eq_div_pow]
    omega
  have h3 : (y >>> 16).toInt32.toInt = ((y >>> 16).toNat : Int) := by
    show (y >>> 16).toBitVec.toInt = _
    rw [BitVec.toInt_eq_toNat_of_lt (show 2 * (y >>> 16).toNat < 2 ^ 32 by omega)]
    rfl
  omega
def dw (way : Int) : Int := if way = 1 then -1 else 1
theorem dw_b (way : Int) : dw way = 1 ∨ dw way = -1 := by
  unfold dw
  split
  · exact Or.inr rfl
  · exact Or.inl rfl
/-- the next one in turn, as the reference says it -/
theorem turn_up {W u : Int} (u0 : 0 ≤ u) (u1 : u < W) : Int.tmod (u + 1) W = nrm W (u + 1) := by
  rw [tm_goto u0 u1]
  unfold goto nrm
  by_cases c : u + 1 < W
  · rw [if_pos c, if_neg (by omega), if_neg (by omega)]
  · rw [if_neg c, if_neg (by omega), if_pos (by omega)]
theorem turn_dn {W u : Int} (u0 : 0 ≤ u) (u1 : u < W) : Int.tmod (u + W - 1) W = nrm W (u + -1) := by
  unfold nrm
  by_cases c : u = 0
  · subst c
    rw [if_pos (by omega), Int.tmod_eq_of_lt (by omega) (by omega)]; omega
  · rw [if_neg (by omega), if_neg (by omega), Int.tmod_eq_emod_of_nonneg (by omega), show u + W - 1 = (u - 1) + W by omega, Int.add_emod_right, Int.emod_eq_of_lt (by omega) (by omega)]
    omega
theorem rw_loop {C : am_M} {h V : Int → Int → Int} {t : Int → Int} {way many dr made : Int} : ∀ (n : Nat) (R : am_M) (u : Int), RR C R h V t → 0 ≤ u → u < R 17 0 → fa C R (R 17 0) (dw way) n u ≠ -1 → ∃ R', am_ev am_PP nX7_run 28 [17, way, many, u, dr, made] [] R = am_ev am_PP nX7_run 33 [17, way, many, fa C R (R 17 0) (dw way) n u, dr, made] [] R' ∧ RR C R' h V t ∧ rlk R R' := by
  intro n
  induction n with
  | zero => intro R u H u0 u1 hf; exact absurd rfl hf
  | succ n ih =>
    intro R u H u0 u1 hf
    have hle : 0 ≤ R 17 42 ∧ R 17 42 ≤ 42000 := by
      obtain ⟨_, _, _, _, _, _, _, _, _, r5, r6, _⟩ := H
      exact ⟨r5, r6⟩
    obtain ⟨g0, g4, g9, g10, _⟩ := RR_hall H
    obtain ⟨R1, e1, e2, e3, _⟩ := rf_state H u0 u1 (by omega)
    have k0 : R1 17 0 = R 17 0 := e3 _ _ (by unfold rtl; omega)
    unfold fa at hf ⊢
    by_cases c : dgr C R u = 0
    · rw [if_pos c]
      rw [c] at e1
      refine ⟨R1, ?_, e2, rlk_of e3⟩
      simp (disch := omega) only [be_X7_run_28, Option.bind_some, cond_true, cond_false, decide_true, decide_false, Bool.not_true, Bool.not_false, ite_true, ite_false, and_self, true_and, and_true, or_self, true_or, or_true, false_or, or_false, decide_eq_true_eq, Int.reduceAdd, Int.reduceSub, Int.reduceMul, Int.reduceNeg, Int.reduceEq, Int.reduceLT, Int.reduceLE, Int.reduceNe, lcmp_z, lcmp_le, lcmp_ge, lcmp_lt, lcmp_gt, cls_17, e1]
    · rw [if_neg c] at hf ⊢
      have nb := nrm_b (x := u + dw way) (show 0 < R 17 0 by omega)
      obtain ⟨R2, f1, f2, f3⟩ := ih R1 (nrm (R 17 0) (u + dw way)) e2 nb.1 (by omega) (by rw [k0, fa_rlk (rlk_of e3)]; exact hf)
      rw [k0, fa_rlk (rlk_of e3)] at f1
      refine ⟨R2, ?_, f2, rlk_trans (rlk_of e3) f3⟩
      rw [← f1]
      have beg : am_ev am_PP nX7_run 28 [17, way, many, u, dr, made] [] R = am_ev am_PP nX7_run 29 [17, way, many, u, dr, made] [] R1 := by
        simp (disch := omega) only [be_X7_run_28, Option.bind_some, cond_true, cond_false, decide_true, decide_false, Bool.not_true, Bool.not_false, ite_true, ite_false, and_self, true_and, and_true, or_self, true_or, or_true, false_or, or_false, decide_eq_true_eq, Int.reduceAdd, Int.reduceSub, Int.reduceMul, Int.reduceNeg, Int.reduceEq, Int.reduceLT, Int.reduceLE, Int.reduceNe, lcmp_z, lcmp_le, lcmp_ge, lcmp_lt, lcmp_gt, cls_17, e1, eq_false c]
      rw [beg]
      unfold dw
      by_cases q : way = 1
      · have td := turn_dn u0 u1
        rw [if_pos q]
        simp (disch := omega) only [be_X7_run_29, be_X7_run_30, be_X7_run_32, Option.bind_some, cond_true, cond_false, decide_true, decide_false, Bool.not_true, Bool.not_false, ite_true, ite_false, and_self, true_and, and_true, or_self, true_or, or_true, false_or, or_false, decide_eq_true_eq, Int.reduceAdd, Int.reduceSub, Int.reduceMul, Int.reduceNeg, Int.reduceEq, Int.reduceLT, Int.reduceLE, Int.reduceNe, lcmp_z, lcmp_le, lcmp_ge, lcmp_lt, lcmp_gt, gf_17, k0, q, am_w32_ok, irem_ok, td]
      · have td := turn_up u0 u1
        rw [if_neg q]
        simp (disch := omega) only [be_X7_run_29, be_X7_run_31, be_X7_run_32, Option.bind_some, cond_true, cond_false, decide_true, decide_false, Bool.not_true, Bool.not_false, ite_true, ite_false, and_self, true_and, and_true, or_self, true_or, or_true, false_or, or_false, decide_eq_true_eq, Int.reduceAdd, Int.reduceSub, Int.reduceMul, Int.reduceNeg, Int.reduceEq, Int.reduceLT, Int.reduceLE, Int.reduceNe, lcmp_z, lcmp_le, lcmp_ge, lcmp_lt, lcmp_gt, gf_17, k0, eq_false q, am_w32_ok, irem_ok, td]
