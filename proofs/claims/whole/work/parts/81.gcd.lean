/-! the greatest common divisor, as both find it -/
def gd (x y : Int) : Int := ((Nat.gcd x.toNat y.toNat : Nat) : Int)
theorem gcd_step (a b : Nat) : Nat.gcd a b = Nat.gcd b (a % b) := by
  rw [Nat.gcd_comm a b, Nat.gcd_rec b a, Nat.gcd_comm]
theorem rf_common_loop (R : am_M) : ∀ (n a b : Nat), b ≤ n → am_ev am_PP nX7_common 1 [(a : Int), (b : Int)] [] R = some (((Nat.gcd a b : Nat) : Int), R) := by
  intro n
  induction n with
  | zero =>
    intro a b h
    have e : b = 0 := by omega
    subst e
    rw [Nat.gcd_zero_right]
    simp (disch := omega) only [be_X7_common_1, be_X7_common_3, Option.bind_some, cond_true, cond_false, decide_true, decide_false, Bool.not_true, Bool.not_false, ite_true, ite_false, and_self, true_and, and_true, or_self, true_or, or_true, false_or, or_false, decide_eq_true_eq, Int.reduceAdd, Int.reduceSub, Int.reduceMul, Int.reduceNeg, Int.reduceEq, Int.reduceLT, Int.reduceLE, Int.reduceNe, lcmp_z, lcmp_le, lcmp_ge, lcmp_lt, lcmp_gt, decide_eq_true, decide_eq_false, if_pos, if_neg]
  | succ n ih =>
    intro a b h
    by_cases c : b = 0
    · subst c
      rw [Nat.gcd_zero_right]
      simp (disch := omega) only [be_X7_common_1, be_X7_common_3, Option.bind_some, cond_true, cond_false, decide_true, decide_false, Bool.not_true, Bool.not_false, ite_true, ite_false, and_self, true_and, and_true, or_self, true_or, or_true, false_or, or_false, decide_eq_true_eq, Int.reduceAdd, Int.reduceSub, Int.reduceMul, Int.reduceNeg, Int.reduceEq, Int.reduceLT, Int.reduceLE, Int.reduceNe, lcmp_z, lcmp_le, lcmp_ge, lcmp_lt, lcmp_gt, decide_eq_true, decide_eq_false, if_pos, if_neg]
    · have hlt := Nat.mod_lt a (show b > 0 by omega)
      have hb : ¬ ((b : Int) = 0) := by omega
      have e : am_lrem (a : Int) (b : Int) = some (((a % b : Nat) : Int)) := by
        unfold am_lrem
        rw [if_neg hb]
        rfl
      rw [gcd_step, ← ih b (a % b) (by omega)]
      have e1 : am_ev am_PP nX7_common 1 [(a : Int), (b : Int)] [] R = am_ev am_PP nX7_common 2 [(a : Int), (b : Int)] [] R := by
        simp (disch := omega) only [be_X7_common_1, Option.bind_some, cond_true, cond_false, decide_true, decide_false, Bool.not_true, Bool.not_false, ite_true, ite_false, and_self, true_and, and_true, or_self, true_or, or_true, false_or, or_false, decide_eq_true_eq, Int.reduceAdd, Int.reduceSub, Int.reduceMul, Int.reduceNeg, Int.reduceEq, Int.reduceLT, Int.reduceLE, Int.reduceNe, lcmp_z, lcmp_le, lcmp_ge, lcmp_lt, lcmp_gt, decide_eq_false hb]
      rw [e1, be_X7_common_2, e, Option.bind_some]
theorem rf_common (R : am_M) {x y : Int} (x0 : 0 ≤ x) (y0 : 0 ≤ y) : am_evm am_PP nX7_common [(1, x), (1, y)] R = some (gd x y, R) := by
  have h := rf_common_loop R y.toNat x.toNat y.toNat (Nat.le_refl _)
  rw [show ((x.toNat : Nat) : Int) = x by omega, show ((y.toNat : Nat) : Int) = y by omega] at h
  unfold gd
  rw [← h]
  simp (disch := omega) only [be_X7_common_m, be_X7_common_0]
theorem mod_half {b c : Nat} (c0 : 0 < c) (h : c < b) : 2 * (b % c) < b := by
  by_cases q : 2 * c ≤ b
  · have := Nat.mod_lt b c0
    omega
  · have e : b % c = b - c := by
      rw [Nat.mod_eq_sub_mod (by omega), Nat.mod_eq_of_lt (by omega)]
    omega
theorem cl_gd_loop (C : am_M) : ∀ (k a b : Nat) (r : Int), b < 2 ^ k → 0 ≤ r → r + 2 * k ≤ 98 → am_ev am_PP nX2_greatestDivisor 1 [(a : Int), (b : Int), r] [] C = some (((Nat.gcd a b : Nat) : Int), C) := by
  intro k
  have base : ∀ (a : Nat) (r : Int), r ≤ 99 → am_ev am_PP nX2_greatestDivisor 1 [(a : Int), ((0 : Nat) : Int), r] [] C = some (((Nat.gcd a 0 : Nat) : Int), C) := by
    intro a r hr
    rw [Nat.gcd_zero_right]
    simp (disch := omega) only [be_X2_greatestDivisor_1, be_X2_greatestDivisor_2, be_X2_greatestDivisor_4, Option.bind_some, cond_true, cond_false, decide_true, decide_false, Bool.not_true, Bool.not_false, ite_true, ite_false, and_self, true_and, and_true, or_self, true_or, or_true, false_or, or_false, decide_eq_true_eq, Int.reduceAdd, Int.reduceSub, Int.reduceMul, Int.reduceNeg, Int.reduceEq, Int.reduceLT, Int.reduceLE, Int.reduceNe, lcmp_z, lcmp_le, lcmp_ge, lcmp_lt, lcmp_gt, decide_eq_true, decide_eq_false, if_pos, if_neg]
  have stp : ∀ (a b : Nat) (r : Int), 0 ≤ r → r ≤ 99 → b ≠ 0 → am_ev am_PP nX2_greatestDivisor 1 [(a : Int), (b : Int), r] [] C = am_ev am_PP nX2_greatestDivisor 1 [(b : Int), ((a % b : Nat) : Int), r + 1] [] C := by
    intro a b r r0 hr hb
    have hb : ¬ ((b : Int) = 0) := by omega
    have e : am_lrem (a : Int) (b : Int) = some (((a % b : Nat) : Int)) := by
      unfold am_lrem
      rw [if_neg hb]
      rfl
    have e1 : am_ev am_PP nX2_greatestDivisor 1 [(a : Int), (b : Int), r] [] C = am_ev am_PP nX2_greatestDivisor 3 [(a : Int), (b : Int), r] [] C := by
      simp (disch := omega) only [be_X2_greatestDivisor_1, be_X2_greatestDivisor_2, Option.bind_some, cond_true, cond_false, decide_true, decide_false, Bool.not_true, Bool.not_false, ite_true, ite_false, and_self, true_and, and_true, or_self, true_or, or_true, false_or, or_false, decide_eq_true_eq, Int.reduceAdd, Int.reduceSub, Int.reduceMul, Int.reduceNeg, Int.reduceEq, Int.reduceLT, Int.reduceLE, Int.reduceNe, lcmp_z, lcmp_le, lcmp_ge, lcmp_lt, lcmp_gt, decide_eq_true, decide_eq_false, if_pos, if_neg, decide_eq_false hb]
    rw [e1, be_X2_greatestDivisor_3, e, Option.bind_some, am_w32_ok _ (by omega) (by omega)]
  induction k with
  | zero =>
    intro a b r h r0 hr
    have e : b = 0 := by omega
    subst e
    exact base a r (by omega)
  | succ k ih =>
    intro a b r h r0 hr
    by_cases c : b = 0
    · subst c
      exact base a r (by omega)
    · rw [stp a b r r0 (by omega) c, gcd_step]
      have hlt := Nat.mod_lt a (show b > 0 by omega)
      by_cases d : a % b = 0
      · rw [d]
        exact base b (r + 1) (by omega)
      · rw [stp b (a % b) (r + 1) (by omega) (by omega) d, gcd_step]
        have hh := mod_half (show 0 < a % b by omega) hlt
        rw [Nat.pow_succ] at h
        have := ih (a % b) (b % (a % b)) (r + 1 + 1) (by omega) (by omega) (by omega)
        exact this
theorem cl_gd (C : am_M) {x y : Int} (x0 : 0 ≤ x) (y0 : 0 ≤ y) (y1 : y < 1000000000) : am_evm am_PP nX2_greatestDivisor [(1, x), (1, y)] C = some (gd x y, C) := by
  have h := cl_gd_loop C 30 x.toNat y.toNat 0 (by omega) (by omega) (by omega)
  rw [show ((x.toNat : Nat) : Int) = x by omega, show ((y.toNat : Nat) : Int) = y by omega] at h
  unfold gd
  rw [← h]
  simp (disch := omega) only [be_X2_greatestDivisor_m, be_X2_greatestDivisor_0]
theorem gd_pos {x y : Int} (h : 0 < x ∨ 0 < y) : 0 < gd x y := by
  unfold gd
  have : 0 < Nat.gcd x.toNat y.toNat := by
    rcases h with h | h
    · exact Nat.gcd_pos_of_pos_left _ (by omega)
    · exact Nat.gcd_pos_of_pos_right _ (by omega)
  omega
theorem ldiv_ok {x g : Int} (x0 : 0 ≤ x) (x1 : x ≤ 1000000000000000) (g0 : 0 < g) : am_ldiv x g = some (x / g) := by
  unfold am_ldiv
  have h1 := Int.ediv_nonneg x0 (Int.le_of_lt g0)
  have h2 := Int.ediv_le_self g x0
  rw [if_neg (by omega), Int.tdiv_eq_ediv_of_nonneg x0, am_w64_ok _ (by omega) (by omega)]
theorem div_nat {x y : Int} (x0 : 0 ≤ x) : x / gd x y = ((x.toNat / Nat.gcd x.toNat y.toNat : Nat) : Int) := by
  unfold gd
  conv => lhs; rw [show x = ((x.toNat : Nat) : Int) by omega]
  rw [Int.toNat_natCast]
  exact (Int.natCast_ediv _ _).symm
theorem div_nat2 {x y : Int} (y0 : 0 ≤ y) : y / gd x y = ((y.toNat / Nat.gcd x.toNat y.toNat : Nat) : Int) := by
  unfold gd
  conv => lhs; rw [show y = ((y.toNat : Nat) : Int) by omega]
  rw [Int.toNat_natCast]
  exact (Int.natCast_ediv _ _).symm
theorem frac_uniq {x y u v : Nat} (x0 : 0 < x) (y0 : 0 < y) (u0 : 0 < u) (h : Nat.gcd u v = 1) (e : x * v = u * y) : u = x / Nat.gcd x y ∧ v = y / Nat.gcd x y := by
  have g0 : 0 < Nat.gcd x y := Nat.gcd_pos_of_pos_left _ x0
  obtain ⟨p, hp⟩ := Nat.gcd_dvd_left x y
  obtain ⟨q, hq⟩ := Nat.gcd_dvd_right x y
  have ep : x / Nat.gcd x y = p := by
    conv => lhs; arg 1; rw [hp]
    exact Nat.mul_div_cancel_left _ g0
  have eq : y / Nat.gcd x y = q := by
    conv => lhs; arg 1; rw [hq]
    exact Nat.mul_div_cancel_left _ g0
  have hc : Nat.Coprime (x / Nat.gcd x y) (y / Nat.gcd x y) := Nat.coprime_div_gcd_div_gcd g0
  rw [ep, eq] at hc
  rw [ep, eq]
  have e2 : p * v = u * q := by
    have : Nat.gcd x y * (p * v) = Nat.gcd x y * (u * q) := by
      rw [← Nat.mul_assoc, ← hp, e, Nat.mul_left_comm, ← hq]
    exact Nat.eq_of_mul_eq_mul_left g0 this
  have d1 : p ∣ u := hc.dvd_of_dvd_mul_right ⟨v, by rw [← e2]⟩
  have d2 : u ∣ p := Nat.Coprime.dvd_of_dvd_mul_right (show Nat.Coprime u v from h) ⟨q, e2⟩
  have eu : u = p := Nat.dvd_antisymm d2 d1
  refine ⟨eu, ?_⟩
  rw [eu] at e2
  exact Nat.eq_of_mul_eq_mul_left (by omega) e2
theorem frac_eq {x y u v : Nat} (hu : u = x / Nat.gcd x y) (hv : v = y / Nat.gcd x y) : x * v = u * y := by
  rw [hu, hv]
  have h1 := Nat.div_mul_cancel (Nat.gcd_dvd_left x y)
  have h2 := Nat.div_mul_cancel (Nat.gcd_dvd_right x y)
  calc x * (y / Nat.gcd x y) = (x / Nat.gcd x y * Nat.gcd x y) * (y / Nat.gcd x y) := by rw [h1]
    _ = x / Nat.gcd x y * (y / Nat.gcd x y * Nat.gcd x y) := by rw [Nat.mul_assoc, Nat.mul_comm (Nat.gcd x y)]
    _ = x / Nat.gcd x y * y := by rw [h2]
