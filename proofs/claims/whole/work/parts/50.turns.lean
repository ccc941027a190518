/-! whose turn it is: the loops that only look -/
def nrm (W x : Int) : Int := if x < 0 then W - 1 else if W ≤ x then 0 else x
def itn (W d : Int) : Nat → Int → Int
  | 0, u => u
  | n + 1, u => itn W d n (nrm W (u + d))
def fa (C R : am_M) (W d : Int) : Nat → Int → Int
  | 0, _ => -1
  | n + 1, u => if dgr C R u = 0 then u else fa C R W d n (nrm W (u + d))
theorem nrm_b {W x : Int} (h : 0 < W) : 0 ≤ nrm W x ∧ nrm W x < W := by
  unfold nrm
  split
  · omega
  · split <;> omega
theorem fa_b {C R : am_M} {W d : Int} (h : 0 < W) : ∀ (n : Nat) (u : Int), 0 ≤ u → u < W → fa C R W d n u = -1 ∨ (0 ≤ fa C R W d n u ∧ fa C R W d n u < W ∧ dgr C R (fa C R W d n u) = 0) := by
  intro n
  induction n with
  | zero => intro u _ _; exact Or.inl rfl
  | succ n ih =>
    intro u u0 u1
    unfold fa
    by_cases c : dgr C R u = 0
    · rw [if_pos c]; exact Or.inr ⟨u0, u1, c⟩
    · rw [if_neg c]; exact ih _ (nrm_b h).1 (nrm_b h).2
theorem fa_none {C R : am_M} {W d : Int} (h : 0 < W) : ∀ (n : Nat) (u : Int), 0 ≤ u → u < W → fa C R W d n u = -1 → ∀ k, k < n → dgr C R (itn W d k u) ≠ 0 := by
  intro n
  induction n with
  | zero => intro u _ _ _ k hk; omega
  | succ n ih =>
    intro u u0 u1 hf k hk
    unfold fa at hf
    by_cases c : dgr C R u = 0
    · rw [if_pos c] at hf; omega
    · rw [if_neg c] at hf
      cases k with
      | zero => exact c
      | succ k => exact ih _ (nrm_b h).1 (nrm_b h).2 hf k (by omega)
theorem itn_up1 {W : Int} : ∀ (k : Nat) (u : Int), 0 ≤ u → u + k < W → itn W 1 k u = u + k := by
  intro k
  induction k with
  | zero => intro u _ _; unfold itn; omega
  | succ k ih =>
    intro u u0 u1
    unfold itn
    rw [show nrm W (u + 1) = u + 1 by unfold nrm; rw [if_neg (by omega), if_neg (by omega)], ih _ (by omega) (by omega)]
    omega
theorem itn_up2 {W : Int} : ∀ (k : Nat) (u : Int), 0 ≤ u → u < W → W ≤ u + k → u + k < 2 * W → itn W 1 k u = u + k - W := by
  intro k
  induction k with
  | zero => intro u _ _ _ _; omega
  | succ k ih =>
    intro u u0 u1 u2 u3
    unfold itn
    by_cases c : u + 1 < W
    · rw [show nrm W (u + 1) = u + 1 by unfold nrm; rw [if_neg (by omega), if_neg (by omega)], ih _ (by omega) (by omega) (by omega) (by omega)]
      omega
    · rw [show nrm W (u + 1) = 0 by unfold nrm; rw [if_neg (by omega), if_pos (by omega)], itn_up1 _ _ (by omega) (by omega)]
      omega
theorem itn_dn1 {W : Int} : ∀ (k : Nat) (u : Int), u < W → 0 ≤ u - k → itn W (-1) k u = u - k := by
  intro k
  induction k with
  | zero => intro u _ _; unfold itn; omega
  | succ k ih =>
    intro u u0 u1
    unfold itn
    rw [show nrm W (u + -1) = u - 1 by unfold nrm; rw [if_neg (by omega), if_neg (by omega)]; omega, ih _ (by omega) (by omega)]
    omega
theorem itn_dn2 {W : Int} : ∀ (k : Nat) (u : Int), 0 ≤ u → u < W → u - k < 0 → 0 ≤ u - k + W → itn W (-1) k u = u - k + W := by
  intro k
  induction k with
  | zero => intro u _ _ _ _; omega
  | succ k ih =>
    intro u u0 u1 u2 u3
    unfold itn
    by_cases c : 0 ≤ u - 1
    · rw [show nrm W (u + -1) = u - 1 by unfold nrm; rw [if_neg (by omega), if_neg (by omega)]; omega, ih _ (by omega) (by omega) (by omega) (by omega)]
      omega
    · rw [show nrm W (u + -1) = W - 1 by unfold nrm; rw [if_pos (by omega)], itn_dn1 _ _ (by omega) (by omega)]
      omega
/-- someone can: he is found -/
theorem fa_some {C R : am_M} {W d u v : Int} (hd : d = 1 ∨ d = -1) (u0 : 0 ≤ u) (u1 : u < W) (v0 : 0 ≤ v) (v1 : v < W) (hv : dgr C R v = 0) : fa C R W d W.toNat u ≠ -1 := by
  intro hf
  have hn := fa_none (show 0 < W by omega) W.toNat u u0 u1 hf
  rcases hd with rfl | rfl
  · by_cases c : u ≤ v
    · have := hn (v - u).toNat (by omega)
      rw [itn_up1 _ _ u0 (by omega), show u + ((v - u).toNat : Int) = v by omega] at this
      exact this hv
    · have := hn (v - u + W).toNat (by omega)
      rw [itn_up2 _ _ u0 u1 (by omega) (by omega), show u + ((v - u + W).toNat : Int) - W = v by omega] at this
      exact this hv
  · by_cases c : v ≤ u
    · have := hn (u - v).toNat (by omega)
      rw [itn_dn1 _ _ u1 (by omega), show u - ((u - v).toNat : Int) = v by omega] at this
      exact this hv
    · have := hn (u - v + W).toNat (by omega)
      rw [itn_dn2 _ _ u0 u1 (by omega) (by omega), show u - ((u - v + W).toNat : Int) + W = v by omega] at this
      exact this hv
/-- the class looks for the first who can -/
theorem RR_hall {C R : am_M} {h V : Int → Int → Int} {t : Int → Int} (H : RR C R h V t) : C 16 0 = 50 ∧ C 16 4 = R 17 0 ∧ 0 ≤ R 17 0 ∧ R 17 0 ≤ 40 ∧ C 16 2 = 52 ∧ C 16 7 = R 17 43 ∧ 0 ≤ R 17 43 ∧ R 17 43 ≤ 50000 := by
  obtain ⟨hR, ⟨g0, g1, g2, g3, g4, g5, g6, g7, g8, g9, g10, g11, g12, g13⟩, hn, ho, hwh, r1, r2, r3, r4, r5, r6, r7, r8, _⟩ := H
  exact ⟨g0, g7, g9, g10, g2, r4, r7, r8⟩
theorem fa_loop {C R : am_M} {h V : Int → Int → Int} {t : Int → Int} (H : RR C R h V t) {d : Int} (hd : d = 1 ∨ d = -1) : ∀ (n : Nat) (who lk : Int), 0 ≤ lk → lk + n = R 17 0 → -2 ≤ who → who ≤ 41 → am_ev am_PP nX6_firstAble 1 [16, d, who, lk] [] C = some (fa C R (R 17 0) d n (nrm (R 17 0) who), C) := by
  obtain ⟨g0, g4, g9, g10, _⟩ := RR_hall H
  intro n
  induction n with
  | zero =>
    intro who lk l0 l1 w0 w1
    simp (disch := omega) only [be_X6_firstAble_1, be_X6_firstAble_9, Option.bind_some, cond_true, cond_false, decide_true, decide_false, Bool.not_true, Bool.not_false, ite_true, ite_false, and_self, true_and, and_true, or_self, true_or, or_true, false_or, or_false, decide_eq_true_eq, Int.reduceAdd, Int.reduceSub, Int.reduceMul, Int.reduceNeg, Int.reduceEq, Int.reduceLT, Int.reduceLE, Int.reduceNe, lcmp_z, lcmp_le, lcmp_ge, lcmp_lt, lcmp_gt, gf_16, g4, decide_eq_true (show R 17 0 ≤ lk by omega)]
    rfl
  | succ n ih =>
    intro who lk l0 l1 w0 w1
    have hW : 0 < R 17 0 := by omega
    have nb := nrm_b (x := who) hW
    have key : am_ev am_PP nX6_firstAble 1 [16, d, who, lk] [] C = am_ev am_PP nX6_firstAble 6 [16, d, nrm (R 17 0) who, lk] [] C := by
      unfold nrm
      by_cases c1 : who < 0
      · simp (disch := omega) only [be_X6_firstAble_1, be_X6_firstAble_2, be_X6_firstAble_3, Option.bind_some, cond_true, cond_false, decide_true, decide_false, Bool.not_true, Bool.not_false, ite_true, ite_false, and_self, true_and, and_true, or_self, true_or, or_true, false_or, or_false, decide_eq_true_eq, Int.reduceAdd, Int.reduceSub, Int.reduceMul, Int.reduceNeg, Int.reduceEq, Int.reduceLT, Int.reduceLE, Int.reduceNe, lcmp_z, lcmp_le, lcmp_ge, lcmp_lt, lcmp_gt, gf_16, g4, decide_eq_false (show ¬ R 17 0 ≤ lk by omega), decide_eq_false (show ¬ 0 ≤ who by omega), am_w32_ok, c1]
      · by_cases c2 : R 17 0 ≤ who
        · simp (disch := omega) only [be_X6_firstAble_1, be_X6_firstAble_2, be_X6_firstAble_4, be_X6_firstAble_5, Option.bind_some, cond_true, cond_false, decide_true, decide_false, Bool.not_true, Bool.not_false, ite_true, ite_false, and_self, true_and, and_true, or_self, true_or, or_true, false_or, or_false, decide_eq_true_eq, Int.reduceAdd, Int.reduceSub, Int.reduceMul, Int.reduceNeg, Int.reduceEq, Int.reduceLT, Int.reduceLE, Int.reduceNe, lcmp_z, lcmp_le, lcmp_ge, lcmp_lt, lcmp_gt, gf_16, g4, decide_eq_false (show ¬ R 17 0 ≤ lk by omega), decide_eq_true (show 0 ≤ who by omega), decide_eq_false (show ¬ who < R 17 0 by omega), c1, c2]
        · simp (disch := omega) only [be_X6_firstAble_1, be_X6_firstAble_2, be_X6_firstAble_4, Option.bind_some, cond_true, cond_false, decide_true, decide_false, Bool.not_true, Bool.not_false, ite_true, ite_false, and_self, true_and, and_true, or_self, true_or, or_true, false_or, or_false, decide_eq_true_eq, Int.reduceAdd, Int.reduceSub, Int.reduceMul, Int.reduceNeg, Int.reduceEq, Int.reduceLT, Int.reduceLE, Int.reduceNe, lcmp_z, lcmp_le, lcmp_ge, lcmp_lt, lcmp_gt, gf_16, g4, decide_eq_false (show ¬ R 17 0 ≤ lk by omega), decide_eq_true (show 0 ≤ who by omega), decide_eq_true (show who < R 17 0 by omega), c1, c2]
    rw [key]
    have h50 := (RR_w H nb.1 nb.2).2.2.2.2.2.1
    have dv := cl_doing H nb.1 nb.2
    unfold fa
    by_cases c : dgr C R (nrm (R 17 0) who) = 0
    · rw [if_pos c]
      simp (disch := omega) only [be_X6_firstAble_6, be_X6_firstAble_7, Option.bind_some, cond_true, cond_false, decide_true, decide_false, Bool.not_true, Bool.not_false, ite_true, ite_false, and_self, true_and, and_true, or_self, true_or, or_true, false_or, or_false, decide_eq_true_eq, Int.reduceAdd, Int.reduceSub, Int.reduceMul, Int.reduceNeg, Int.reduceEq, Int.reduceLT, Int.reduceLE, Int.reduceNe, lcmp_z, lcmp_le, lcmp_ge, lcmp_lt, lcmp_gt, gf_16, g0, ra_50, h50, cls_15, pos_15, dv, c]
    · rw [if_neg c, ← ih (nrm (R 17 0) who + d) (lk + 1) (by omega) (by omega) (by omega) (by omega)]
      simp (disch := omega) only [be_X6_firstAble_6, be_X6_firstAble_8, Option.bind_some, cond_true, cond_false, decide_true, decide_false, Bool.not_true, Bool.not_false, ite_true, ite_false, and_self, true_and, and_true, or_self, true_or, or_true, false_or, or_false, decide_eq_true_eq, Int.reduceAdd, Int.reduceSub, Int.reduceMul, Int.reduceNeg, Int.reduceEq, Int.reduceLT, Int.reduceLE, Int.reduceNe, lcmp_z, lcmp_le, lcmp_ge, lcmp_lt, lcmp_gt, gf_16, g0, ra_50, h50, cls_15, pos_15, dv, c, am_w32_ok]
theorem cl_firstAble {C R : am_M} {h V : Int → Int → Int} {t : Int → Int} (H : RR C R h V t) {d turn : Int} (hd : d = 1 ∨ d = -1) (w0 : -2 ≤ turn) (w1 : turn ≤ 41) : am_evm am_PP nX6_firstAble [(2, 16), (0, turn), (0, d)] C = some (fa C R (R 17 0) d (R 17 0).toNat (nrm (R 17 0) turn), C) := by
  obtain ⟨g0, g4, g9, g10, _⟩ := RR_hall H
  rw [be_X6_firstAble_m, be_X6_firstAble_0]
  exact fa_loop H hd (R 17 0).toNat turn 0 (by omega) (by omega) w0 w1
/-- what looks may change -/
def rlk (R R' : am_M) : Prop := ∀ L i, ¬ ((L = 17 ∧ 45 ≤ i ∧ i ≤ 48) ∨ L = 1589 ∨ L = 71 ∨ L = 66) → R' L i = R L i
theorem rlk_refl (R : am_M) : rlk R R := fun _ _ _ => rfl
theorem rlk_trans {A B C : am_M} (h1 : rlk A B) (h2 : rlk B C) : rlk A C := fun L i q => (h2 L i q).trans (h1 L i q)
theorem rlk_of {w : Int} {R R' : am_M} (h : fr2 (rtl w) R R') : rlk R R' := fun L i q => h L i (by unfold rtl; omega)
theorem dgr_rlk {C R R1 : am_M} (e : rlk R R1) (w : Int) : dgr C R1 w = dgr C R w := by
  unfold dgr
  rw [e 63 _ (by omega), e 62 _ (by omega), e 1597 _ (by omega), e 61 _ (by omega), e 1333 _ (by omega), e 1597 _ (by omega), e 1341 _ (by omega), e 317 _ (by omega), e 1333 _ (by omega)]
theorem ca_loop {C : am_M} {h V : Int → Int → Int} {t : Int → Int} : ∀ (n : Nat) (R : am_M) (u : Int), RR C R h V t → 0 ≤ u → u + n = R 17 0 → ∃ c R', am_ev am_PP nX7_canAny 1 [17, 0, u] [] R = some (c, R') ∧ RR C R' h V t ∧ rlk R R' ∧ ((c = 1 ∧ ∃ v, u ≤ v ∧ v < R 17 0 ∧ dgr C R v = 0) ∨ (c = 0 ∧ ∀ v, u ≤ v → v < R 17 0 → dgr C R v ≠ 0)) := by
  intro n
  induction n with
  | zero =>
    intro R u H u0 u1
    have : ¬ (0 : Int) = 1 := by decide
    simp (disch := omega) only [be_X7_canAny_1, be_X7_canAny_7, Option.bind_some, cond_true, cond_false, decide_true, decide_false, Bool.not_true, Bool.not_false, ite_true, ite_false, and_self, true_and, and_true, or_self, true_or, or_true, false_or, or_false, decide_eq_true_eq, Int.reduceAdd, Int.reduceSub, Int.reduceMul, Int.reduceNeg, Int.reduceEq, Int.reduceLT, Int.reduceLE, Int.reduceNe, lcmp_z, lcmp_le, lcmp_ge, lcmp_lt, lcmp_gt, gf_17, decide_eq_true (show R 17 0 ≤ u by omega)]
    exact ⟨0, R, rfl, H, rlk_refl _, Or.inr ⟨rfl, fun v a b => by omega⟩⟩
  | succ n ih =>
    intro R u H u0 u1
    obtain ⟨g0, g4, g9, g10, _⟩ := RR_hall H
    have hle : 0 ≤ R 17 42 ∧ R 17 42 ≤ 42000 := by
      obtain ⟨_, _, _, _, _, _, _, _, _, r5, r6, _⟩ := H
      exact ⟨r5, r6⟩
    obtain ⟨R1, e1, e2, e3, _⟩ := rf_state H u0 (by omega) (by omega)
    have k0 : R1 17 0 = R 17 0 := e3 _ _ (by unfold rtl; omega)
    by_cases c : dgr C R u = 0
    · rw [c] at e1
      have fin : am_ev am_PP nX7_canAny 1 [17, 1, u + 1] [] R1 = some (1, R1) := by
        by_cases q : R 17 0 ≤ u + 1
        · simp (disch := omega) only [be_X7_canAny_1, be_X7_canAny_7, Option.bind_some, cond_true, cond_false, decide_true, decide_false, Bool.not_true, Bool.not_false, ite_true, ite_false, and_self, true_and, and_true, or_self, true_or, or_true, false_or, or_false, decide_eq_true_eq, Int.reduceAdd, Int.reduceSub, Int.reduceMul, Int.reduceNeg, Int.reduceEq, Int.reduceLT, Int.reduceLE, Int.reduceNe, lcmp_z, lcmp_le, lcmp_ge, lcmp_lt, lcmp_gt, gf_17, k0, decide_eq_true q]
        · simp (disch := omega) only [be_X7_canAny_1, be_X7_canAny_2, be_X7_canAny_7, Option.bind_some, cond_true, cond_false, decide_true, decide_false, Bool.not_true, Bool.not_false, ite_true, ite_false, and_self, true_and, and_true, or_self, true_or, or_true, false_or, or_false, decide_eq_true_eq, Int.reduceAdd, Int.reduceSub, Int.reduceMul, Int.reduceNeg, Int.reduceEq, Int.reduceLT, Int.reduceLE, Int.reduceNe, lcmp_z, lcmp_le, lcmp_ge, lcmp_lt, lcmp_gt, gf_17, k0, decide_eq_false q]
      simp (disch := omega) only [be_X7_canAny_1, Option.bind_some, cond_true, cond_false, decide_true, decide_false, Bool.not_true, Bool.not_false, ite_true, ite_false, and_self, true_and, and_true, or_self, true_or, or_true, false_or, or_false, decide_eq_true_eq, Int.reduceAdd, Int.reduceSub, Int.reduceMul, Int.reduceNeg, Int.reduceEq, Int.reduceLT, Int.reduceLE, Int.reduceNe, lcmp_z, lcmp_le, lcmp_ge, lcmp_lt, lcmp_gt, gf_17, decide_eq_false (show ¬ R 17 0 ≤ u by omega)]
      simp (disch := omega) only [be_X7_canAny_2, be_X7_canAny_3, be_X7_canAny_4, be_X7_canAny_6, Option.bind_some, cond_true, cond_false, decide_true, decide_false, Bool.not_true, Bool.not_false, ite_true, ite_false, and_self, true_and, and_true, or_self, true_or, or_true, false_or, or_false, decide_eq_true_eq, Int.reduceAdd, Int.reduceSub, Int.reduceMul, Int.reduceNeg, Int.reduceEq, Int.reduceLT, Int.reduceLE, Int.reduceNe, lcmp_z, lcmp_le, lcmp_ge, lcmp_lt, lcmp_gt, cls_17, e1, am_w32_ok, fin]
      exact ⟨1, R1, rfl, e2, rlk_of e3, Or.inl ⟨rfl, u, by omega, by omega, c⟩⟩
    · obtain ⟨x, R2, f1, f2, f3, f4⟩ := ih R1 (u + 1) e2 (by omega) (by omega)
      simp (disch := omega) only [be_X7_canAny_1, Option.bind_some, cond_true, cond_false, decide_true, decide_false, Bool.not_true, Bool.not_false, ite_true, ite_false, and_self, true_and, and_true, or_self, true_or, or_true, false_or, or_false, decide_eq_true_eq, Int.reduceAdd, Int.reduceSub, Int.reduceMul, Int.reduceNeg, Int.reduceEq, Int.reduceLT, Int.reduceLE, Int.reduceNe, lcmp_z, lcmp_le, lcmp_ge, lcmp_lt, lcmp_gt, gf_17, decide_eq_false (show ¬ R 17 0 ≤ u by omega)]
      simp (disch := omega) only [be_X7_canAny_2, be_X7_canAny_3, be_X7_canAny_5, be_X7_canAny_6, Option.bind_some, cond_true, cond_false, decide_true, decide_false, Bool.not_true, Bool.not_false, ite_true, ite_false, and_self, true_and, and_true, or_self, true_or, or_true, false_or, or_false, decide_eq_true_eq, Int.reduceAdd, Int.reduceSub, Int.reduceMul, Int.reduceNeg, Int.reduceEq, Int.reduceLT, Int.reduceLE, Int.reduceNe, lcmp_z, lcmp_le, lcmp_ge, lcmp_lt, lcmp_gt, cls_17, e1, eq_false c, am_w32_ok, f1]
      refine ⟨x, R2, rfl, f2, rlk_trans (rlk_of e3) f3, ?_⟩
      rw [k0] at f4
      rcases f4 with ⟨p, v, v0, v1, v2⟩ | ⟨p, q⟩
      · exact Or.inl ⟨p, v, by omega, v1, by rw [← dgr_look e3]; exact v2⟩
      · refine Or.inr ⟨p, fun v a b => ?_⟩
        by_cases e : v = u
        · rw [e]; exact c
        · rw [← dgr_look e3]; exact q v (by omega) b
