/-! the parts of a net: both draw together alike -/
def ps1 (P : Int → Int) (f t : Int) : Int → Int := fun i => if i = f ∨ i = t then (if P f ≤ P t then P f else P t) else P i
def psb (R : am_M) : Nat → Int → (Int → Int) → (Int → Int)
  | 0, _, P => P
  | n + 1, b, P => psb R n (b + 1) (ps1 P (R 61 b) (R 317 b))
def psn (R : am_M) (B : Nat) : Nat → (Int → Int) → (Int → Int)
  | 0, P => P
  | n + 1, P => psn R B n (psb R B 0 P)
def npr (P : Int → Int) : Nat → Int → Int → Int
  | 0, _, s => s
  | n + 1, i, s => npr P n (i + 1) (s + if P i = i then 1 else 0)
theorem ps1_same {P : Int → Int} {f t : Int} (h : P f = P t) : ps1 P f t = P := by
  funext i
  unfold ps1
  by_cases c : i = f ∨ i = t
  · rw [if_pos c]
    rcases c with c | c
    · rw [if_pos (by omega), c]
    · rw [if_pos (by omega), c, h]
  · rw [if_neg c]
theorem psn_same {R : am_M} {B : Nat} {P : Int → Int} (h : psb R B 0 P = P) : ∀ n, psn R B n P = P := by
  intro n
  induction n with
  | zero => rfl
  | succ n ih =>
    show psn R B n (psb R B 0 P) = P
    rw [h, ih]
theorem ps1_b {P : Int → Int} {f t : Int} (f0 : 0 ≤ f) (t0 : 0 ≤ t) (h : ∀ i, 0 ≤ i → 0 ≤ P i ∧ P i ≤ i) : ∀ i, 0 ≤ i → 0 ≤ ps1 P f t i ∧ ps1 P f t i ≤ i := by
  intro i i0
  have hf := h f f0
  have ht := h t t0
  unfold ps1
  by_cases c : i = f ∨ i = t
  · rw [if_pos c]
    split <;> omega
  · rw [if_neg c]; exact h i i0
/-- the bands as both read them -/
def bnd (C R : am_M) (W B : Int) : Prop := ∀ d, 0 ≤ d → d < B → C 51 d = 10 + 256 * d ∧ C (10 + 256 * d) 2 = 15 + 256 * R 61 d ∧ C (10 + 256 * d) 3 = 15 + 256 * R 317 d ∧ C (15 + 256 * R 61 d) 0 = R 61 d ∧ C (15 + 256 * R 317 d) 0 = R 317 d ∧ 0 ≤ R 61 d ∧ R 61 d < W ∧ 0 ≤ R 317 d ∧ R 317 d < W
theorem psb_b {R C : am_M} {W B : Int} (hb : bnd C R W B) : ∀ (n : Nat) (b : Int) (P : Int → Int), 0 ≤ b → b + n ≤ B → (∀ i, 0 ≤ i → 0 ≤ P i ∧ P i ≤ i) → ∀ i, 0 ≤ i → 0 ≤ psb R n b P i ∧ psb R n b P i ≤ i := by
  intro n
  induction n with
  | zero => intro b P _ _ h; exact h
  | succ n ih =>
    intro b P b0 b1 h
    obtain ⟨_, _, _, _, _, f0, _, t0, _⟩ := hb b b0 (by omega)
    exact ih (b + 1) _ (by omega) (by omega) (ps1_b f0 t0 h)
theorem psn_b {R C : am_M} {W : Int} {B : Nat} (hb : bnd C R W B) : ∀ (n : Nat) (P : Int → Int), (∀ i, 0 ≤ i → 0 ≤ P i ∧ P i ≤ i) → ∀ i, 0 ≤ i → 0 ≤ psn R B n P i ∧ psn R B n P i ≤ i := by
  intro n
  induction n with
  | zero => intro P h; exact h
  | succ n ih =>
    intro P h
    exact ih _ (psb_b hb B 0 P (by omega) (by omega) h)
theorem cl_draw {C : am_M} {P : Int → Int} {W f t : Int} (h0 : C 12 0 = 53) (W1 : W ≤ 40) (f0 : 0 ≤ f) (f1 : f < W) (t0 : 0 ≤ t) (t1 : t < W) (hP : ∀ i, 0 ≤ i → i < W → C 53 i = P i) : ∃ c C', am_evm am_PP nX2_drawTogether [(2, 12), (0, f), (0, t)] C = some (c, C') ∧ (c = 0 ∧ P f = P t ∨ c = 1) ∧ (∀ i, 0 ≤ i → i < W → C' 53 i = ps1 P f t i) ∧ ∀ L i, L ≠ 53 → C' L i = C L i := by
  have ef := hP f f0 f1
  have et := hP t t0 t1
  by_cases c : P f = P t
  · refine ⟨0, C, ?_, Or.inl ⟨rfl, c⟩, fun i a b => by rw [ps1_same c]; exact hP i a b, fun _ _ _ => rfl⟩
    simp (disch := omega) only [be_X2_drawTogether_m, be_X2_drawTogether_0, be_X2_drawTogether_1, Option.bind_some, cond_true, cond_false, decide_true, decide_false, Bool.not_true, Bool.not_false, ite_true, ite_false, and_self, true_and, and_true, or_self, true_or, or_true, false_or, or_false, decide_eq_true_eq, Int.reduceAdd, Int.reduceSub, Int.reduceMul, Int.reduceNeg, Int.reduceEq, Int.reduceLT, Int.reduceLE, Int.reduceNe, lcmp_z, lcmp_le, lcmp_ge, lcmp_lt, lcmp_gt, gf_12, h0, ra_53, ef, et, c]
  · refine ⟨1, am_up (am_up C 53 f (if P t < P f then P t else P f)) 53 t (if P t < P f then P t else P f), ?_, Or.inr rfl, fun i a b => ?_, fun L i q => by simp (disch := omega) only [am_up_or]⟩
    · simp (disch := omega) only [be_X2_drawTogether_m, be_X2_drawTogether_0, be_X2_drawTogether_2, Option.bind_some, cond_true, cond_false, decide_true, decide_false, Bool.not_true, Bool.not_false, ite_true, ite_false, and_self, true_and, and_true, or_self, true_or, or_true, false_or, or_false, decide_eq_true_eq, Int.reduceAdd, Int.reduceSub, Int.reduceMul, Int.reduceNeg, Int.reduceEq, Int.reduceLT, Int.reduceLE, Int.reduceNe, lcmp_z, lcmp_le, lcmp_ge, lcmp_lt, lcmp_gt, am_up_eq, am_up_nl, am_up_ni, gf_12, h0, ra_53, sa_53, ef, et, decide_eq_false c]
    · unfold ps1
      have em : (if P t < P f then P t else P f) = (if P f ≤ P t then P f else P t) := by split <;> split <;> omega
      rw [em]
      by_cases d : i = t
      · rw [if_pos (Or.inr d), d, am_up_eq]
      · rw [am_up_ni _ _ _ _ _ _ d]
        by_cases e : i = f
        · rw [if_pos (Or.inl e), e, am_up_eq]
        · rw [if_neg (c := i = f ∨ i = t) (by omega), am_up_ni _ _ _ _ _ _ e]; exact hP i a b
theorem cl_pb {C0 R : am_M} {W B : Int} (W1 : W ≤ 40) (B1 : B ≤ 60) (hb : bnd C0 R W B) (g5 : C0 12 0 = 53) (ps : Int) : ∀ (n : Nat) (b ch : Int) (C : am_M) (P : Int → Int), 0 ≤ b → b + n = B → (ch = 0 ∨ ch = 1) → (∀ L i, L ≠ 53 → C L i = C0 L i) → (∀ i, 0 ≤ i → i < W → C 53 i = P i) → ∃ ch' C', am_ev am_PP nX2_findParts 7 [12, W, 51, B, ch, ps, b] [] C = am_ev am_PP nX2_findParts 13 [12, W, 51, B, ch', ps] [] C' ∧ (ch' = 0 ∨ ch' = 1) ∧ (ch' = 0 → ch = 0 ∧ psb R n b P = P) ∧ (∀ L i, L ≠ 53 → C' L i = C0 L i) ∧ (∀ i, 0 ≤ i → i < W → C' 53 i = psb R n b P i) := by
  intro n
  induction n with
  | zero =>
    intro b ch C P b0 hn hc hC hP
    refine ⟨ch, C, ?_, hc, fun q => ⟨q, rfl⟩, hC, hP⟩
    clear hc
    simp (disch := omega) only [be_X2_findParts_7, Option.bind_some, cond_true, cond_false, decide_true, decide_false, Bool.not_true, Bool.not_false, ite_true, ite_false, and_self, true_and, and_true, or_self, true_or, or_true, false_or, or_false, decide_eq_true_eq, Int.reduceAdd, Int.reduceSub, Int.reduceMul, Int.reduceNeg, Int.reduceEq, Int.reduceLT, Int.reduceLE, Int.reduceNe, lcmp_z, lcmp_le, lcmp_ge, lcmp_lt, lcmp_gt, decide_eq_true, decide_eq_false, if_pos, if_neg]
  | succ n ih =>
    intro b ch C P b0 hn hc hC hP
    obtain ⟨d1, d2, d3, d4, d5, f0, f1, t0, t1⟩ := hb b b0 (by omega)
    obtain ⟨c, C1, e1, e2, e3, e4⟩ := cl_draw ((hC 12 0 (by decide)).trans g5) W1 f0 f1 t0 t1 hP
    have x1 : C 51 b = 10 + 256 * b := (hC _ _ (by omega)).trans d1
    have x2 : C (10 + 256 * b) 2 = 15 + 256 * R 61 b := (hC _ _ (by omega)).trans d2
    have x3 : C (10 + 256 * b) 3 = 15 + 256 * R 317 b := (hC _ _ (by omega)).trans d3
    have x4 : C (15 + 256 * R 61 b) 0 = R 61 b := (hC _ _ (by omega)).trans d4
    have x5 : C (15 + 256 * R 317 b) 0 = R 317 b := (hC _ _ (by omega)).trans d5
    have e7 : am_ev am_PP nX2_findParts 7 [12, W, 51, B, ch, ps, b] [] C = am_ev am_PP nX2_findParts 8 [12, W, 51, B, ch, ps, b] [] C := by
      clear hc e2
      simp (disch := omega) only [be_X2_findParts_7, Option.bind_some, cond_true, cond_false, decide_true, decide_false, Bool.not_true, Bool.not_false, ite_true, ite_false, and_self, true_and, and_true, or_self, true_or, or_true, false_or, or_false, decide_eq_true_eq, Int.reduceAdd, Int.reduceSub, Int.reduceMul, Int.reduceNeg, Int.reduceEq, Int.reduceLT, Int.reduceLE, Int.reduceNe, lcmp_z, lcmp_le, lcmp_ge, lcmp_lt, lcmp_gt, decide_eq_true, decide_eq_false, if_pos, if_neg]
    have hC1 : ∀ L i, L ≠ 53 → C1 L i = C0 L i := fun L i q => (e4 L i q).trans (hC L i q)
    by_cases cc : c = 0 ∧ ch = 0
    · obtain ⟨cc1, cc2⟩ := cc
      have hpt : P (R 61 b) = P (R 317 b) := by
        rcases e2 with ⟨_, q⟩ | q
        · exact q
        · omega
      obtain ⟨ch', C', k1, k2, k3, k4, k5⟩ := ih (b + 1) 0 C1 _ (by omega) (by omega) (Or.inl rfl) hC1 e3
      refine ⟨ch', C', ?_, k2, fun q => ⟨cc2, ?_⟩, k4, k5⟩
      · clear hc e2
        subst cc1
        rw [e7, ← k1, cc2]
        simp (disch := omega) only [be_X2_findParts_8, be_X2_findParts_9, be_X2_findParts_11, be_X2_findParts_12, Option.bind_some, cond_true, cond_false, decide_true, decide_false, Bool.not_true, Bool.not_false, ite_true, ite_false, and_self, true_and, and_true, or_self, true_or, or_true, false_or, or_false, decide_eq_true_eq, Int.reduceAdd, Int.reduceSub, Int.reduceMul, Int.reduceNeg, Int.reduceEq, Int.reduceLT, Int.reduceLE, Int.reduceNe, lcmp_z, lcmp_le, lcmp_ge, lcmp_lt, lcmp_gt, gf_10, gf_15, cls_12, ra_51, x1, x2, x3, x4, x5, e1, am_w32_ok]
      · have := (k3 q).2
        rw [ps1_same hpt] at this
        show psb R n (b + 1) (ps1 P (R 61 b) (R 317 b)) = P
        rw [ps1_same hpt]; exact this
    · obtain ⟨ch', C', k1, k2, k3, k4, k5⟩ := ih (b + 1) 1 C1 _ (by omega) (by omega) (Or.inr rfl) hC1 e3
      refine ⟨ch', C', ?_, k2, fun q => ?_, k4, k5⟩
      · rw [e7, ← k1]
        by_cases c1 : c = 0
        · have ch1 : ch = 1 := by omega
          clear hc e2 cc
          subst c1
          rw [ch1]
          simp (disch := omega) only [be_X2_findParts_8, be_X2_findParts_9, be_X2_findParts_10, be_X2_findParts_12, Option.bind_some, cond_true, cond_false, decide_true, decide_false, Bool.not_true, Bool.not_false, ite_true, ite_false, and_self, true_and, and_true, or_self, true_or, or_true, false_or, or_false, decide_eq_true_eq, Int.reduceAdd, Int.reduceSub, Int.reduceMul, Int.reduceNeg, Int.reduceEq, Int.reduceLT, Int.reduceLE, Int.reduceNe, lcmp_z, lcmp_le, lcmp_ge, lcmp_lt, lcmp_gt, gf_10, gf_15, cls_12, ra_51, x1, x2, x3, x4, x5, e1, am_w32_ok]
        · have ch1 : c = 1 := by omega
          clear hc e2 cc c1
          subst ch1
          simp (disch := omega) only [be_X2_findParts_8, be_X2_findParts_10, be_X2_findParts_12, Option.bind_some, cond_true, cond_false, decide_true, decide_false, Bool.not_true, Bool.not_false, ite_true, ite_false, and_self, true_and, and_true, or_self, true_or, or_true, false_or, or_false, decide_eq_true_eq, Int.reduceAdd, Int.reduceSub, Int.reduceMul, Int.reduceNeg, Int.reduceEq, Int.reduceLT, Int.reduceLE, Int.reduceNe, lcmp_z, lcmp_le, lcmp_ge, lcmp_lt, lcmp_gt, gf_10, gf_15, cls_12, ra_51, x1, x2, x3, x4, x5, e1, am_w32_ok]
      · have := (k3 q).1
        omega
theorem cl_pp {C0 R : am_M} {W : Int} {B : Nat} (W1 : W ≤ 40) (B1 : B ≤ 60) (hb : bnd C0 R W B) (g5 : C0 12 0 = 53) : ∀ (n : Nat) (ps ch : Int) (C : am_M) (P : Int → Int), 0 ≤ ps → ps + n = W → (ch = 0 ∧ psb R B 0 P = P ∨ ch = 1) → (∀ L i, L ≠ 53 → C L i = C0 L i) → (∀ i, 0 ≤ i → i < W → C 53 i = P i) → ∃ C', am_ev am_PP nX2_findParts 4 [12, W, 51, B, ch, ps] [] C = am_ev am_PP nX2_findParts 14 [12, W] [] C' ∧ (∀ L i, L ≠ 53 → C' L i = C0 L i) ∧ (∀ i, 0 ≤ i → i < W → C' 53 i = psn R B n P i) := by
  intro n
  induction n with
  | zero =>
    intro ps ch C P p0 hn hc hC hP
    refine ⟨C, ?_, hC, hP⟩
    clear hc
    simp (disch := omega) only [be_X2_findParts_4, Option.bind_some, cond_true, cond_false, decide_true, decide_false, Bool.not_true, Bool.not_false, ite_true, ite_false, and_self, true_and, and_true, or_self, true_or, or_true, false_or, or_false, decide_eq_true_eq, Int.reduceAdd, Int.reduceSub, Int.reduceMul, Int.reduceNeg, Int.reduceEq, Int.reduceLT, Int.reduceLE, Int.reduceNe, lcmp_z, lcmp_le, lcmp_ge, lcmp_lt, lcmp_gt, decide_eq_true, decide_eq_false, if_pos, if_neg]
  | succ n ih =>
    intro ps ch C P p0 hn hc hC hP
    rcases hc with ⟨hc, hs⟩ | hc
    · subst hc
      refine ⟨C, ?_, hC, fun i a b => by rw [psn_same hs]; exact hP i a b⟩
      simp (disch := omega) only [be_X2_findParts_4, be_X2_findParts_5, Option.bind_some, cond_true, cond_false, decide_true, decide_false, Bool.not_true, Bool.not_false, ite_true, ite_false, and_self, true_and, and_true, or_self, true_or, or_true, false_or, or_false, decide_eq_true_eq, Int.reduceAdd, Int.reduceSub, Int.reduceMul, Int.reduceNeg, Int.reduceEq, Int.reduceLT, Int.reduceLE, Int.reduceNe, lcmp_z, lcmp_le, lcmp_ge, lcmp_lt, lcmp_gt, decide_eq_true, decide_eq_false, if_pos, if_neg]
    · subst hc
      obtain ⟨ch', C1, k1, k2, k3, k4, k5⟩ := cl_pb W1 (by omega) hb g5 ps B 0 0 C P (by omega) (by omega) (Or.inl rfl) hC hP
      obtain ⟨C', m1, m2, m3⟩ := ih (ps + 1) ch' C1 (psb R B 0 P) (by omega) (by omega) (by
        rcases k2 with q | q
        · refine Or.inl ⟨q, ?_⟩
          have := (k3 q).2
          rw [this, this]
        · exact Or.inr q) k4 k5
      refine ⟨C', ?_, m2, m3⟩
      clear k2 k3
      rw [← m1]
      have e : am_ev am_PP nX2_findParts 4 [12, W, 51, B, 1, ps] [] C = am_ev am_PP nX2_findParts 7 [12, W, 51, B, 0, ps, 0] [] C := by
        simp (disch := omega) only [be_X2_findParts_4, be_X2_findParts_5, be_X2_findParts_6, Option.bind_some, cond_true, cond_false, decide_true, decide_false, Bool.not_true, Bool.not_false, ite_true, ite_false, and_self, true_and, and_true, or_self, true_or, or_true, false_or, or_false, decide_eq_true_eq, Int.reduceAdd, Int.reduceSub, Int.reduceMul, Int.reduceNeg, Int.reduceEq, Int.reduceLT, Int.reduceLE, Int.reduceNe, lcmp_z, lcmp_le, lcmp_ge, lcmp_lt, lcmp_gt, decide_eq_true, decide_eq_false, if_pos, if_neg]
      rw [e, k1]
      simp (disch := omega) only [be_X2_findParts_13, am_w32_ok]
theorem cl_pi {C0 : am_M} {W B : Int} (W1 : W ≤ 40) (g5 : C0 12 0 = 53) : ∀ (n : Nat) (i : Int) (C : am_M), 0 ≤ i → i + n = W → (∀ L j, L ≠ 53 → C L j = C0 L j) → (∀ j, 0 ≤ j → j < i → C 53 j = j) → ∃ C', am_ev am_PP nX2_findParts 1 [12, W, 51, B, i] [] C = am_ev am_PP nX2_findParts 3 [12, W, 51, B] [] C' ∧ (∀ L j, L ≠ 53 → C' L j = C0 L j) ∧ (∀ j, 0 ≤ j → j < W → C' 53 j = j) := by
  intro n
  induction n with
  | zero =>
    intro i C i0 hn hC hP
    refine ⟨C, ?_, hC, fun j a b => hP j a (by omega)⟩
    simp (disch := omega) only [be_X2_findParts_1, Option.bind_some, cond_true, cond_false, decide_true, decide_false, Bool.not_true, Bool.not_false, ite_true, ite_false, and_self, true_and, and_true, or_self, true_or, or_true, false_or, or_false, decide_eq_true_eq, Int.reduceAdd, Int.reduceSub, Int.reduceMul, Int.reduceNeg, Int.reduceEq, Int.reduceLT, Int.reduceLE, Int.reduceNe, lcmp_z, lcmp_le, lcmp_ge, lcmp_lt, lcmp_gt, decide_eq_true, decide_eq_false, if_pos, if_neg]
  | succ n ih =>
    intro i C i0 hn hC hP
    have x := (hC 12 0 (by decide)).trans g5
    obtain ⟨C', m1, m2, m3⟩ := ih (i + 1) (am_up C 53 i i) (by omega) (by omega) (fun L j q => (am_up_nl _ _ _ _ _ _ q).trans (hC L j q)) (fun j a b => by
      by_cases e : j = i
      · rw [e, am_up_eq]
      · rw [am_up_ni _ _ _ _ _ _ e]; exact hP j a (by omega))
    refine ⟨C', ?_, m2, m3⟩
    rw [← m1]
    have e : am_ev am_PP nX2_findParts 1 [12, W, 51, B, i] [] C = am_ev am_PP nX2_findParts 2 [12, W, 51, B, i] [] C := by
      simp (disch := omega) only [be_X2_findParts_1, Option.bind_some, cond_true, cond_false, decide_true, decide_false, Bool.not_true, Bool.not_false, ite_true, ite_false, and_self, true_and, and_true, or_self, true_or, or_true, false_or, or_false, decide_eq_true_eq, Int.reduceAdd, Int.reduceSub, Int.reduceMul, Int.reduceNeg, Int.reduceEq, Int.reduceLT, Int.reduceLE, Int.reduceNe, lcmp_z, lcmp_le, lcmp_ge, lcmp_lt, lcmp_gt, decide_eq_true, decide_eq_false, if_pos, if_neg]
    rw [e]
    simp (disch := omega) only [be_X2_findParts_2, Option.bind_some, cond_true, cond_false, decide_true, decide_false, Bool.not_true, Bool.not_false, ite_true, ite_false, and_self, true_and, and_true, or_self, true_or, or_true, false_or, or_false, decide_eq_true_eq, Int.reduceAdd, Int.reduceSub, Int.reduceMul, Int.reduceNeg, Int.reduceEq, Int.reduceLT, Int.reduceLE, Int.reduceNe, lcmp_z, lcmp_le, lcmp_ge, lcmp_lt, lcmp_gt, gf_12, x, sa_53, am_w32_ok]
theorem cl_pc {C : am_M} {W : Int} {P : Int → Int} (W1 : W ≤ 40) (g5 : C 12 0 = 53) (hP : ∀ i, 0 ≤ i → i < W → C 53 i = P i) : ∀ (n : Nat) (i s : Int), 0 ≤ i → i + n = W → 0 ≤ s → s ≤ i → am_ev am_PP nX2_findParts 15 [12, W, s, i] [] C = some (npr P n i s, C) := by
  intro n
  induction n with
  | zero =>
    intro i s i0 hn s0 s1
    simp (disch := omega) only [be_X2_findParts_15, be_X2_findParts_20, Option.bind_some, cond_true, cond_false, decide_true, decide_false, Bool.not_true, Bool.not_false, ite_true, ite_false, and_self, true_and, and_true, or_self, true_or, or_true, false_or, or_false, decide_eq_true_eq, Int.reduceAdd, Int.reduceSub, Int.reduceMul, Int.reduceNeg, Int.reduceEq, Int.reduceLT, Int.reduceLE, Int.reduceNe, lcmp_z, lcmp_le, lcmp_ge, lcmp_lt, lcmp_gt, decide_eq_true, decide_eq_false, if_pos, if_neg]
    rfl
  | succ n ih =>
    intro i s i0 hn s0 s1
    have x := hP i i0 (by omega)
    have e : am_ev am_PP nX2_findParts 15 [12, W, s, i] [] C = am_ev am_PP nX2_findParts 16 [12, W, s, i] [] C := by
      simp (disch := omega) only [be_X2_findParts_15, Option.bind_some, cond_true, cond_false, decide_true, decide_false, Bool.not_true, Bool.not_false, ite_true, ite_false, and_self, true_and, and_true, or_self, true_or, or_true, false_or, or_false, decide_eq_true_eq, Int.reduceAdd, Int.reduceSub, Int.reduceMul, Int.reduceNeg, Int.reduceEq, Int.reduceLT, Int.reduceLE, Int.reduceNe, lcmp_z, lcmp_le, lcmp_ge, lcmp_lt, lcmp_gt, decide_eq_true, decide_eq_false, if_pos, if_neg]
    have en : npr P (n + 1) i s = npr P n (i + 1) (s + if P i = i then 1 else 0) := rfl
    rw [e, en]
    by_cases c : P i = i
    · rw [if_pos c, ← ih (i + 1) (s + 1) (by omega) (by omega) (by omega) (by omega)]
      simp (disch := omega) only [be_X2_findParts_16, be_X2_findParts_17, be_X2_findParts_19, Option.bind_some, cond_true, cond_false, decide_true, decide_false, Bool.not_true, Bool.not_false, ite_true, ite_false, and_self, true_and, and_true, or_self, true_or, or_true, false_or, or_false, decide_eq_true_eq, Int.reduceAdd, Int.reduceSub, Int.reduceMul, Int.reduceNeg, Int.reduceEq, Int.reduceLT, Int.reduceLE, Int.reduceNe, lcmp_z, lcmp_le, lcmp_ge, lcmp_lt, lcmp_gt, gf_12, g5, ra_53, x, c, am_w32_ok]
    · rw [if_neg c, ← ih (i + 1) (s + 0) (by omega) (by omega) (by omega) (by omega)]
      simp (disch := omega) only [be_X2_findParts_16, be_X2_findParts_18, be_X2_findParts_19, Option.bind_some, cond_true, cond_false, decide_true, decide_false, Bool.not_true, Bool.not_false, ite_true, ite_false, and_self, true_and, and_true, or_self, true_or, or_true, false_or, or_false, decide_eq_true_eq, Int.reduceAdd, Int.reduceSub, Int.reduceMul, Int.reduceNeg, Int.reduceEq, Int.reduceLT, Int.reduceLE, Int.reduceNe, lcmp_z, lcmp_le, lcmp_ge, lcmp_lt, lcmp_gt, gf_12, g5, ra_53, x, decide_eq_false c, am_w32_ok]
def idp : Int → Int := fun i => i
theorem cl_findParts {C R : am_M} {W : Int} {B : Nat} (W0 : 0 ≤ W) (W1 : W ≤ 40) (B1 : B ≤ 60) (hb : bnd C R W B) (g5 : C 12 0 = 53) : ∃ C', am_evm am_PP nX2_findParts [(2, 12), (0, W), (2, 51), (0, (B : Int))] C = some (npr (psn R B W.toNat idp) W.toNat 0 0, C') ∧ (∀ L j, L ≠ 53 → C' L j = C L j) ∧ (∀ i, 0 ≤ i → i < W → C' 53 i = psn R B W.toNat idp i) := by
  obtain ⟨C1, a1, a2, a3⟩ := cl_pi (B := B) W1 g5 W.toNat 0 C (by omega) (by omega) (fun _ _ _ => rfl) (fun j a b => by omega)
  obtain ⟨C2, b1, b2, b3⟩ := cl_pp W1 B1 hb g5 W.toNat 0 1 C1 idp (by omega) (by omega) (Or.inr rfl) a2 a3
  have c1 := cl_pc W1 ((b2 12 0 (by decide)).trans g5) b3 W.toNat 0 0 (by omega) (by omega) (by omega) (by omega)
  refine ⟨C2, ?_, b2, b3⟩
  rw [← c1]
  have e1 : am_evm am_PP nX2_findParts [(2, 12), (0, W), (2, 51), (0, (B : Int))] C = am_ev am_PP nX2_findParts 1 [12, W, 51, B, 0] [] C := by
    simp (disch := omega) only [be_X2_findParts_m, be_X2_findParts_0]
  have e2 : am_ev am_PP nX2_findParts 3 [12, W, 51, B] [] C1 = am_ev am_PP nX2_findParts 4 [12, W, 51, B, 1, 0] [] C1 := by
    simp (disch := omega) only [be_X2_findParts_3]
  rw [e1, a1, e2, b1]
  simp (disch := omega) only [be_X2_findParts_14]
/-! the reference -/
theorem rf_pi {R0 : am_M} (W1 : R0 17 0 ≤ 40) (g5 : R0 17 52 = 3381) : ∀ (n : Nat) (i : Int) (R : am_M), 0 ≤ i → i + n = R0 17 0 → (∀ L j, L ≠ 3381 → R L j = R0 L j) → (∀ j, 0 ≤ j → j < i → R 3381 j = j) → ∃ R', am_ev am_PP nX7_findParts 1 [17, i] [] R = am_ev am_PP nX7_findParts 3 [17] [] R' ∧ (∀ L j, L ≠ 3381 → R' L j = R0 L j) ∧ (∀ j, 0 ≤ j → j < R0 17 0 → R' 3381 j = j) := by
  intro n
  induction n with
  | zero =>
    intro i R i0 hn hC hP
    have w := hC 17 0 (by decide)
    refine ⟨R, ?_, hC, fun j a b => hP j a (by omega)⟩
    simp (disch := omega) only [be_X7_findParts_1, Option.bind_some, cond_true, cond_false, decide_true, decide_false, Bool.not_true, Bool.not_false, ite_true, ite_false, and_self, true_and, and_true, or_self, true_or, or_true, false_or, or_false, decide_eq_true_eq, Int.reduceAdd, Int.reduceSub, Int.reduceMul, Int.reduceNeg, Int.reduceEq, Int.reduceLT, Int.reduceLE, Int.reduceNe, lcmp_z, lcmp_le, lcmp_ge, lcmp_lt, lcmp_gt, decide_eq_true, decide_eq_false, if_pos, if_neg, gf_17, w]
  | succ n ih =>
    intro i R i0 hn hC hP
    have w := hC 17 0 (by decide)
    have x := (hC 17 52 (by decide)).trans g5
    obtain ⟨C', m1, m2, m3⟩ := ih (i + 1) (am_up R 3381 i i) (by omega) (by omega) (fun L j q => (am_up_nl _ _ _ _ _ _ q).trans (hC L j q)) (fun j a b => by
      by_cases e : j = i
      · rw [e, am_up_eq]
      · rw [am_up_ni _ _ _ _ _ _ e]; exact hP j a (by omega))
    refine ⟨C', ?_, m2, m3⟩
    rw [← m1]
    have e : am_ev am_PP nX7_findParts 1 [17, i] [] R = am_ev am_PP nX7_findParts 2 [17, i] [] R := by
      simp (disch := omega) only [be_X7_findParts_1, Option.bind_some, cond_true, cond_false, decide_true, decide_false, Bool.not_true, Bool.not_false, ite_true, ite_false, and_self, true_and, and_true, or_self, true_or, or_true, false_or, or_false, decide_eq_true_eq, Int.reduceAdd, Int.reduceSub, Int.reduceMul, Int.reduceNeg, Int.reduceEq, Int.reduceLT, Int.reduceLE, Int.reduceNe, lcmp_z, lcmp_le, lcmp_ge, lcmp_lt, lcmp_gt, decide_eq_true, decide_eq_false, if_pos, if_neg, gf_17, w]
    rw [e]
    simp (disch := omega) only [be_X7_findParts_2, Option.bind_some, cond_true, cond_false, decide_true, decide_false, Bool.not_true, Bool.not_false, ite_true, ite_false, and_self, true_and, and_true, or_self, true_or, or_true, false_or, or_false, decide_eq_true_eq, Int.reduceAdd, Int.reduceSub, Int.reduceMul, Int.reduceNeg, Int.reduceEq, Int.reduceLT, Int.reduceLE, Int.reduceNe, lcmp_z, lcmp_le, lcmp_ge, lcmp_lt, lcmp_gt, gf_17, x, sa_3381, am_w32_ok]
theorem rf_pb {C0 R0 : am_M} (W1 : R0 17 0 ≤ 40) (B1 : R0 17 11 ≤ 60) (hb : bnd C0 R0 (R0 17 0) (R0 17 11)) (g5 : R0 17 52 = 3381) (g12 : R0 17 12 = 61) (g13 : R0 17 13 = 317) (ps : Int) : ∀ (n : Nat) (b : Int) (R : am_M) (P : Int → Int), 0 ≤ b → b + n = R0 17 11 → (∀ L i, L ≠ 3381 → R L i = R0 L i) → (∀ i, 0 ≤ i → i < R0 17 0 → R 3381 i = P i) → ∃ R', am_ev am_PP nX7_findParts 6 [17, ps, b] [] R = am_ev am_PP nX7_findParts 11 [17, ps] [] R' ∧ (∀ L i, L ≠ 3381 → R' L i = R0 L i) ∧ (∀ i, 0 ≤ i → i < R0 17 0 → R' 3381 i = psb R0 n b P i) := by
  intro n
  induction n with
  | zero =>
    intro b R P b0 hn hC hP
    have w := hC 17 11 (by decide)
    refine ⟨R, ?_, hC, hP⟩
    simp (disch := omega) only [be_X7_findParts_6, Option.bind_some, cond_true, cond_false, decide_true, decide_false, Bool.not_true, Bool.not_false, ite_true, ite_false, and_self, true_and, and_true, or_self, true_or, or_true, false_or, or_false, decide_eq_true_eq, Int.reduceAdd, Int.reduceSub, Int.reduceMul, Int.reduceNeg, Int.reduceEq, Int.reduceLT, Int.reduceLE, Int.reduceNe, lcmp_z, lcmp_le, lcmp_ge, lcmp_lt, lcmp_gt, decide_eq_true, decide_eq_false, if_pos, if_neg, gf_17, w]
  | succ n ih =>
    intro b R P b0 hn hC hP
    have w := hC 17 11 (by decide)
    have x5 := (hC 17 52 (by decide)).trans g5
    have x12 := (hC 17 12 (by decide)).trans g12
    have x13 := (hC 17 13 (by decide)).trans g13
    obtain ⟨d1, d2, d3, d4, d5, f0, f1, t0, t1⟩ := hb b b0 (by omega)
    have xf := hC 61 b (by decide)
    have xt := hC 317 b (by decide)
    have pf := hP _ f0 f1
    have pt := hP _ t0 t1
    obtain ⟨f, hf⟩ : ∃ f, R0 61 b = f := ⟨_, rfl⟩
    obtain ⟨t, ht⟩ : ∃ t, R0 317 b = t := ⟨_, rfl⟩
    rw [hf] at xf pf f0 f1
    rw [ht] at xt pt t0 t1
    obtain ⟨m, hm⟩ : ∃ m, (if P f ≤ P t then P f else P t) = m := ⟨_, rfl⟩
    have e7 : am_ev am_PP nX7_findParts 6 [17, ps, b] [] R = am_ev am_PP nX7_findParts 10 [17, ps, b] [(0, m)] R := by
      by_cases c : P t ≤ P f
      · have e : m = P t := by rw [← hm]; split <;> omega
        rw [e]
        simp (disch := omega) only [be_X7_findParts_6, be_X7_findParts_7, be_X7_findParts_9, Option.bind_some, cond_true, cond_false, decide_true, decide_false, Bool.not_true, Bool.not_false, ite_true, ite_false, and_self, true_and, and_true, or_self, true_or, or_true, false_or, or_false, decide_eq_true_eq, Int.reduceAdd, Int.reduceSub, Int.reduceMul, Int.reduceNeg, Int.reduceEq, Int.reduceLT, Int.reduceLE, Int.reduceNe, lcmp_z, lcmp_le, lcmp_ge, lcmp_lt, lcmp_gt, decide_eq_true, decide_eq_false, if_pos, if_neg, gf_17, w, x5, x12, x13, ra_61, ra_317, xf, xt, ra_3381, pf, pt]
      · have e : m = P f := by rw [← hm]; split <;> omega
        rw [e]
        simp (disch := omega) only [be_X7_findParts_6, be_X7_findParts_7, be_X7_findParts_8, Option.bind_some, cond_true, cond_false, decide_true, decide_false, Bool.not_true, Bool.not_false, ite_true, ite_false, and_self, true_and, and_true, or_self, true_or, or_true, false_or, or_false, decide_eq_true_eq, Int.reduceAdd, Int.reduceSub, Int.reduceMul, Int.reduceNeg, Int.reduceEq, Int.reduceLT, Int.reduceLE, Int.reduceNe, lcmp_z, lcmp_le, lcmp_ge, lcmp_lt, lcmp_gt, decide_eq_true, decide_eq_false, if_pos, if_neg, gf_17, w, x5, x12, x13, ra_61, ra_317, xf, xt, ra_3381, pf, pt]
    have e10 : am_ev am_PP nX7_findParts 10 [17, ps, b] [(0, m)] R = am_ev am_PP nX7_findParts 6 [17, ps, b + 1] [] (am_up (am_up R 3381 f m) 3381 t m) := by
      simp (disch := omega) only [be_X7_findParts_10, Option.bind_some, cond_true, cond_false, decide_true, decide_false, Bool.not_true, Bool.not_false, ite_true, ite_false, and_self, true_and, and_true, or_self, true_or, or_true, false_or, or_false, decide_eq_true_eq, Int.reduceAdd, Int.reduceSub, Int.reduceMul, Int.reduceNeg, Int.reduceEq, Int.reduceLT, Int.reduceLE, Int.reduceNe, lcmp_z, lcmp_le, lcmp_ge, lcmp_lt, lcmp_gt, am_up_eq, am_up_nl, am_up_ni, gf_17, x5, x12, x13, ra_61, ra_317, xf, xt, sa_3381, am_w32_ok]
    obtain ⟨R', k1, k2, k3⟩ := ih (b + 1) (am_up (am_up R 3381 f m) 3381 t m) (ps1 P f t) (by omega) (by omega) (fun L i q => ((am_up_nl _ _ _ _ _ _ q).trans (am_up_nl _ _ _ _ _ _ q)).trans (hC L i q)) (fun i a c => by
      unfold ps1
      rw [hm]
      by_cases d : i = t
      · rw [if_pos (Or.inr d), d, am_up_eq]
      · rw [am_up_ni _ _ _ _ _ _ d]
        by_cases e : i = f
        · rw [if_pos (Or.inl e), e, am_up_eq]
        · rw [if_neg (by omega), am_up_ni _ _ _ _ _ _ e]; exact hP i a c)
    refine ⟨R', by rw [e7, e10, k1], k2, fun i a c => ?_⟩
    rw [k3 i a c]
    show _ = psb R0 n (b + 1) (ps1 P (R0 61 b) (R0 317 b)) i
    rw [hf, ht]
theorem rf_pp {C0 R0 : am_M} (W1 : R0 17 0 ≤ 40) (B0 : 0 ≤ R0 17 11) (B1 : R0 17 11 ≤ 60) (hb : bnd C0 R0 (R0 17 0) (R0 17 11)) (g5 : R0 17 52 = 3381) (g12 : R0 17 12 = 61) (g13 : R0 17 13 = 317) : ∀ (n : Nat) (ps : Int) (R : am_M) (P : Int → Int), 0 ≤ ps → ps + n = R0 17 0 → (∀ L i, L ≠ 3381 → R L i = R0 L i) → (∀ i, 0 ≤ i → i < R0 17 0 → R 3381 i = P i) → ∃ R', am_ev am_PP nX7_findParts 4 [17, ps] [] R = am_ev am_PP nX7_findParts 12 [17] [] R' ∧ (∀ L i, L ≠ 3381 → R' L i = R0 L i) ∧ (∀ i, 0 ≤ i → i < R0 17 0 → R' 3381 i = psn R0 (R0 17 11).toNat n P i) := by
  intro n
  induction n with
  | zero =>
    intro ps R P p0 hn hC hP
    have w := hC 17 0 (by decide)
    refine ⟨R, ?_, hC, hP⟩
    simp (disch := omega) only [be_X7_findParts_4, Option.bind_some, cond_true, cond_false, decide_true, decide_false, Bool.not_true, Bool.not_false, ite_true, ite_false, and_self, true_and, and_true, or_self, true_or, or_true, false_or, or_false, decide_eq_true_eq, Int.reduceAdd, Int.reduceSub, Int.reduceMul, Int.reduceNeg, Int.reduceEq, Int.reduceLT, Int.reduceLE, Int.reduceNe, lcmp_z, lcmp_le, lcmp_ge, lcmp_lt, lcmp_gt, decide_eq_true, decide_eq_false, if_pos, if_neg, gf_17, w]
  | succ n ih =>
    intro ps R P p0 hn hC hP
    have w := hC 17 0 (by decide)
    obtain ⟨R1, k1, k2, k3⟩ := rf_pb W1 B1 hb g5 g12 g13 ps (R0 17 11).toNat 0 R P (by omega) (by omega) hC hP
    obtain ⟨R', m1, m2, m3⟩ := ih (ps + 1) R1 _ (by omega) (by omega) k2 k3
    refine ⟨R', ?_, m2, m3⟩
    rw [← m1]
    have e : am_ev am_PP nX7_findParts 4 [17, ps] [] R = am_ev am_PP nX7_findParts 6 [17, ps, 0] [] R := by
      simp (disch := omega) only [be_X7_findParts_4, be_X7_findParts_5, Option.bind_some, cond_true, cond_false, decide_true, decide_false, Bool.not_true, Bool.not_false, ite_true, ite_false, and_self, true_and, and_true, or_self, true_or, or_true, false_or, or_false, decide_eq_true_eq, Int.reduceAdd, Int.reduceSub, Int.reduceMul, Int.reduceNeg, Int.reduceEq, Int.reduceLT, Int.reduceLE, Int.reduceNe, lcmp_z, lcmp_le, lcmp_ge, lcmp_lt, lcmp_gt, decide_eq_true, decide_eq_false, if_pos, if_neg, gf_17, w]
    rw [e, k1]
    simp (disch := omega) only [be_X7_findParts_11, am_w32_ok]
theorem rf_pc {R0 : am_M} {P : Int → Int} (W1 : R0 17 0 ≤ 40) (g5 : R0 17 52 = 3381) (hP : ∀ i, 0 ≤ i → i < R0 17 0 → R0 3381 i = P i) : ∀ (n : Nat) (i : Int) (R : am_M), 0 ≤ i → i + n = R0 17 0 → 0 ≤ R 17 53 → R 17 53 ≤ i → (∀ L j, ¬ (L = 17 ∧ j = 53) → R L j = R0 L j) → ∃ R', am_ev am_PP nX7_findParts 13 [17, i] [] R = some (0, R') ∧ R' 17 53 = npr P n i (R 17 53) ∧ (∀ L j, ¬ (L = 17 ∧ j = 53) → R' L j = R0 L j) := by
  intro n
  induction n with
  | zero =>
    intro i R i0 hn s0 s1 hC
    have w := hC 17 0 (by omega)
    refine ⟨R, ?_, rfl, hC⟩
    simp (disch := omega) only [be_X7_findParts_13, be_X7_findParts_18, Option.bind_some, cond_true, cond_false, decide_true, decide_false, Bool.not_true, Bool.not_false, ite_true, ite_false, and_self, true_and, and_true, or_self, true_or, or_true, false_or, or_false, decide_eq_true_eq, Int.reduceAdd, Int.reduceSub, Int.reduceMul, Int.reduceNeg, Int.reduceEq, Int.reduceLT, Int.reduceLE, Int.reduceNe, lcmp_z, lcmp_le, lcmp_ge, lcmp_lt, lcmp_gt, decide_eq_true, decide_eq_false, if_pos, if_neg, gf_17, w]
  | succ n ih =>
    intro i R i0 hn s0 s1 hC
    have w := hC 17 0 (by omega)
    have x5 := (hC 17 52 (by omega)).trans g5
    have x := (hC 3381 i (by omega)).trans (hP i i0 (by omega))
    have e : am_ev am_PP nX7_findParts 13 [17, i] [] R = am_ev am_PP nX7_findParts 14 [17, i] [] R := by
      simp (disch := omega) only [be_X7_findParts_13, Option.bind_some, cond_true, cond_false, decide_true, decide_false, Bool.not_true, Bool.not_false, ite_true, ite_false, and_self, true_and, and_true, or_self, true_or, or_true, false_or, or_false, decide_eq_true_eq, Int.reduceAdd, Int.reduceSub, Int.reduceMul, Int.reduceNeg, Int.reduceEq, Int.reduceLT, Int.reduceLE, Int.reduceNe, lcmp_z, lcmp_le, lcmp_ge, lcmp_lt, lcmp_gt, decide_eq_true, decide_eq_false, if_pos, if_neg, gf_17, w]
    have en : ∀ s, npr P (n + 1) i s = npr P n (i + 1) (s + if P i = i then 1 else 0) := fun _ => rfl
    rw [e]
    by_cases c : P i = i
    · obtain ⟨R', k1, k2, k3⟩ := ih (i + 1) (am_up R 17 53 (R 17 53 + 1)) (by omega) (by omega) (by rw [am_up_eq]; omega) (by rw [am_up_eq]; omega) (fun L j q => (am_up_or _ _ _ _ _ _ (by omega)).trans (hC L j q))
      refine ⟨R', ?_, ?_, k3⟩
      · rw [← k1]
        simp (disch := omega) only [be_X7_findParts_14, be_X7_findParts_15, be_X7_findParts_17, Option.bind_some, cond_true, cond_false, decide_true, decide_false, Bool.not_true, Bool.not_false, ite_true, ite_false, and_self, true_and, and_true, or_self, true_or, or_true, false_or, or_false, decide_eq_true_eq, Int.reduceAdd, Int.reduceSub, Int.reduceMul, Int.reduceNeg, Int.reduceEq, Int.reduceLT, Int.reduceLE, Int.reduceNe, lcmp_z, lcmp_le, lcmp_ge, lcmp_lt, lcmp_gt, gf_17, pf_17, x5, ra_3381, x, c, am_w32_ok]
      · rw [k2, am_up_eq, en, if_pos c]
    · obtain ⟨R', k1, k2, k3⟩ := ih (i + 1) (am_up R 17 53 (R 17 53 + 0)) (by omega) (by omega) (by rw [am_up_eq]; omega) (by rw [am_up_eq]; omega) (fun L j q => (am_up_or _ _ _ _ _ _ (by omega)).trans (hC L j q))
      refine ⟨R', ?_, ?_, k3⟩
      · rw [← k1]
        simp (disch := omega) only [be_X7_findParts_14, be_X7_findParts_16, be_X7_findParts_17, Option.bind_some, cond_true, cond_false, decide_true, decide_false, Bool.not_true, Bool.not_false, ite_true, ite_false, and_self, true_and, and_true, or_self, true_or, or_true, false_or, or_false, decide_eq_true_eq, Int.reduceAdd, Int.reduceSub, Int.reduceMul, Int.reduceNeg, Int.reduceEq, Int.reduceLT, Int.reduceLE, Int.reduceNe, lcmp_z, lcmp_le, lcmp_ge, lcmp_lt, lcmp_gt, gf_17, pf_17, x5, ra_3381, x, decide_eq_false c, am_w32_ok]
      · rw [k2, am_up_eq, en, if_neg c]
theorem rf_findParts {C R : am_M} (hR : rs R) (W0 : 0 ≤ R 17 0) (W1 : R 17 0 ≤ 40) (B0 : 0 ≤ R 17 11) (B1 : R 17 11 ≤ 60) (hb : bnd C R (R 17 0) (R 17 11)) : ∃ R', am_evm am_PP nX7_findParts [(2, 17)] R = some (0, R') ∧ R' 17 53 = npr (psn R (R 17 11).toNat (R 17 0).toNat idp) (R 17 0).toNat 0 0 ∧ (∀ L j, L ≠ 3381 → ¬ (L = 17 ∧ j = 53) → R' L j = R L j) ∧ (∀ i, 0 ≤ i → i < R 17 0 → R' 3381 i = psn R (R 17 11).toNat (R 17 0).toNat idp i) := by
  obtain ⟨r1, r2, r3, r4, r5, r6, r7, r8, r9, r10, r12, r13, r14, r15, r16, r18, r19, r20, r21, r22, r23, r24, r25, r26, r27, r28, r30, r31, r32, r33, r34, r35, r36, r37, r38, r39, r40, r41, r44, r49, r50, r51, r52, r54⟩ := hR
  have u : ∀ L j, ¬ (L = 17 ∧ j = 53) → am_up R 17 53 0 L j = R L j := fun L j q => am_up_or _ _ _ _ _ _ (by omega)
  have e0 := u 17 0 (by omega)
  have e11 := u 17 11 (by omega)
  have hb' : bnd C (am_up R 17 53 0) (am_up R 17 53 0 17 0) (am_up R 17 53 0 17 11) := by
    rw [e0, e11]
    intro d d0 d1
    rw [u 61 d (by omega), u 317 d (by omega)]
    exact hb d d0 d1
  obtain ⟨R1, a1, a2, a3⟩ := rf_pi (R0 := am_up R 17 53 0) (by omega) ((u 17 52 (by omega)).trans r52) (R 17 0).toNat 0 (am_up R 17 53 0) (by omega) (by omega) (fun _ _ _ => rfl) (fun j a b => by omega)
  obtain ⟨R2, b1, b2, b3⟩ := rf_pp (R0 := am_up R 17 53 0) (by omega) (by omega) (by omega) hb' ((u 17 52 (by omega)).trans r52) ((u 17 12 (by omega)).trans r12) ((u 17 13 (by omega)).trans r13) (R 17 0).toNat 0 R1 idp (by omega) (by omega) a2 a3
  have hps : psn (am_up R 17 53 0) (am_up R 17 53 0 17 11).toNat (R 17 0).toNat idp = psn R (R 17 11).toNat (R 17 0).toNat idp := by
    rw [e11]
    have h1 : ∀ (n : Nat) (b : Int) (P : Int → Int), psb (am_up R 17 53 0) n b P = psb R n b P := by
      intro n
      induction n with
      | zero => intro b P; rfl
      | succ n ih =>
        intro b P
        show psb (am_up R 17 53 0) n (b + 1) (ps1 P (am_up R 17 53 0 61 b) (am_up R 17 53 0 317 b)) = psb R n (b + 1) (ps1 P (R 61 b) (R 317 b))
        rw [u 61 b (by omega), u 317 b (by omega), ih]
    have h2 : ∀ (n : Nat) (P : Int → Int), psn (am_up R 17 53 0) (R 17 11).toNat n P = psn R (R 17 11).toNat n P := by
      intro n
      induction n with
      | zero => intro P; rfl
      | succ n ih =>
        intro P
        show psn (am_up R 17 53 0) (R 17 11).toNat n (psb (am_up R 17 53 0) (R 17 11).toNat 0 P) = psn R (R 17 11).toNat n (psb R (R 17 11).toNat 0 P)
        rw [h1, ih]
    exact h2 _ _
  rw [hps] at b3
  have w0 : R2 17 0 = R 17 0 := (b2 17 0 (by decide)).trans e0
  obtain ⟨R3, c1, c2, c3⟩ := rf_pc (R0 := R2) (P := psn R (R 17 11).toNat (R 17 0).toNat idp) (by omega) ((b2 17 52 (by decide)).trans ((u 17 52 (by omega)).trans r52)) (fun i p q => b3 i p (by omega)) (R 17 0).toNat 0 R2 (by omega) (by omega) (by rw [b2 17 53 (by decide), am_up_eq]; omega) (by rw [b2 17 53 (by decide), am_up_eq]; omega) (fun _ _ _ => rfl)
  refine ⟨R3, ?_, ?_, fun L j p q => ?_, fun i p q => ?_⟩
  · rw [← c1]
    have e1 : am_evm am_PP nX7_findParts [(2, 17)] R = am_ev am_PP nX7_findParts 1 [17, 0] [] (am_up R 17 53 0) := by
      simp (disch := omega) only [be_X7_findParts_m, be_X7_findParts_0, Option.bind_some, cond_true, cond_false, decide_true, decide_false, Bool.not_true, Bool.not_false, ite_true, ite_false, and_self, true_and, and_true, or_self, true_or, or_true, false_or, or_false, decide_eq_true_eq, Int.reduceAdd, Int.reduceSub, Int.reduceMul, Int.reduceNeg, Int.reduceEq, Int.reduceLT, Int.reduceLE, Int.reduceNe, lcmp_z, lcmp_le, lcmp_ge, lcmp_lt, lcmp_gt, pf_17]
    have e2 : am_ev am_PP nX7_findParts 3 [17] [] R1 = am_ev am_PP nX7_findParts 4 [17, 0] [] R1 := by
      simp (disch := omega) only [be_X7_findParts_3]
    rw [e1, a1, e2, b1]
    simp (disch := omega) only [be_X7_findParts_12]
  · rw [c2, b2 17 53 (by decide), am_up_eq]
  · rw [c3 L j q, b2 L j p, u L j q]
  · rw [c3 3381 i (by omega)]; exact b3 i p (by omega)
