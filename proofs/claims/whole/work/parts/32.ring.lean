/-! a band of the hall -/
def gcap (g : Int) : Int := if g = 0 then 8 else if g = 1 then 16 else if g = 2 then 32 else if g = 3 then 64 else if g = 4 then 128 else if g = 5 then 256 else if g = 6 then 512 else 1024
theorem gcap_b {g : Int} (h0 : 0 ≤ g) (h1 : g ≤ 7) : 8 ≤ gcap g ∧ gcap g ≤ 1024 ∧ (g < 7 → gcap g ≤ 512 ∧ gcap (g + 1) = 2 * gcap g) ∧ (g = 7 → gcap g = 1024) := by
  have : g = 0 ∨ g = 1 ∨ g = 2 ∨ g = 3 ∨ g = 4 ∨ g = 5 ∨ g = 6 ∨ g = 7 := by omega
  rcases this with rfl | rfl | rfl | rfl | rfl | rfl | rfl | rfl <;> decide
def bt (b L : Int) : Prop := L = 10 + 256 * b ∨ (30 + 256 * b ≤ L ∧ L ≤ 37 + 256 * b) ∨ (41 + 256 * b ≤ L ∧ L ≤ 48 + 256 * b)
def rgt (b L : Int) : Prop := L = 10 + 256 * b ∨ (41 + 256 * b ≤ L ∧ L ≤ 48 + 256 * b)
theorem rg_arr {b g : Int} (h0 : 0 ≤ g) (h1 : g ≤ 7) (hb : 0 ≤ b) (hb2 : b < 60) : 0 < (41 + g) + 256 * b ∧ (41 + g) + 256 * b ≠ 1 ∧ am_aty ((41 + g) + 256 * b) = 1 ∧ ((am_siz ((41 + g) + 256 * b) : Nat) : Int) = gcap g ∧ ((41 + g) + 256 * b) / 256 < am_nb ((41 + g) + 256 * b) := by
  have hg : g = 0 ∨ g = 1 ∨ g = 2 ∨ g = 3 ∨ g = 4 ∨ g = 5 ∨ g = 6 ∨ g = 7 := by omega
  rw [am_aty_add, am_siz_add, am_nb_add]
  have q : am_aty (41 + g) = 1 ∧ ((am_siz (41 + g) : Nat) : Int) = gcap g ∧ am_nb (41 + g) = 60 := by
    rcases hg with rfl | rfl | rfl | rfl | rfl | rfl | rfl | rfl <;> decide +kernel
  rw [q.1, q.2.1, q.2.2]
  exact ⟨by omega, by omega, rfl, rfl, by omega⟩
theorem alg {b g : Int} (h0 : 0 ≤ g) (h1 : g ≤ 7) (hb : 0 ≤ b) (hb2 : b < 60) (M : am_M) : am_alen M ((41 + g) + 256 * b) = some (gcap g) := by
  obtain ⟨a, b, c, d, e⟩ := rg_arr h0 h1 hb hb2
  rw [am_alen_ok (n := am_siz _) a b (by omega) rfl, d]
theorem rag {b g i : Int} (h0 : 0 ≤ g) (h1 : g ≤ 7) (hb : 0 ≤ b) (hb2 : b < 60) (M : am_M) (hi : 0 ≤ i) (hl : i < gcap g) : am_ald 1 M ((41 + g) + 256 * b) i = some (M ((41 + g) + 256 * b) i) := by
  obtain ⟨a, b, c, d, e⟩ := rg_arr h0 h1 hb hb2
  exact am_ald_ok (n := am_siz _) a b c rfl hi (by omega)
theorem sag {b g i v : Int} (h0 : 0 ≤ g) (h1 : g ≤ 7) (hb : 0 ≤ b) (hb2 : b < 60) (M : am_M) (hi : 0 ≤ i) (hl : i < gcap g) : am_ast 1 M ((41 + g) + 256 * b) i v = some (am_up M ((41 + g) + 256 * b) i v) := by
  obtain ⟨a, b, c, d, e⟩ := rg_arr h0 h1 hb hb2
  exact am_ast_ok (n := am_siz _) a b c rfl hi (by omega) (am_vok1 v)
def rix (g hd k : Int) : Int := if hd + k < gcap g then hd + k else hd + k - gcap g
def ring (C : am_M) (b o : Int) (f : Int → Int) : Prop := ∃ g hd, 0 ≤ g ∧ g ≤ 7 ∧ C (10 + 256 * b) 7 = (41 + g) + 256 * b ∧ C (10 + 256 * b) 8 = hd ∧ C (10 + 256 * b) 9 = o ∧ 0 ≤ hd ∧ hd < gcap g ∧ 0 ≤ o ∧ o ≤ gcap g ∧ (∀ g', g < g' → g' ≤ 7 → C (-1) ((41 + g') + 256 * b) = 0) ∧ ∀ k, 0 ≤ k → k < o → C ((41 + g) + 256 * b) (rix g hd k) = f k
theorem ring_lay4 {C : am_M} {b o v g hd : Int} {f : Int → Int} (hb : 0 ≤ b) (hb2 : b < 60) (g0 : 0 ≤ g) (g1 : g ≤ 7) (e7 : C (10 + 256 * b) 7 = (41 + g) + 256 * b) (e8 : C (10 + 256 * b) 8 = hd) (e9 : C (10 + 256 * b) 9 = o) (h1 : 0 ≤ hd) (h2 : hd < gcap g) (o0 : 0 ≤ o) (o1 : o < gcap g) (hf : ∀ g', g < g' → g' ≤ 7 → C (-1) ((41 + g') + 256 * b) = 0) (hv : ∀ k, 0 ≤ k → k < o → C ((41 + g) + 256 * b) (rix g hd k) = f k) :
    ∃ C', am_ev am_PP nX0_lay 2 [10 + 256 * b, v] [] C = some (0, C') ∧ ring C' b (o + 1) (fun k => if k = o then v else f k) ∧ fr (rgt b) C C' ∧ (C' (10 + 256 * b) 10 = if C (10 + 256 * b) 10 < o + 1 then o + 1 else C (10 + 256 * b) 10) ∧ ∀ i, (i ≤ 6 ∨ 11 ≤ i) → C' (10 + 256 * b) i = C (10 + 256 * b) i := by
  obtain ⟨q1, q2, q3, q4⟩ := gcap_b g0 g1
  have hr : 0 ≤ rix g hd o ∧ rix g hd o < gcap g := by unfold rix; split <;> omega
  have key : am_ev am_PP nX0_lay 2 [10 + 256 * b, v] [] C = am_ev am_PP nX0_lay 4 [10 + 256 * b, v, rix g hd o] [] C := by
    by_cases c : hd + o < gcap g
    · simp (disch := omega) only [be_X0_lay_2, be_X0_lay_3, gf_10, Option.bind_some, cond_true, cond_false, decide_true, decide_false, Bool.not_true, Bool.not_false, ite_true, ite_false, and_self, true_and, and_true, decide_eq_true_eq, Int.reduceEq, Int.reduceLT, Int.reduceLE, Int.reduceNe, lcmp_z, lcmp_le, lcmp_ge, lcmp_lt, lcmp_gt, e7, e8, e9, alg g0 g1 hb hb2, am_w32_ok, c, rix]
    · simp (disch := omega) only [be_X0_lay_2, be_X0_lay_3, gf_10, Option.bind_some, cond_true, cond_false, decide_true, decide_false, Bool.not_true, Bool.not_false, ite_true, ite_false, and_self, true_and, and_true, decide_eq_true_eq, Int.reduceEq, Int.reduceLT, Int.reduceLE, Int.reduceNe, lcmp_z, lcmp_le, lcmp_ge, lcmp_lt, lcmp_gt, e7, e8, e9, alg g0 g1 hb hb2, am_w32_ok, c, rix]
  rw [key]
  simp (disch := omega) only [be_X0_lay_4, gf_10, pf_10, Option.bind_some, cond_true, cond_false, decide_true, decide_false, Bool.not_true, Bool.not_false, ite_true, ite_false, and_self, true_and, and_true, decide_eq_true_eq, Int.reduceEq, Int.reduceLT, Int.reduceLE, Int.reduceNe, lcmp_z, lcmp_le, lcmp_ge, lcmp_lt, lcmp_gt, e7, e8, e9, sag g0 g1 hb hb2 C hr.1 hr.2, am_w32_ok, am_up_eq, am_up_nl, am_up_ni]
  refine ⟨_, rfl, ⟨g, hd, g0, g1, ?_, ?_, ?_, h1, h2, by omega, by omega, fun g' a c => ?_, fun k a c => ?_⟩, ?_, ?_, fun i hi => ?_⟩
  · simp (disch := omega) only [am_up_eq, am_up_nl, am_up_ni, e7]
  · simp (disch := omega) only [am_up_eq, am_up_nl, am_up_ni, e8]
  · simp (disch := omega) only [am_up_eq, am_up_nl, am_up_ni]
  · simp (disch := omega) only [am_up_eq, am_up_nl, am_up_ni, hf g' a c]
  · by_cases e : k = o
    · simp (disch := omega) only [e, am_up_eq, am_up_nl, am_up_ni, ite_true]
    · have hne : rix g hd k ≠ rix g hd o := by
        unfold rix; split <;> split <;> omega
      dsimp only
      rw [if_neg e]
      simp (disch := first | exact hne | omega) only [am_up_eq, am_up_nl, am_up_ni]
      exact hv k a (by omega)
  · exact fr_up (Or.inl rfl) (fr_up (Or.inl rfl) (fr_up (Or.inr ⟨by omega, by omega⟩) (fr_refl _ _)))
  · simp (disch := omega) only [am_up_eq, am_up_nl, am_up_ni]
  · simp (disch := omega) only [am_up_eq, am_up_nl, am_up_ni]
theorem ring_lay {C : am_M} {b o v : Int} {f : Int → Int} (hb : 0 ≤ b) (hb2 : b < 60) (h : ring C b o f) (ho : o < 1000) :
    ∃ C', am_evm am_PP nX0_lay [(2, 10 + 256 * b), (1, v)] C = some (0, C') ∧ ring C' b (o + 1) (fun k => if k = o then v else f k) ∧ fr (rgt b) C C' ∧ (C' (10 + 256 * b) 10 = if C (10 + 256 * b) 10 < o + 1 then o + 1 else C (10 + 256 * b) 10) ∧ ∀ i, (i ≤ 6 ∨ 11 ≤ i) → C' (10 + 256 * b) i = C (10 + 256 * b) i := by
  obtain ⟨g, hd, g0, g1, e7, e8, e9, h1, h2, o0, o1, hf, hv⟩ := h
  obtain ⟨q1, q2, q3, q4⟩ := gcap_b g0 g1
  by_cases c : o < gcap g
  · simp (disch := omega) only [be_X0_lay_m, be_X0_lay_0, gf_10, Option.bind_some, cond_true, cond_false, decide_true, decide_false, Bool.not_true, Bool.not_false, ite_true, ite_false, and_self, true_and, and_true, decide_eq_true_eq, Int.reduceEq, Int.reduceLT, Int.reduceLE, Int.reduceNe, lcmp_z, lcmp_le, lcmp_ge, lcmp_lt, lcmp_gt, e7, e9, alg g0 g1 hb hb2, c]
    exact ring_lay4 hb hb2 g0 g1 e7 e8 e9 h1 h2 o0 c hf hv
  · have hg : g < 7 := by omega
    obtain ⟨q5, q6⟩ := q3 hg
    have g0' : 0 ≤ g + 1 := by omega
    have g1' : g + 1 ≤ 7 := by omega
    obtain ⟨a1, a2, a3, a4, a5⟩ := rg_arr (b := b) g0' g1' hb hb2
    obtain ⟨z1, z2, z3, z4, z5⟩ := rg_arr (b := b) g0 g1 hb hb2
    have eL : 41 + g + 256 * b + 1 = 41 + (g + 1) + 256 * b := by omega
    have hw : am_w32 (2 * gcap g) = gcap (g + 1) := by rw [q6]; exact am_w32_ok _ (by omega) (by omega)
    have hw2 : am_w32 (gcap g - hd) = gcap g - hd := am_w32_ok _ (by omega) (by omega)
    have hnew : am_newa 1 (gcap (g + 1)) C (41 + (g + 1) + 256 * b) = some (am_alloc C (41 + (g + 1) + 256 * b)) := am_newa_ok a1 a5 a3 a4.symm (hf (g + 1) (by omega) (by omega))
    have hcp : ∀ (M : am_M) (sp dp n : Int), 0 ≤ sp → 0 ≤ dp → 0 ≤ n → sp + n ≤ gcap g → dp + n ≤ gcap g → am_copy M (41 + g + 256 * b) sp (41 + (g + 1) + 256 * b) dp n = some (am_cpy M (41 + g + 256 * b) sp (41 + (g + 1) + 256 * b) dp n) := by
      intro M sp dp n s1 s2 s3 s4 s5
      unfold am_copy
      rw [if_pos ⟨z1, a1, z3, a3, s1, s2, s3, by rw [am_len_siz z2]; omega, by rw [am_len_siz a2]; omega⟩]
    have hal : ∀ L i, L ≠ -1 → L ≠ -2 → L ≠ 41 + (g + 1) + 256 * b → am_alloc C (41 + (g + 1) + 256 * b) L i = C L i := fun L i x y z => am_alloc_nl _ _ _ _ x y z
    have hcn : ∀ (M : am_M) (a sp dp n L i : Int), L ≠ 41 + (g + 1) + 256 * b → am_cpy M a sp (41 + (g + 1) + 256 * b) dp n L i = M L i := by
      intro M a sp dp n L i q
      unfold am_cpy
      rw [if_neg (fun p => q p.1)]
    simp (disch := omega) only [be_X0_lay_m, be_X0_lay_0, be_X0_lay_1, be_X0_growRing_m, be_X0_growRing_0, gf_10, pf_10, cls_10, pos_10, Option.bind_some, cond_true, cond_false, decide_true, decide_false, Bool.not_true, Bool.not_false, ite_true, ite_false, and_self, true_and, and_true, decide_eq_true_eq, Int.reduceEq, Int.reduceLT, Int.reduceLE, Int.reduceNe, lcmp_z, lcmp_le, lcmp_ge, lcmp_lt, lcmp_gt, e7, e9, e8, alg g0 g1 hb hb2, c, hw, hw2, eL, hnew, hal, hcp, hcn, am_up_eq, am_up_nl, am_up_ni]
    have hrow := ring_lay4 (C := am_up (am_up (am_cpy (am_cpy (am_alloc C (41 + (g + 1) + 256 * b)) (41 + g + 256 * b) hd (41 + (g + 1) + 256 * b) 0 (gcap g - hd)) (41 + g + 256 * b) 0 (41 + (g + 1) + 256 * b) (gcap g - hd) hd) (10 + 256 * b) 7 (41 + (g + 1) + 256 * b)) (10 + 256 * b) 8 0) (v := v) (f := f) (o := o) (hd := 0) hb hb2 g0' g1' (by simp (disch := omega) only [am_up_eq, am_up_nl, am_up_ni]) (by simp (disch := omega) only [am_up_eq, am_up_nl, am_up_ni]) (by simp (disch := omega) only [am_up_eq, am_up_nl, am_up_ni, hcn, hal, e9]) (by omega) (by omega) o0 (by omega) (fun g' x y => ?_) (fun k x y => ?_)
    · obtain ⟨C', p1, p2, p3, p4, p5⟩ := hrow
      refine ⟨C', p1, p2, fr_trans ?_ p3, ?_, fun i hi => ?_⟩
      · exact fr_up (Or.inl rfl) (fr_up (Or.inl rfl) (fr_cpy (Or.inr ⟨by omega, by omega⟩) (fr_cpy (Or.inr ⟨by omega, by omega⟩) (fr_alloc (Or.inr ⟨by omega, by omega⟩) (fr_refl _ _)))))
      · rw [p4]
        simp (disch := omega) only [am_up_eq, am_up_nl, am_up_ni, hcn, hal]
      · rw [p5 i hi]
        simp (disch := omega) only [am_up_eq, am_up_nl, am_up_ni, hcn, hal]
    · simp (disch := omega) only [am_up_eq, am_up_nl, am_up_ni, hcn]
      rw [am_alloc_mn _ _ _ (by omega)]
      exact hf g' (by omega) y
    · have e0 : rix (g + 1) 0 k = k := by unfold rix; rw [if_pos (by omega)]; omega
      rw [e0]
      simp (disch := omega) only [am_up_eq, am_up_nl, am_up_ni]
      rw [← hv k x y]
      by_cases d : k < gcap g - hd
      · rw [show ∀ (M : am_M) (a sp b' dp n L i : Int), am_cpy M a sp b' dp n L i = if L = b' ∧ dp ≤ i ∧ i < dp + n then M a (sp + (i - dp)) else M L i from fun _ _ _ _ _ _ _ _ => rfl, if_neg (by omega)]
        unfold am_cpy
        rw [if_pos ⟨rfl, by omega, by omega⟩, hal _ _ (by omega) (by omega) (by omega)]
        unfold rix
        rw [if_pos (by omega), show hd + (k - 0) = hd + k by omega]
      · rw [show ∀ (M : am_M) (a sp b' dp n L i : Int), am_cpy M a sp b' dp n L i = if L = b' ∧ dp ≤ i ∧ i < dp + n then M a (sp + (i - dp)) else M L i from fun _ _ _ _ _ _ _ _ => rfl, if_pos ⟨rfl, by omega, by omega⟩, hcn _ _ _ _ _ _ _ (by omega), hal _ _ (by omega) (by omega) (by omega)]
        unfold rix
        rw [if_neg (by omega), show 0 + (k - (gcap g - hd)) = hd + k - gcap g by omega]
theorem ring_take {C : am_M} {b o : Int} {f : Int → Int} (hb : 0 ≤ b) (hb2 : b < 60) (h : ring C b o f) (ho : 0 < o) :
    ∃ C', am_evm am_PP nX0_take [(2, 10 + 256 * b)] C = some (f 0, C') ∧ ring C' b (o - 1) (fun k => f (k + 1)) ∧ fr (rgt b) C C' ∧ ∀ i, (i ≤ 6 ∨ 10 ≤ i) → C' (10 + 256 * b) i = C (10 + 256 * b) i := by
  obtain ⟨g, hd, g0, g1, e7, e8, e9, h1, h2, o0, o1, hf, hv⟩ := h
  obtain ⟨q1, q2, q3, q4⟩ := gcap_b g0 g1
  have hv0 := hv 0 (by omega) ho
  have r0 : rix g hd 0 = hd := by unfold rix; rw [if_pos (by omega)]; omega
  rw [r0] at hv0
  by_cases c : hd + 1 < gcap g
  · simp (disch := omega) only [be_X0_take_m, be_X0_take_0, be_X0_take_1, be_X0_take_2, gf_10, pf_10, Option.bind_some, cond_true, cond_false, decide_true, decide_false, Bool.not_true, Bool.not_false, ite_true, ite_false, and_self, true_and, and_true, decide_eq_true_eq, Int.reduceEq, Int.reduceLT, Int.reduceLE, Int.reduceNe, lcmp_z, lcmp_le, lcmp_ge, lcmp_lt, lcmp_gt, e7, e8, e9, alg g0 g1 hb hb2, rag g0 g1 hb hb2 C h1 h2, am_w32_ok, c, am_up_eq, am_up_nl, am_up_ni, hv0]
    refine ⟨_, rfl, ⟨g, hd + 1, g0, g1, ?_, ?_, ?_, by omega, by omega, by omega, by omega, fun g' a c => ?_, fun k a c => ?_⟩, ?_, fun i hi => ?_⟩
    · simp (disch := omega) only [am_up_eq, am_up_nl, am_up_ni, e7]
    · simp (disch := omega) only [am_up_eq, am_up_nl, am_up_ni]
    · simp (disch := omega) only [am_up_eq, am_up_nl, am_up_ni]
    · simp (disch := omega) only [am_up_eq, am_up_nl, am_up_ni, hf g' a c]
    · simp (disch := omega) only [am_up_eq, am_up_nl, am_up_ni]
      rw [← hv (k + 1) (by omega) (by omega)]
      have e : rix g (hd + 1) k = rix g hd (k + 1) := by
        unfold rix
        rw [show hd + 1 + k = hd + (k + 1) by omega]
      rw [e]
    · exact fr_up (Or.inl rfl) (fr_up (Or.inl rfl) (fr_refl _ _))
    · simp (disch := omega) only [am_up_eq, am_up_nl, am_up_ni]
  · simp (disch := omega) only [be_X0_take_m, be_X0_take_0, be_X0_take_1, be_X0_take_2, gf_10, pf_10, Option.bind_some, cond_true, cond_false, decide_true, decide_false, Bool.not_true, Bool.not_false, ite_true, ite_false, and_self, true_and, and_true, decide_eq_true_eq, Int.reduceEq, Int.reduceLT, Int.reduceLE, Int.reduceNe, lcmp_z, lcmp_le, lcmp_ge, lcmp_lt, lcmp_gt, e7, e8, e9, alg g0 g1 hb hb2, rag g0 g1 hb hb2 C h1 h2, am_w32_ok, c, am_up_eq, am_up_nl, am_up_ni, hv0]
    refine ⟨_, rfl, ⟨g, 0, g0, g1, ?_, ?_, ?_, by omega, by omega, by omega, by omega, fun g' a c => ?_, fun k a d => ?_⟩, ?_, fun i hi => ?_⟩
    · simp (disch := omega) only [am_up_eq, am_up_nl, am_up_ni, e7]
    · simp (disch := omega) only [am_up_eq, am_up_nl, am_up_ni]
    · simp (disch := omega) only [am_up_eq, am_up_nl, am_up_ni]
    · simp (disch := omega) only [am_up_eq, am_up_nl, am_up_ni, hf g' a c]
    · simp (disch := omega) only [am_up_eq, am_up_nl, am_up_ni]
      rw [← hv (k + 1) (by omega) (by omega)]
      have e : rix g 0 k = rix g hd (k + 1) := by
        unfold rix
        split <;> split <;> omega
      rw [e]
    · exact fr_up (Or.inl rfl) (fr_up (Or.inl rfl) (fr_up (Or.inl rfl) (fr_refl _ _)))
    · simp (disch := omega) only [am_up_eq, am_up_nl, am_up_ni]
