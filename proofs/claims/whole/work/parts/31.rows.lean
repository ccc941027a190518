/-! frames; rows -/
def FR (L : Int) : Prop := L % 256 = 17 ∨ (61 ≤ L % 256 ∧ L % 256 ≤ 71) ∨ (52 ≤ L % 256 ∧ L % 256 ≤ 54 ∧ 54 < L ∧ L ≠ 310)
def fr (T : Int → Prop) (C C' : am_M) : Prop := ∀ L i, ¬ T L → L ≠ -2 → (L = -1 → ¬ T i) → C' L i = C L i
theorem fr_refl (T : Int → Prop) (C : am_M) : fr T C C := fun _ _ _ _ _ => rfl
theorem fr_trans {T : Int → Prop} {A B C : am_M} (h1 : fr T A B) (h2 : fr T B C) : fr T A C := fun L i a b c => (h2 L i a b c).trans (h1 L i a b c)
theorem fr_mono {T T' : Int → Prop} {A B : am_M} (h : ∀ L, T L → T' L) (h1 : fr T A B) : fr T' A B := fun L i a b c => h1 L i (fun q => a (h L q)) b (fun q p => c q (h i p))
theorem fr_up {T : Int → Prop} {A B : am_M} {L i v : Int} (hL : T L) (h : fr T A B) : fr T A (am_up B L i v) := fun L' i' a b c => by
  have e : L' ≠ L := fun q => a (q ▸ hL)
  rw [am_up_nl _ _ _ _ _ _ e]; exact h L' i' a b c
theorem fr_alloc {T : Int → Prop} {A B : am_M} {L : Int} (hL : T L) (h : fr T A B) : fr T A (am_alloc B L) := fun L' i' a b c => by
  by_cases e : L' = -1
  · subst e
    have e : i' ≠ L := fun q => c rfl (q ▸ hL)
    rw [am_alloc_mn _ _ _ e]; exact h _ i' a b c
  · have e2 : L' ≠ L := fun q => a (q ▸ hL)
    rw [am_alloc_nl _ _ _ _ e b e2]; exact h L' i' a b c
theorem fr_cpy {T : Int → Prop} {A B : am_M} {x sp L dp n : Int} (hL : T L) (h : fr T A B) : fr T A (am_cpy B x sp L dp n) := fun L' i' a b c => by
  have e : ¬ (L' = L ∧ dp ≤ i' ∧ i' < dp + n) := fun q => a (q.1 ▸ hL)
  unfold am_cpy
  rw [if_neg e]; exact h L' i' a b c
/-- what a frame keeps -/
theorem fr_at {T : Int → Prop} {A B : am_M} (h : fr T A B) {L i : Int} (h1 : ¬ T L) (h2 : 0 ≤ L) : B L i = A L i := h L i h1 (by omega) (by omega)
theorem fr_new {T : Int → Prop} {A B : am_M} (h : fr T A B) {i : Int} (h0 : ¬ T (-1)) (h1 : ¬ T i) : B (-1) i = A (-1) i := h (-1) i h0 (by omega) (fun _ => h1)
def rt (r L : Int) : Prop := r ≤ L ∧ L ≤ r + 7
def rcap (g : Int) : Int := if g = 0 then 8 else if g = 1 then 16 else if g = 2 then 32 else if g = 3 then 64 else if g = 4 then 128 else if g = 5 then 256 else 300
def rok (r : Int) : Prop := (r % 256 = 20 ∧ 0 ≤ r ∧ r < 10240) ∨ (r % 256 = 30 ∧ 0 ≤ r ∧ r < 15360)
def row (C : am_M) (r n : Int) (f : Int → Int) : Prop := ∃ g, 0 ≤ g ∧ g ≤ 6 ∧ C r 0 = r + 1 + g ∧ C r 1 = n ∧ 0 ≤ n ∧ (n ≤ rcap g ∨ g = 6) ∧ (∀ g', g < g' → g' ≤ 6 → C (-1) (r + 1 + g') = 0) ∧ ∀ k, 0 ≤ k → k < n → k < 300 → C (r + 1 + g) k = f k
theorem rcap_b {g : Int} (h0 : 0 ≤ g) (h1 : g ≤ 6) : 8 ≤ rcap g ∧ rcap g ≤ 300 ∧ (g < 6 → rcap g ≤ 256 ∧ rcap (g + 1) = (if 300 < 2 * rcap g then 300 else 2 * rcap g)) ∧ (g = 6 → rcap g = 300) := by
  have : g = 0 ∨ g = 1 ∨ g = 2 ∨ g = 3 ∨ g = 4 ∨ g = 5 ∨ g = 6 := by omega
  rcases this with rfl | rfl | rfl | rfl | rfl | rfl | rfl <;> decide
theorem rok_form {r : Int} (h : rok r) : ∃ k w, (k = 20 ∧ 0 ≤ w ∧ w < 40 ∨ k = 30 ∧ 0 ≤ w ∧ w < 60) ∧ r = k + 256 * w := by
  rcases h with ⟨h1, h2, h3⟩ | ⟨h1, h2, h3⟩
  · exact ⟨20, r / 256, Or.inl ⟨rfl, by omega, by omega⟩, by omega⟩
  · exact ⟨30, r / 256, Or.inr ⟨rfl, by omega, by omega⟩, by omega⟩
theorem rok_cls {r : Int} (h : rok r) : 0 < r ∧ am_cls r = 3 := by
  obtain ⟨k, w, hk, rfl⟩ := rok_form h
  rcases hk with ⟨rfl, h1, h2⟩ | ⟨rfl, h1, h2⟩
  · exact ⟨by omega, cls_20 w⟩
  · exact ⟨by omega, cls_30 w⟩
theorem rok_arr {r g : Int} (h : rok r) (h0 : 0 ≤ g) (h1 : g ≤ 6) : 0 < r + 1 + g ∧ r + 1 + g ≠ 1 ∧ am_aty (r + 1 + g) = 1 ∧ ((am_siz (r + 1 + g) : Nat) : Int) = rcap g ∧ (r + 1 + g) / 256 < am_nb (r + 1 + g) := by
  obtain ⟨k, w, hk, rfl⟩ := rok_form h
  have hg : g = 0 ∨ g = 1 ∨ g = 2 ∨ g = 3 ∨ g = 4 ∨ g = 5 ∨ g = 6 := by omega
  have e : k + 256 * w + 1 + g = (k + 1 + g) + 256 * w := by omega
  rw [e, am_aty_add, am_siz_add, am_nb_add]
  rcases hk with ⟨rfl, h1, h2⟩ | ⟨rfl, h1, h2⟩
  · have q : am_aty (20 + 1 + g) = 1 ∧ ((am_siz (20 + 1 + g) : Nat) : Int) = rcap g ∧ am_nb (20 + 1 + g) = 40 := by
      rcases hg with rfl | rfl | rfl | rfl | rfl | rfl | rfl <;> decide +kernel
    rw [q.1, q.2.1, q.2.2]
    exact ⟨by omega, by omega, rfl, rfl, by omega⟩
  · have q : am_aty (30 + 1 + g) = 1 ∧ ((am_siz (30 + 1 + g) : Nat) : Int) = rcap g ∧ am_nb (30 + 1 + g) = 60 := by
      rcases hg with rfl | rfl | rfl | rfl | rfl | rfl | rfl <;> decide +kernel
    rw [q.1, q.2.1, q.2.2]
    exact ⟨by omega, by omega, rfl, rfl, by omega⟩
theorem gfr {r : Int} (h : rok r) (k : Int) (M : am_M) : am_gf 3 k M r = some (M r k) := am_gf_ok (rok_cls h).1 (rok_cls h).2
theorem pfr {r : Int} (h : rok r) (k v : Int) (M : am_M) : am_pf 3 k 0 M r v = some (am_up M r k v) := am_pf_ok (rok_cls h).1 (rok_cls h).2 (Or.inl (by decide))
theorem alr {r g : Int} (h : rok r) (h0 : 0 ≤ g) (h1 : g ≤ 6) (M : am_M) : am_alen M (r + 1 + g) = some (rcap g) := by
  obtain ⟨a, b, c, d, e⟩ := rok_arr h h0 h1
  rw [am_alen_ok (n := am_siz (r + 1 + g)) a b (by omega) rfl, d]
theorem rar {r g i : Int} (h : rok r) (h0 : 0 ≤ g) (h1 : g ≤ 6) (M : am_M) (hi : 0 ≤ i) (hl : i < rcap g) : am_ald 1 M (r + 1 + g) i = some (M (r + 1 + g) i) := by
  obtain ⟨a, b, c, d, e⟩ := rok_arr h h0 h1
  exact am_ald_ok (n := am_siz (r + 1 + g)) a b c rfl hi (by omega)
theorem sar {r g i v : Int} (h : rok r) (h0 : 0 ≤ g) (h1 : g ≤ 6) (M : am_M) (hi : 0 ≤ i) (hl : i < rcap g) : am_ast 1 M (r + 1 + g) i v = some (am_up M (r + 1 + g) i v) := by
  obtain ⟨a, b, c, d, e⟩ := rok_arr h h0 h1
  exact am_ast_ok (n := am_siz (r + 1 + g)) a b c rfl hi (by omega) (am_vok1 v)
theorem row_len {C : am_M} {r n : Int} {f : Int → Int} (h : row C r n f) : C r 1 = n ∧ 0 ≤ n := by
  obtain ⟨g, a, b, c, d, e, _⟩ := h
  exact ⟨d, e⟩
theorem row_at {C : am_M} {r n i : Int} {f : Int → Int} (hr : rok r) (h : row C r n f) : am_evm am_PP nX3_at [(2, r), (0, i)] C = some (if 0 ≤ i ∧ i < n ∧ i < 300 then f i else 0, C) := by
  obtain ⟨g, g0, g1, e1, e2, n0, hc, hf, hv⟩ := h
  obtain ⟨b1, b2, b3, b4⟩ := rcap_b g0 g1
  by_cases c1 : i < 0
  · simp only [be_X3_at_m, be_X3_at_0, be_X3_at_1, be_X3_at_2, be_X3_at_3, be_X3_at_4, be_X3_at_5, c1, Option.bind_some, cond_true, cond_false, decide_true, decide_false, Bool.not_true, Bool.not_false, ite_true, ite_false, and_self, true_and, and_true, decide_eq_true_eq, Int.reduceEq, Int.reduceLT, Int.reduceLE, Int.reduceNe, lcmp_z, lcmp_le, lcmp_ge, lcmp_lt, lcmp_gt]
    rw [if_neg (by omega)]
  by_cases c2 : n ≤ i
  · simp only [be_X3_at_m, be_X3_at_0, be_X3_at_1, be_X3_at_2, be_X3_at_3, be_X3_at_4, be_X3_at_5, c1, c2, Option.bind_some, cond_true, cond_false, decide_true, decide_false, Bool.not_true, Bool.not_false, ite_true, ite_false, and_self, true_and, and_true, decide_eq_true_eq, Int.reduceEq, Int.reduceLT, Int.reduceLE, Int.reduceNe, lcmp_z, lcmp_le, lcmp_ge, lcmp_lt, lcmp_gt, gfr hr, e1, e2]
    rw [if_neg (by omega)]
  by_cases c3 : i < rcap g
  · simp only [be_X3_at_m, be_X3_at_0, be_X3_at_1, be_X3_at_2, be_X3_at_3, be_X3_at_4, be_X3_at_5, c1, c2, c3, Option.bind_some, cond_true, cond_false, decide_true, decide_false, Bool.not_true, Bool.not_false, ite_true, ite_false, and_self, true_and, and_true, decide_eq_true_eq, Int.reduceEq, Int.reduceLT, Int.reduceLE, Int.reduceNe, lcmp_z, lcmp_le, lcmp_ge, lcmp_lt, lcmp_gt, gfr hr, e1, e2, alr hr g0 g1, rar hr g0 g1 C (show 0 ≤ i by omega) c3]
    rw [if_pos (by omega), hv i (by omega) (by omega) (by omega)]
  · simp only [be_X3_at_m, be_X3_at_0, be_X3_at_1, be_X3_at_2, be_X3_at_3, be_X3_at_4, be_X3_at_5, c1, c2, c3, Option.bind_some, cond_true, cond_false, decide_true, decide_false, Bool.not_true, Bool.not_false, ite_true, ite_false, and_self, true_and, and_true, decide_eq_true_eq, Int.reduceEq, Int.reduceLT, Int.reduceLE, Int.reduceNe, lcmp_z, lcmp_le, lcmp_ge, lcmp_lt, lcmp_gt, gfr hr, e1, e2, alr hr g0 g1]
    rw [if_neg (by omega)]
theorem row_empty {C : am_M} {r n : Int} {f f' : Int → Int} (hr : rok r) (h : row C r n f) : row (am_up C r 1 0) r 0 f' := by
  obtain ⟨g, g0, g1, e1, e2, n0, hc, hf, hv⟩ := h
  have h0 := (rok_cls hr).1
  obtain ⟨b1, _⟩ := rcap_b g0 g1
  refine ⟨g, g0, g1, by rw [am_up_ni _ _ _ _ _ _ (by decide)]; exact e1, am_up_eq _ _ _ _, by omega, by omega, fun g' a b => ?_, fun k a b _ => by omega⟩
  rw [am_up_nl _ _ _ _ _ _ (by omega)]; exact hf g' a b
theorem row_ext {C C' : am_M} {r n : Int} {f f' : Int → Int} (hr : rok r) (h : row C r n f) (hC : ∀ L i, rt r L → C' L i = C L i) (hN : ∀ L, rt r L → C' (-1) L = C (-1) L) (hf : ∀ k, 0 ≤ k → k < n → k < 300 → f' k = f k) : row C' r n f' := by
  obtain ⟨g, g0, g1, e1, e2, n0, hc, hfr, hv⟩ := h
  refine ⟨g, g0, g1, by rw [hC r 0 ⟨by omega, by omega⟩]; exact e1, by rw [hC r 1 ⟨by omega, by omega⟩]; exact e2, n0, hc, fun g' a b => ?_, fun k a b c => ?_⟩
  · rw [hN _ ⟨by omega, by omega⟩]; exact hfr g' a b
  · rw [hC _ k ⟨by omega, by omega⟩, hf k a b c]; exact hv k a b c
/-- the last lines of append -/
theorem row_put {C : am_M} {r n v g : Int} {f : Int → Int} (hr : rok r) (g0 : 0 ≤ g) (g1 : g ≤ 6) (e1 : C r 0 = r + 1 + g) (e2 : C r 1 = n) (n0 : 0 ≤ n) (hc : n < rcap g) (hf : ∀ g', g < g' → g' ≤ 6 → C (-1) (r + 1 + g') = 0) (hv : ∀ k, 0 ≤ k → k < n → k < 300 → C (r + 1 + g) k = f k) :
    ∃ C', am_ev am_PP nX3_append 3 [r, v] [] C = some (0, C') ∧ row C' r (n + 1) (fun k => if k = n then v else f k) ∧ fr (rt r) C C' := by
  have h0 := (rok_cls hr).1
  obtain ⟨b1, b2, b3, b4⟩ := rcap_b g0 g1
  simp (disch := omega) only [be_X3_append_3, be_X3_append_4, gfr hr, pfr hr, Option.bind_some, cond_true, cond_false, decide_true, decide_false, Bool.not_true, Bool.not_false, ite_true, ite_false, and_self, true_and, and_true, decide_eq_true_eq, Int.reduceEq, Int.reduceLT, Int.reduceLE, Int.reduceNe, lcmp_z, lcmp_le, lcmp_ge, lcmp_lt, lcmp_gt, e1, e2, sar hr g0 g1 C n0 hc, am_up_eq, am_up_nl, am_up_ni, am_w32_ok]
  refine ⟨_, rfl, ⟨g, g0, g1, ?_, ?_, by omega, by omega, fun g' a b => ?_, fun k a b c => ?_⟩, fr_up ⟨by omega, by omega⟩ (fr_up ⟨by omega, by omega⟩ (fr_refl _ _))⟩
  · simp (disch := omega) only [am_up_eq, am_up_nl, am_up_ni, e1]
  · simp (disch := omega) only [am_up_eq, am_up_nl, am_up_ni]
  · simp (disch := omega) only [am_up_eq, am_up_nl, am_up_ni, hf g' a b]
  · by_cases q : k = n
    · simp (disch := omega) only [q, am_up_eq, am_up_nl, am_up_ni, ite_true]
    · simp (disch := omega) only [q, am_up_eq, am_up_nl, am_up_ni, if_neg, not_false_eq_true]
      exact hv k a (by omega) c
theorem row_append {C : am_M} {r n v : Int} {f : Int → Int} (hr : rok r) (h : row C r n f) (hn : n < 2000000000) :
    ∃ C', am_evm am_PP nX3_append [(2, r), (1, v)] C = some (0, C') ∧ row C' r (n + 1) (fun k => if k = n then v else f k) ∧ fr (rt r) C C' := by
  obtain ⟨g, g0, g1, e1, e2, n0, hc, hf, hv⟩ := h
  have h0 := (rok_cls hr).1
  obtain ⟨b1, b2, b3, b4⟩ := rcap_b g0 g1
  by_cases c1 : 300 ≤ n
  · have hg : g = 6 := by omega
    simp (disch := omega) only [be_X3_append_m, be_X3_append_0, be_X3_append_1, be_X3_append_2, be_X3_append_3, be_X3_append_4, gfr hr, pfr hr, Option.bind_some, cond_true, cond_false, decide_true, decide_false, Bool.not_true, Bool.not_false, ite_true, ite_false, and_self, true_and, and_true, decide_eq_true_eq, Int.reduceEq, Int.reduceLT, Int.reduceLE, Int.reduceNe, lcmp_z, lcmp_le, lcmp_ge, lcmp_lt, lcmp_gt, e1, e2, c1, am_w32_ok]
    refine ⟨_, rfl, ⟨g, g0, g1, ?_, ?_, by omega, Or.inr hg, fun g' a b => ?_, fun k a b c => ?_⟩, fr_up ⟨by omega, by omega⟩ (fr_refl _ _)⟩
    · simp (disch := omega) only [am_up_eq, am_up_nl, am_up_ni, e1]
    · simp (disch := omega) only [am_up_eq, am_up_nl, am_up_ni]
    · simp (disch := omega) only [am_up_eq, am_up_nl, am_up_ni, hf g' a b]
    · simp (disch := omega) only [am_up_eq, am_up_nl, am_up_ni, if_neg]
      exact hv k a (by omega) c
  by_cases c2 : n < rcap g
  · simp (disch := omega) only [be_X3_append_m, be_X3_append_0, be_X3_append_1, be_X3_append_2, gfr hr, Option.bind_some, cond_true, cond_false, decide_true, decide_false, Bool.not_true, Bool.not_false, ite_true, ite_false, and_self, true_and, and_true, decide_eq_true_eq, Int.reduceEq, Int.reduceLT, Int.reduceLE, Int.reduceNe, lcmp_z, lcmp_le, lcmp_ge, lcmp_lt, lcmp_gt, e1, e2, c1, c2, alr hr g0 g1]
    exact row_put hr g0 g1 e1 e2 n0 c2 hf hv
  · have hg : g < 6 := by omega
    obtain ⟨b5, b6⟩ := b3 hg
    obtain ⟨a1, a2, a3, a4, a5⟩ := rok_arr hr (show 0 ≤ g + 1 by omega) (show g + 1 ≤ 6 by omega)
    obtain ⟨z1, z2, z3, z4, z5⟩ := rok_arr hr g0 g1
    have eL : r + 1 + g + 1 = r + 1 + (g + 1) := by omega
    have hnew : am_newa 1 (rcap (g + 1)) C (r + 1 + (g + 1)) = some (am_alloc C (r + 1 + (g + 1))) := am_newa_ok a1 a5 a3 a4.symm (hf (g + 1) (by omega) (by omega))
    have b7 : rcap g < rcap (g + 1) := by rw [b6]; split <;> omega
    have hcp : am_copy (am_alloc C (r + 1 + (g + 1))) (r + 1 + g) 0 (r + 1 + (g + 1)) 0 (rcap g) = some (am_cpy (am_alloc C (r + 1 + (g + 1))) (r + 1 + g) 0 (r + 1 + (g + 1)) 0 (rcap g)) := by
      unfold am_copy
      rw [if_pos ⟨z1, a1, z3, a3, by omega, by omega, by omega, by rw [am_len_siz z2]; omega, by rw [am_len_siz a2]; omega⟩]
    have hne : (rcap (g + 1) = rcap g) = False := eq_false (by omega)
    have hlt : (rcap (g + 1) < rcap g) = False := eq_false (by omega)
    have hw : am_w32 (2 * rcap g) = 2 * rcap g := am_w32_ok _ (by omega) (by omega)
    simp (disch := omega) only [be_X3_append_m, be_X3_append_0, be_X3_append_1, be_X3_append_2, be_J7_copyOf_c38d5_m, be_J7_copyOf_c38d5_0, be_J7_copyOf_c38d5_1, be_J7_copyOf_c38d5_2, gfr hr, pfr hr, Option.bind_some, cond_true, cond_false, decide_true, decide_false, Bool.not_true, Bool.not_false, ite_true, ite_false, and_self, true_and, and_true, decide_eq_true_eq, Int.reduceEq, Int.reduceLT, Int.reduceLE, Int.reduceNe, lcmp_z, lcmp_le, lcmp_ge, lcmp_lt, lcmp_gt, e1, e2, c1, c2, alr hr g0 g1, hw, ← b6, hne, hlt, eL, hnew, hcp]
    have hat : ∀ L i, L ≠ -1 → L ≠ -2 → L ≠ r + 1 + (g + 1) → am_cpy (am_alloc C (r + 1 + (g + 1))) (r + 1 + g) 0 (r + 1 + (g + 1)) 0 (rcap g) L i = C L i := by
      intro L i q1 q2 q3
      unfold am_cpy
      rw [if_neg (fun q => q3 q.1), am_alloc_nl _ _ _ _ q1 q2 q3]
    have hrow := row_put (C := am_up (am_cpy (am_alloc C (r + 1 + (g + 1))) (r + 1 + g) 0 (r + 1 + (g + 1)) 0 (rcap g)) r 0 (r + 1 + (g + 1))) (v := v) (f := f) hr (show 0 ≤ g + 1 by omega) (show g + 1 ≤ 6 by omega) (am_up_eq _ _ _ _) (by rw [am_up_ni _ _ _ _ _ _ (by decide), hat r 1 (by omega) (by omega) (by omega)]; exact e2) n0 (by omega) (fun g' a b => ?_) (fun k a b c => ?_)
    · obtain ⟨C', h1, h2, h3⟩ := hrow
      refine ⟨C', h1, h2, fr_trans ?_ h3⟩
      exact fr_up ⟨by omega, by omega⟩ (fr_cpy ⟨by omega, by omega⟩ (fr_alloc ⟨by omega, by omega⟩ (fr_refl _ _)))
    · rw [am_up_nl _ _ _ _ _ _ (by omega)]
      unfold am_cpy
      rw [if_neg (by omega), am_alloc_mn _ _ _ (by omega)]
      exact hf g' (by omega) b
    · rw [am_up_nl _ _ _ _ _ _ (by omega)]
      unfold am_cpy
      rw [if_pos ⟨rfl, by omega, by omega⟩, am_alloc_nl _ _ _ _ (by omega) (by omega) (by omega), show (0 : Int) + (k - 0) = k by omega]
      exact hv k a b c
