/-! the whole of a band of the hall: number, ends, widths, load, what was written -/
def bcl (C : am_M) (b fm to td wn tw o mo mk n : Int) (V : Int → Int) (t : Int) : Prop :=
  C (10 + 256 * b) 0 = b ∧ C (10 + 256 * b) 1 = 30 + 256 * b ∧ C (10 + 256 * b) 2 = 15 + 256 * fm ∧ C (10 + 256 * b) 3 = 15 + 256 * to ∧ C (10 + 256 * b) 4 = td ∧ C (10 + 256 * b) 5 = wn ∧ C (10 + 256 * b) 6 = tw ∧ C (10 + 256 * b) 10 = mo ∧ C (10 + 256 * b) 11 = mk ∧ row C (30 + 256 * b) n V ∧ ring C b o (fun k => V (t + k))
theorem rok_b {b : Int} (h : 0 ≤ b) (h2 : b < 60) : rok (30 + 256 * b) := Or.inr ⟨by omega, by omega, by omega⟩
theorem rok_w {b : Int} (h : 0 ≤ b) (h2 : b < 40) : rok (20 + 256 * b) := Or.inl ⟨by omega, by omega, by omega⟩
theorem ring_ext {C C' : am_M} {b o : Int} {f f' : Int → Int} (h : ring C b o f) (hC : ∀ L i, 41 + 256 * b ≤ L → L ≤ 48 + 256 * b → C' L i = C L i) (hN : ∀ L, 41 + 256 * b ≤ L → L ≤ 48 + 256 * b → C' (-1) L = C (-1) L) (hi : ∀ i, 7 ≤ i → i ≤ 9 → C' (10 + 256 * b) i = C (10 + 256 * b) i) (hf : ∀ k, 0 ≤ k → k < o → f' k = f k) : ring C' b o f' := by
  obtain ⟨g, hd, g0, g1, e7, e8, e9, h1, h2, o0, o1, hfr, hv⟩ := h
  refine ⟨g, hd, g0, g1, by rw [hi 7 (by omega) (by omega)]; exact e7, by rw [hi 8 (by omega) (by omega)]; exact e8, by rw [hi 9 (by omega) (by omega)]; exact e9, h1, h2, o0, o1, fun g' a b => ?_, fun k a b => ?_⟩
  · rw [hN _ (by omega) (by omega)]; exact hfr g' a b
  · rw [hC _ _ (by omega) (by omega), hf k a b]; exact hv k a b
theorem bcl_ext {C C' : am_M} {b fm to td wn tw o mo mk n t : Int} {V V' : Int → Int} {t' : Int} (hb : 0 ≤ b) (hb2 : b < 60) (h : bcl C b fm to td wn tw o mo mk n V t) (hC : ∀ L i, bt b L → C' L i = C L i) (hN : ∀ L, bt b L → C' (-1) L = C (-1) L) (hV : ∀ k, 0 ≤ k → k < n → k < 300 → V' k = V k) (hV2 : ∀ k, 0 ≤ k → k < o → V' (t' + k) = V (t + k)) : bcl C' b fm to td wn tw o mo mk n V' t' := by
  obtain ⟨h0, h1, h2, h3, h4, h5, h6, h10, h11, hrow, hring⟩ := h
  have e : ∀ i, C' (10 + 256 * b) i = C (10 + 256 * b) i := fun i => hC _ i (Or.inl rfl)
  refine ⟨(e 0).trans h0, (e 1).trans h1, (e 2).trans h2, (e 3).trans h3, (e 4).trans h4, (e 5).trans h5, (e 6).trans h6, (e 10).trans h10, (e 11).trans h11, ?_, ?_⟩
  · exact row_ext (rok_b hb hb2) hrow (fun L i q => hC L i (Or.inr (Or.inl ⟨by unfold rt at q; omega, by unfold rt at q; omega⟩))) (fun L q => hN L (Or.inr (Or.inl ⟨by unfold rt at q; omega, by unfold rt at q; omega⟩))) hV
  · exact ring_ext hring (fun L i p q => hC L i (Or.inr (Or.inr ⟨p, q⟩))) (fun L p q => hN L (Or.inr (Or.inr ⟨p, q⟩))) (fun i _ _ => e i) hV2
theorem bcl_fr {T : Int → Prop} {C C' : am_M} {b fm to td wn tw o mo mk n t : Int} {V : Int → Int} (hb : 0 ≤ b) (hb2 : b < 60) (hf : fr T C C') (h0 : ¬ T (-1)) (hT : ∀ L, bt b L → ¬ T L) (h : bcl C b fm to td wn tw o mo mk n V t) : bcl C' b fm to td wn tw o mo mk n V t :=
  bcl_ext hb hb2 h (fun L i q => hf L i (hT L q) (by unfold bt at q; omega) (by intro e; unfold bt at q; omega)) (fun L q => hf (-1) L h0 (by omega) (fun _ => hT L q)) (fun _ _ _ _ => rfl) (fun _ _ _ => rfl)
theorem bcl_len {C : am_M} {b fm to td wn tw o mo mk n t : Int} {V : Int → Int} (h : bcl C b fm to td wn tw o mo mk n V t) : C (30 + 256 * b) 1 = n ∧ C (10 + 256 * b) 9 = o ∧ 0 ≤ o ∧ 0 ≤ n := by
  obtain ⟨h0, h1, h2, h3, h4, h5, h6, h10, h11, hrow, g, hd, g0, g1, e7, e8, e9, a1, a2, o0, o1, hfr, hv⟩ := h
  exact ⟨(row_len hrow).1, e9, o0, (row_len hrow).2⟩
theorem cl_isOver {C : am_M} {w : Int} (hw : 0 ≤ w) : am_evm am_PP nX5_isOver [(2, 15 + 256 * w)] C = some (if C (15 + 256 * w) 8 = 4 ∨ C (15 + 256 * w) 8 = 5 then 1 else 0, C) := by
  by_cases c1 : C (15 + 256 * w) 8 = 4
  · simp (disch := omega) only [be_X5_isOver_m, be_X5_isOver_0, be_X5_isOver_1, be_X5_isOver_2, be_X5_isOver_3, be_X5_isOver_4, gf_15, Option.bind_some, cond_true, cond_false, decide_true, decide_false, Bool.not_true, Bool.not_false, ite_true, ite_false, and_self, true_and, and_true, decide_eq_true_eq, Int.reduceEq, Int.reduceLT, Int.reduceLE, Int.reduceNe, lcmp_z, lcmp_le, lcmp_ge, lcmp_lt, lcmp_gt, c1, true_or, or_true, Int.reduceEq, or_self]
  by_cases c2 : C (15 + 256 * w) 8 = 5
  · simp (disch := omega) only [be_X5_isOver_m, be_X5_isOver_0, be_X5_isOver_1, be_X5_isOver_2, be_X5_isOver_3, be_X5_isOver_4, gf_15, Option.bind_some, cond_true, cond_false, decide_true, decide_false, Bool.not_true, Bool.not_false, ite_true, ite_false, and_self, true_and, and_true, decide_eq_true_eq, Int.reduceEq, Int.reduceLT, Int.reduceLE, Int.reduceNe, lcmp_z, lcmp_le, lcmp_ge, lcmp_lt, lcmp_gt, c1, c2, true_or, or_true, Int.reduceEq, or_self]
  · simp (disch := omega) only [be_X5_isOver_m, be_X5_isOver_0, be_X5_isOver_1, be_X5_isOver_2, be_X5_isOver_3, be_X5_isOver_4, gf_15, Option.bind_some, cond_true, cond_false, decide_true, decide_false, Bool.not_true, Bool.not_false, ite_true, ite_false, and_self, true_and, and_true, decide_eq_true_eq, Int.reduceEq, Int.reduceLT, Int.reduceLE, Int.reduceNe, lcmp_z, lcmp_le, lcmp_ge, lcmp_lt, lcmp_gt, c1, c2, true_or, or_true, Int.reduceEq, or_self]
theorem cl_canBeRead {C : am_M} {b fm : Int} (hb : 0 ≤ b) (hf : 0 ≤ fm) (h2 : C (10 + 256 * b) 2 = 15 + 256 * fm) : am_evm am_PP nX0_canBeRead [(2, 10 + 256 * b)] C = some (if 0 < C (10 + 256 * b) 9 ∨ C (15 + 256 * fm) 8 = 4 ∨ C (15 + 256 * fm) 8 = 5 then 1 else 0, C) := by
  by_cases c1 : 0 < C (10 + 256 * b) 9
  · simp (disch := omega) only [be_X0_canBeRead_m, be_X0_canBeRead_0, be_X0_canBeRead_1, be_X0_canBeRead_2, be_X0_canBeRead_3, be_X0_canBeRead_4, gf_10, Option.bind_some, cond_true, cond_false, decide_true, decide_false, Bool.not_true, Bool.not_false, ite_true, ite_false, and_self, true_and, and_true, decide_eq_true_eq, Int.reduceEq, Int.reduceLT, Int.reduceLE, Int.reduceNe, lcmp_z, lcmp_le, lcmp_ge, lcmp_lt, lcmp_gt, c1, true_or, or_true, Int.reduceEq, or_self]
  by_cases c2 : C (15 + 256 * fm) 8 = 4 ∨ C (15 + 256 * fm) 8 = 5
  · simp (disch := omega) only [be_X0_canBeRead_m, be_X0_canBeRead_0, be_X0_canBeRead_1, be_X0_canBeRead_2, be_X0_canBeRead_3, be_X0_canBeRead_4, gf_10, Option.bind_some, cond_true, cond_false, decide_true, decide_false, Bool.not_true, Bool.not_false, ite_true, ite_false, and_self, true_and, and_true, decide_eq_true_eq, Int.reduceEq, Int.reduceLT, Int.reduceLE, Int.reduceNe, lcmp_z, lcmp_le, lcmp_ge, lcmp_lt, lcmp_gt, c1, h2, cls_15, pos_15, cl_isOver hf, c2, true_or, or_true, Int.reduceEq, or_self]
  · simp (disch := omega) only [be_X0_canBeRead_m, be_X0_canBeRead_0, be_X0_canBeRead_1, be_X0_canBeRead_2, be_X0_canBeRead_3, be_X0_canBeRead_4, gf_10, Option.bind_some, cond_true, cond_false, decide_true, decide_false, Bool.not_true, Bool.not_false, ite_true, ite_false, and_self, true_and, and_true, decide_eq_true_eq, Int.reduceEq, Int.reduceLT, Int.reduceLE, Int.reduceNe, lcmp_z, lcmp_le, lcmp_ge, lcmp_lt, lcmp_gt, c1, h2, cls_15, pos_15, cl_isOver hf, c2, true_or, or_true, or_false, Int.reduceEq, or_self]
theorem cl_canBeWritten {C : am_M} {b to : Int} (hb : 0 ≤ b) (hf : 0 ≤ to) (h2 : C (10 + 256 * b) 3 = 15 + 256 * to) : am_evm am_PP nX0_canBeWritten [(2, 10 + 256 * b)] C = some (if C (10 + 256 * b) 9 < C (10 + 256 * b) 5 ∨ C (15 + 256 * to) 8 = 4 ∨ C (15 + 256 * to) 8 = 5 then 1 else 0, C) := by
  by_cases c1 : C (10 + 256 * b) 9 < C (10 + 256 * b) 5
  · simp (disch := omega) only [be_X0_canBeWritten_m, be_X0_canBeWritten_0, be_X0_canBeWritten_1, be_X0_canBeWritten_2, be_X0_canBeWritten_3, be_X0_canBeWritten_4, gf_10, Option.bind_some, cond_true, cond_false, decide_true, decide_false, Bool.not_true, Bool.not_false, ite_true, ite_false, and_self, true_and, and_true, decide_eq_true_eq, Int.reduceEq, Int.reduceLT, Int.reduceLE, Int.reduceNe, lcmp_z, lcmp_le, lcmp_ge, lcmp_lt, lcmp_gt, c1, true_or, or_true, Int.reduceEq, or_self]
  by_cases c2 : C (15 + 256 * to) 8 = 4 ∨ C (15 + 256 * to) 8 = 5
  · simp (disch := omega) only [be_X0_canBeWritten_m, be_X0_canBeWritten_0, be_X0_canBeWritten_1, be_X0_canBeWritten_2, be_X0_canBeWritten_3, be_X0_canBeWritten_4, gf_10, Option.bind_some, cond_true, cond_false, decide_true, decide_false, Bool.not_true, Bool.not_false, ite_true, ite_false, and_self, true_and, and_true, decide_eq_true_eq, Int.reduceEq, Int.reduceLT, Int.reduceLE, Int.reduceNe, lcmp_z, lcmp_le, lcmp_ge, lcmp_lt, lcmp_gt, c1, h2, cls_15, pos_15, cl_isOver hf, c2, true_or, or_true, Int.reduceEq, or_self]
  · simp (disch := omega) only [be_X0_canBeWritten_m, be_X0_canBeWritten_0, be_X0_canBeWritten_1, be_X0_canBeWritten_2, be_X0_canBeWritten_3, be_X0_canBeWritten_4, gf_10, Option.bind_some, cond_true, cond_false, decide_true, decide_false, Bool.not_true, Bool.not_false, ite_true, ite_false, and_self, true_and, and_true, decide_eq_true_eq, Int.reduceEq, Int.reduceLT, Int.reduceLE, Int.reduceNe, lcmp_z, lcmp_le, lcmp_ge, lcmp_lt, lcmp_gt, c1, h2, cls_15, pos_15, cl_isOver hf, c2, true_or, or_true, or_false, Int.reduceEq, or_self]
theorem rgt_bt {b L : Int} (h : rgt b L) : bt b L := by
  rcases h with h | h
  · exact Or.inl h
  · exact Or.inr (Or.inr h)
theorem rt_bt {b L : Int} (h : rt (30 + 256 * b) L) : bt b L := Or.inr (Or.inl ⟨by unfold rt at h; omega, by unfold rt at h; omega⟩)
/-- put: the reader is over -/
theorem bcl_put1 {C : am_M} {b fm to td wn tw o mo mk n t v : Int} {V : Int → Int} (hb : 0 ≤ b) (hb2 : b < 60) (hto : 0 ≤ to) (h : bcl C b fm to td wn tw o mo mk n V t) (hn : n < 2000000000) (ht : 0 ≤ t) (hto2 : t + o ≤ n) (hov : C (15 + 256 * to) 8 = 4 ∨ C (15 + 256 * to) 8 = 5) :
    ∃ C', am_evm am_PP nX0_put [(2, 10 + 256 * b), (1, v)] C = some (0, C') ∧ fr (bt b) C C' ∧ bcl C' b fm to td wn tw o mo (am_w64 (am_w64 (31 * mk) + v)) (n + 1) (fun k => if k = n then v else V k) t := by
  obtain ⟨h0, h1, h2, h3, h4, h5, h6, h10, h11, hrow, hring⟩ := h
  obtain ⟨C1, e1, r1, f1⟩ := row_append (v := v) (rok_b hb hb2) hrow hn
  have k10 : ∀ i, C1 (10 + 256 * b) i = C (10 + 256 * b) i := fun i => fr_at f1 (by unfold rt; omega) (by omega)
  have k15 : C1 (15 + 256 * to) 8 = C (15 + 256 * to) 8 := fr_at f1 (by unfold rt; omega) (by omega)
  simp (disch := omega) only [be_X0_put_m, be_X0_put_0, be_X0_put_1, be_X0_put_2, gf_10, pf_10, Option.bind_some, cond_true, cond_false, decide_true, decide_false, Bool.not_true, Bool.not_false, ite_true, ite_false, and_self, true_and, and_true, decide_eq_true_eq, Int.reduceEq, Int.reduceLT, Int.reduceLE, Int.reduceNe, lcmp_z, lcmp_le, lcmp_ge, lcmp_lt, lcmp_gt, h1, cls_30, pos_30, e1, k10, h11, h3, am_up_eq, am_up_nl, am_up_ni, cls_15, pos_15, cl_isOver hto, k15, hov]
  refine ⟨_, rfl, fr_up (Or.inl rfl) (fr_mono (fun L q => rt_bt q) f1), ?_⟩
  have kr : ∀ L i, rt (30 + 256 * b) L → am_up C1 (10 + 256 * b) 11 (am_w64 (am_w64 (31 * mk) + v)) L i = C1 L i := fun L i q => am_up_nl _ _ _ _ _ _ (by unfold rt at q; omega)
  refine ⟨?_, ?_, ?_, ?_, ?_, ?_, ?_, ?_, ?_, row_ext (rok_b hb hb2) r1 kr (fun L q => am_up_nl _ _ _ _ _ _ (by omega)) (fun _ _ _ _ => rfl), ring_ext hring (fun L i p q => ?_) (fun L p q => ?_) (fun i p q => ?_) (fun k p q => ?_)⟩
  · simp (disch := omega) only [am_up_eq, am_up_nl, am_up_ni, k10, h0]
  · simp (disch := omega) only [am_up_eq, am_up_nl, am_up_ni, k10, h1]
  · simp (disch := omega) only [am_up_eq, am_up_nl, am_up_ni, k10, h2]
  · simp (disch := omega) only [am_up_eq, am_up_nl, am_up_ni, k10, h3]
  · simp (disch := omega) only [am_up_eq, am_up_nl, am_up_ni, k10, h4]
  · simp (disch := omega) only [am_up_eq, am_up_nl, am_up_ni, k10, h5]
  · simp (disch := omega) only [am_up_eq, am_up_nl, am_up_ni, k10, h6]
  · simp (disch := omega) only [am_up_eq, am_up_nl, am_up_ni, k10, h10]
  · simp (disch := omega) only [am_up_eq, am_up_nl, am_up_ni]
  · simp (disch := omega) only [am_up_eq, am_up_nl, am_up_ni]
    exact fr_at f1 (by unfold rt; omega) (by omega)
  · simp (disch := omega) only [am_up_eq, am_up_nl, am_up_ni]
    exact fr_new f1 (by unfold rt; omega) (by unfold rt; omega)
  · simp (disch := omega) only [am_up_eq, am_up_nl, am_up_ni, k10]
  · dsimp only
    rw [if_neg (by omega)]
/-- put: the reader is not over -/
theorem bcl_put0 {C : am_M} {b fm to td wn tw o mo mk n t v : Int} {V : Int → Int} (hb : 0 ≤ b) (hb2 : b < 60) (hto : 0 ≤ to) (h : bcl C b fm to td wn tw o mo mk n V t) (hn : n < 2000000000) (ht : 0 ≤ t) (hto2 : t + o = n) (ho : o < 1000) (hov : ¬ (C (15 + 256 * to) 8 = 4 ∨ C (15 + 256 * to) 8 = 5)) :
    ∃ C', am_evm am_PP nX0_put [(2, 10 + 256 * b), (1, v)] C = some (0, C') ∧ fr (bt b) C C' ∧ bcl C' b fm to td wn tw (o + 1) (if mo < o + 1 then o + 1 else mo) (am_w64 (am_w64 (31 * mk) + v)) (n + 1) (fun k => if k = n then v else V k) t := by
  obtain ⟨h0, h1, h2, h3, h4, h5, h6, h10, h11, hrow, hring⟩ := h
  obtain ⟨C1, e1, r1, f1⟩ := row_append (v := v) (rok_b hb hb2) hrow hn
  have k10 : ∀ i, C1 (10 + 256 * b) i = C (10 + 256 * b) i := fun i => fr_at f1 (by unfold rt; omega) (by omega)
  have k15 : C1 (15 + 256 * to) 8 = C (15 + 256 * to) 8 := fr_at f1 (by unfold rt; omega) (by omega)
  have kr : ∀ L i, rt (30 + 256 * b) L → am_up C1 (10 + 256 * b) 11 (am_w64 (am_w64 (31 * mk) + v)) L i = C1 L i := fun L i q => am_up_nl _ _ _ _ _ _ (by unfold rt at q; omega)
  have rg1 : ring (am_up C1 (10 + 256 * b) 11 (am_w64 (am_w64 (31 * mk) + v))) b o (fun k => V (t + k)) := by
    refine ring_ext hring (fun L i p q => ?_) (fun L p q => ?_) (fun i p q => ?_) (fun k p q => rfl)
    · simp (disch := omega) only [am_up_eq, am_up_nl, am_up_ni]
      exact fr_at f1 (by unfold rt; omega) (by omega)
    · simp (disch := omega) only [am_up_eq, am_up_nl, am_up_ni]
      exact fr_new f1 (by unfold rt; omega) (by unfold rt; omega)
    · simp (disch := omega) only [am_up_eq, am_up_nl, am_up_ni, k10]
  obtain ⟨C2, e2, r2, f2, m2, i2⟩ := ring_lay (v := v) hb hb2 rg1 ho
  simp (disch := omega) only [be_X0_put_m, be_X0_put_0, be_X0_put_1, be_X0_put_2, gf_10, pf_10, Option.bind_some, cond_true, cond_false, decide_true, decide_false, Bool.not_true, Bool.not_false, ite_true, ite_false, and_self, true_and, and_true, decide_eq_true_eq, Int.reduceEq, Int.reduceLT, Int.reduceLE, Int.reduceNe, lcmp_z, lcmp_le, lcmp_ge, lcmp_lt, lcmp_gt, h1, cls_30, pos_30, cls_10, pos_10, e1, k10, h11, h3, am_up_eq, am_up_nl, am_up_ni, cls_15, pos_15, cl_isOver hto, k15, hov, e2]
  have f3 : fr (bt b) C C2 := fr_trans (fr_up (Or.inl rfl) (fr_mono (fun L q => rt_bt q) f1)) (fr_mono (fun L q => rgt_bt q) f2)
  refine ⟨_, rfl, f3, ?_⟩
  refine ⟨?_, ?_, ?_, ?_, ?_, ?_, ?_, ?_, ?_, row_ext (rok_b hb hb2) r1 (fun L i q => ?_) (fun L q => ?_) (fun _ _ _ _ => rfl), ring_ext r2 (fun L i p q => rfl) (fun L p q => rfl) (fun i p q => rfl) (fun k p q => ?_)⟩
  · rw [i2 0 (by omega)]; simp (disch := omega) only [am_up_eq, am_up_nl, am_up_ni, k10, h0]
  · rw [i2 1 (by omega)]; simp (disch := omega) only [am_up_eq, am_up_nl, am_up_ni, k10, h1]
  · rw [i2 2 (by omega)]; simp (disch := omega) only [am_up_eq, am_up_nl, am_up_ni, k10, h2]
  · rw [i2 3 (by omega)]; simp (disch := omega) only [am_up_eq, am_up_nl, am_up_ni, k10, h3]
  · rw [i2 4 (by omega)]; simp (disch := omega) only [am_up_eq, am_up_nl, am_up_ni, k10, h4]
  · rw [i2 5 (by omega)]; simp (disch := omega) only [am_up_eq, am_up_nl, am_up_ni, k10, h5]
  · rw [i2 6 (by omega)]; simp (disch := omega) only [am_up_eq, am_up_nl, am_up_ni, k10, h6]
  · rw [m2]; simp (disch := omega) only [am_up_eq, am_up_nl, am_up_ni, k10, h10]
  · rw [i2 11 (by omega)]; simp (disch := omega) only [am_up_eq, am_up_nl, am_up_ni]
  · rw [fr_at f2 (by unfold rt at q; unfold rgt; omega) (by unfold rt at q; omega)]; exact kr L i q
  · rw [fr_new f2 (by unfold rgt; omega) (by unfold rt at q; unfold rgt; omega)]; exact am_up_nl _ _ _ _ _ _ (by omega)
  · dsimp only
    by_cases c : k = o
    · rw [if_pos (by omega), if_pos c]
    · rw [if_neg (by omega), if_neg c]
theorem bcl_take {C : am_M} {b fm to td wn tw o mo mk n t : Int} {V : Int → Int} (hb : 0 ≤ b) (hb2 : b < 60) (h : bcl C b fm to td wn tw o mo mk n V t) (ho : 0 < o) :
    ∃ C', am_evm am_PP nX0_take [(2, 10 + 256 * b)] C = some (V t, C') ∧ fr (bt b) C C' ∧ bcl C' b fm to td wn tw (o - 1) mo mk n V (t + 1) := by
  obtain ⟨h0, h1, h2, h3, h4, h5, h6, h10, h11, hrow, hring⟩ := h
  obtain ⟨C2, e2, r2, f2, i2⟩ := ring_take hb hb2 hring ho
  refine ⟨C2, ?_, fr_mono (fun L q => rgt_bt q) f2, ?_⟩
  · rw [e2, Int.add_zero]
  refine ⟨?_, ?_, ?_, ?_, ?_, ?_, ?_, ?_, ?_, row_ext (rok_b hb hb2) hrow (fun L i q => ?_) (fun L q => ?_) (fun _ _ _ _ => rfl), ring_ext r2 (fun L i p q => rfl) (fun L p q => rfl) (fun i p q => rfl) (fun k p q => ?_)⟩
  · rw [i2 0 (by omega)]; exact h0
  · rw [i2 1 (by omega)]; exact h1
  · rw [i2 2 (by omega)]; exact h2
  · rw [i2 3 (by omega)]; exact h3
  · rw [i2 4 (by omega)]; exact h4
  · rw [i2 5 (by omega)]; exact h5
  · rw [i2 6 (by omega)]; exact h6
  · rw [i2 10 (by omega)]; exact h10
  · rw [i2 11 (by omega)]; exact h11
  · exact fr_at f2 (by unfold rt at q; unfold rgt; omega) (by unfold rt at q; omega)
  · exact fr_new f2 (by unfold rgt; omega) (by unfold rt at q; unfold rgt; omega)
  · rw [show t + 1 + k = t + (k + 1) by omega]
theorem bcl_restart {C : am_M} {b fm to td wn tw o mo mk n t : Int} {V V' : Int → Int} {t' : Int} (hb : 0 ≤ b) (hb2 : b < 60) (h : bcl C b fm to td wn tw o mo mk n V t) :
    ∃ C', am_evm am_PP nX0_restart [(2, 10 + 256 * b)] C = some (0, C') ∧ fr (bt b) C C' ∧ bcl C' b fm to td td 0 0 0 7 0 V' t' := by
  obtain ⟨h0, h1, h2, h3, h4, h5, h6, h10, h11, hrow, hring⟩ := h
  simp (disch := omega) only [be_X0_restart_m, be_X0_restart_0, be_X3_empty_m, be_X3_empty_0, gf_10, pf_10, pf_30, Option.bind_some, cond_true, cond_false, decide_true, decide_false, Bool.not_true, Bool.not_false, ite_true, ite_false, and_self, true_and, and_true, decide_eq_true_eq, Int.reduceEq, Int.reduceLT, Int.reduceLE, Int.reduceNe, lcmp_z, lcmp_le, lcmp_ge, lcmp_lt, lcmp_gt, h1, h4, cls_30, pos_30, am_up_eq, am_up_nl, am_up_ni]
  refine ⟨_, rfl, ?_, ?_, ?_, ?_, ?_, ?_, ?_, ?_, ?_, ?_, row_ext (f := V') (rok_b hb hb2) (row_empty (f' := V') (rok_b hb hb2) hrow) (fun L i q => ?_) (fun L q => ?_) (fun _ _ _ _ => rfl), ?_⟩
  · exact fr_up (Or.inr (Or.inl ⟨by omega, by omega⟩)) (fr_up (Or.inl rfl) (fr_up (Or.inl rfl) (fr_up (Or.inl rfl) (fr_up (Or.inl rfl) (fr_up (Or.inl rfl) (fr_up (Or.inl rfl) (fr_refl _ _)))))))
  · simp (disch := omega) only [am_up_eq, am_up_nl, am_up_ni, h0]
  · simp (disch := omega) only [am_up_eq, am_up_nl, am_up_ni, h1]
  · simp (disch := omega) only [am_up_eq, am_up_nl, am_up_ni, h2]
  · simp (disch := omega) only [am_up_eq, am_up_nl, am_up_ni, h3]
  · simp (disch := omega) only [am_up_eq, am_up_nl, am_up_ni, h4]
  · simp (disch := omega) only [am_up_eq, am_up_nl, am_up_ni, h5]
  · simp (disch := omega) only [am_up_eq, am_up_nl, am_up_ni, h6]
  · simp (disch := omega) only [am_up_eq, am_up_nl, am_up_ni]
  · simp (disch := omega) only [am_up_eq, am_up_nl, am_up_ni]
  · unfold rt at q
    by_cases e : L = 30 + 256 * b
    · subst e
      by_cases e2 : i = 1
      · subst e2; simp (disch := omega) only [am_up_eq, am_up_nl, am_up_ni]
      · simp (disch := omega) only [am_up_eq, am_up_nl, am_up_ni]
    · simp (disch := omega) only [am_up_eq, am_up_nl, am_up_ni]
  · unfold rt at q
    simp (disch := omega) only [am_up_eq, am_up_nl, am_up_ni]
  · obtain ⟨g, hd, g0, g1, e7, e8, e9, p1, p2, o0, o1, hf, hv⟩ := hring
    obtain ⟨q1, q2, q3, q4⟩ := gcap_b g0 g1
    refine ⟨g, 0, g0, g1, ?_, ?_, ?_, by omega, by omega, by omega, by omega, fun g' x y => ?_, fun k x y => by omega⟩
    · simp (disch := omega) only [am_up_eq, am_up_nl, am_up_ni, e7]
    · simp (disch := omega) only [am_up_eq, am_up_nl, am_up_ni]
    · simp (disch := omega) only [am_up_eq, am_up_nl, am_up_ni]
    · simp (disch := omega) only [am_up_eq, am_up_nl, am_up_ni, hf g' x y]
theorem bcl_widen {C : am_M} {b fm to td wn tw o mo mk n t : Int} {V : Int → Int} (hb : 0 ≤ b) (hb2 : b < 60) (h : bcl C b fm to td wn tw o mo mk n V t) (hw : 0 ≤ wn) (hw2 : wn ≤ 1000) :
    ∃ C', am_evm am_PP nX0_widen [(2, 10 + 256 * b)] C = some (0, C') ∧ fr (bt b) C C' ∧ bcl C' b fm to td (if 1000 < 2 * wn then 1000 else 2 * wn) (am_w32 (tw + 1)) o mo mk n V t := by
  obtain ⟨h0, h1, h2, h3, h4, h5, h6, h10, h11, hrow, hring⟩ := h
  simp (disch := omega) only [be_X0_widen_m, be_X0_widen_0, gf_10, pf_10, Option.bind_some, cond_true, cond_false, decide_true, decide_false, Bool.not_true, Bool.not_false, ite_true, ite_false, and_self, true_and, and_true, decide_eq_true_eq, Int.reduceEq, Int.reduceLT, Int.reduceLE, Int.reduceNe, lcmp_z, lcmp_le, lcmp_ge, lcmp_lt, lcmp_gt, h5, h6, am_up_eq, am_up_nl, am_up_ni, am_w32_ok (2 * wn) (by omega) (by omega)]
  refine ⟨_, rfl, ?_, ?_, ?_, ?_, ?_, ?_, ?_, ?_, ?_, ?_, row_ext (rok_b hb hb2) hrow (fun L i q => ?_) (fun L q => ?_) (fun _ _ _ _ => rfl), ring_ext hring (fun L i p q => ?_) (fun L p q => ?_) (fun i p q => ?_) (fun k p q => rfl)⟩
  · exact fr_up (Or.inl rfl) (fr_up (Or.inl rfl) (fr_refl _ _))
  · simp (disch := omega) only [am_up_eq, am_up_nl, am_up_ni, h0]
  · simp (disch := omega) only [am_up_eq, am_up_nl, am_up_ni, h1]
  · simp (disch := omega) only [am_up_eq, am_up_nl, am_up_ni, h2]
  · simp (disch := omega) only [am_up_eq, am_up_nl, am_up_ni, h3]
  · simp (disch := omega) only [am_up_eq, am_up_nl, am_up_ni, h4]
  · simp (disch := omega) only [am_up_eq, am_up_nl, am_up_ni]
  · simp (disch := omega) only [am_up_eq, am_up_nl, am_up_ni]
  · simp (disch := omega) only [am_up_eq, am_up_nl, am_up_ni, h10]
  · simp (disch := omega) only [am_up_eq, am_up_nl, am_up_ni, h11]
  · unfold rt at q; simp (disch := omega) only [am_up_eq, am_up_nl, am_up_ni]
  · unfold rt at q; simp (disch := omega) only [am_up_eq, am_up_nl, am_up_ni]
  · simp (disch := omega) only [am_up_eq, am_up_nl, am_up_ni]
  · simp (disch := omega) only [am_up_eq, am_up_nl, am_up_ni]
  · simp (disch := omega) only [am_up_eq, am_up_nl, am_up_ni]
