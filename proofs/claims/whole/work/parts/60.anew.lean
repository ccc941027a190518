/-! the hall begins anew: its bands -/
def bnew (C R : am_M) (d : Int) : Prop := ∀ V t, bcl C d (R 61 d) (R 317 d) (R 1085 d) (R 1085 d) 0 0 0 7 0 V t
/-- a band's static side -/
def bst (C R : am_M) (d : Int) : Prop := ∃ wn tw o mo mk n V t, bcl C d (R 61 d) (R 317 d) (R 1085 d) wn tw o mo mk n V t
def twB (B L i : Int) : Prop := ∃ d, 0 ≤ d ∧ d < B ∧ (bt d L ∨ L = -2 ∨ (L = -1 ∧ bt d i))
theorem bnew_of {C R : am_M} {d : Int} {V : Int → Int} {t : Int} (d0 : 0 ≤ d) (d1 : d < 60) (h : bcl C d (R 61 d) (R 317 d) (R 1085 d) (R 1085 d) 0 0 0 7 0 V t) : bnew C R d := fun V' t' => bcl_ext d0 d1 h (fun _ _ _ => rfl) (fun _ _ => rfl) (fun k a b _ => by omega) (fun k a b => by omega)
theorem fr_btw {b : Int} {C C' : am_M} (h : fr (bt b) C C') : fr2 (fun L i => bt b L ∨ L = -2 ∨ (L = -1 ∧ bt b i)) C C' := fun L i q => h L i (fun a => q (Or.inl a)) (fun a => q (Or.inr (Or.inl a))) (fun a c => q (Or.inr (Or.inr ⟨a, c⟩)))
theorem bcl_other {C C' : am_M} {b d fm to td wn tw o mo mk n t : Int} {V : Int → Int} (d0 : 0 ≤ d) (d1 : d < 60) (hne : d ≠ b) (f : fr (bt b) C C') (h : bcl C d fm to td wn tw o mo mk n V t) : bcl C' d fm to td wn tw o mo mk n V t :=
  bcl_ext d0 d1 h (fun L i q => f L i (by unfold bt at q ⊢; omega) (by unfold bt at q; omega) (fun e => by unfold bt at q; omega)) (fun L q => f (-1) L (by unfold bt; omega) (by omega) (fun _ => by unfold bt at q ⊢; omega)) (fun _ _ _ _ => rfl) (fun _ _ _ => rfl)
theorem rb_all {R : am_M} {B : Int} (hB : B ≤ 60) (hto : 0 ≤ B) : ∀ (n : Nat) (C : am_M) (i : Int), 0 ≤ i → i + n = B → C 16 1 = 51 → C 16 5 = B → (∀ d, 0 ≤ d → d < B → C 51 d = 10 + 256 * d ∧ bst C R d) → (∀ d, 0 ≤ d → d < i → bnew C R d) → ∃ C', am_ev am_PP nX6_restartAll 4 [16, i] [] C = some (0, C') ∧ fr2 (twB B) C C' ∧ (∀ d, 0 ≤ d → d < B → bnew C' R d) := by
  intro n
  induction n with
  | zero =>
    intro C i i0 i1 g1 g5 hu hd
    refine ⟨C, ?_, fr2_refl _ _, fun u a b => hd u a (by omega)⟩
    simp (disch := omega) only [be_X6_restartAll_4, be_X6_restartAll_6, Option.bind_some, cond_true, cond_false, decide_true, decide_false, Bool.not_true, Bool.not_false, ite_true, ite_false, and_self, true_and, and_true, or_self, true_or, or_true, false_or, or_false, decide_eq_true_eq, Int.reduceAdd, Int.reduceSub, Int.reduceMul, Int.reduceNeg, Int.reduceEq, Int.reduceLT, Int.reduceLE, Int.reduceNe, lcmp_z, lcmp_le, lcmp_ge, lcmp_lt, lcmp_gt, gf_16, g5, decide_eq_true (show B ≤ i by omega)]
  | succ n ih =>
    intro C i i0 i1 g1 g5 hu hd
    obtain ⟨h51, wn, tw, o, mo, mk, n', V, t, hb⟩ := hu i i0 (by omega)
    obtain ⟨C1, a1, a2, a3⟩ := bcl_restart (V' := V) (t' := 0) i0 (by omega) hb
    have k : ∀ L j, 0 ≤ L → ¬ bt i L → C1 L j = C L j := fun L j q p => fr_at a2 p q
    obtain ⟨C2, b1, b2, b3⟩ := ih C1 (i + 1) (by omega) (by omega) ((k _ _ (by omega) (by unfold bt; omega)).trans g1) ((k _ _ (by omega) (by unfold bt; omega)).trans g5) (fun d p q => by
      refine ⟨(k _ _ (by omega) (by unfold bt; omega)).trans (hu d p q).1, ?_⟩
      by_cases e : d = i
      · subst e; exact ⟨_, _, _, _, _, _, _, _, a3⟩
      · obtain ⟨_, wn', tw', o', mo', mk', n'', V', t', hb'⟩ := hu d p q
        exact ⟨_, _, _, _, _, _, _, _, bcl_other p (by omega) e a2 hb'⟩) (fun d p q => by
      by_cases e : d = i
      · subst e; exact bnew_of p (by omega) a3
      · exact fun V' t' => bcl_other p (by omega) e a2 (hd d p (by omega) V' t'))
    refine ⟨C2, ?_, fr2_trans (fr2_mono (fun L j q => ⟨i, i0, by omega, q⟩) (fr_btw a2)) b2, b3⟩
    rw [← b1]
    have beg : am_ev am_PP nX6_restartAll 4 [16, i] [] C = am_ev am_PP nX6_restartAll 5 [16, i] [] C := by
      simp (disch := omega) only [be_X6_restartAll_4, Option.bind_some, cond_true, cond_false, decide_true, decide_false, Bool.not_true, Bool.not_false, ite_true, ite_false, and_self, true_and, and_true, or_self, true_or, or_true, false_or, or_false, decide_eq_true_eq, Int.reduceAdd, Int.reduceSub, Int.reduceMul, Int.reduceNeg, Int.reduceEq, Int.reduceLT, Int.reduceLE, Int.reduceNe, lcmp_z, lcmp_le, lcmp_ge, lcmp_lt, lcmp_gt, gf_16, g5, decide_eq_false (show ¬ B ≤ i by omega)]
    rw [beg]
    simp (disch := omega) only [be_X6_restartAll_5, Option.bind_some, cond_true, cond_false, decide_true, decide_false, Bool.not_true, Bool.not_false, ite_true, ite_false, and_self, true_and, and_true, or_self, true_or, or_true, false_or, or_false, decide_eq_true_eq, Int.reduceAdd, Int.reduceSub, Int.reduceMul, Int.reduceNeg, Int.reduceEq, Int.reduceLT, Int.reduceLE, Int.reduceNe, lcmp_z, lcmp_le, lcmp_ge, lcmp_lt, lcmp_gt, gf_15, cls_15, pos_15, gf_10, cls_10, pos_10, gf_16, g1, ra_51, h51, a1, am_w32_ok]
