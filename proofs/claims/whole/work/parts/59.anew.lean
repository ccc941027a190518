/-! the hall begins anew: its weavers -/
/-- a weaver that has just begun -/
def wnew (C R : am_M) (w : Int) : Prop := C (15 + 256 * w) 12 = 0 ∧ C (15 + 256 * w) 13 = 0 ∧ C (15 + 256 * w) 14 = w ∧ (R 309 w = 9 → ∀ f, row C (20 + 256 * w) 0 f) ∧ ws C R w
theorem one_restart {C R : am_M} {w : Int} (w0 : 0 ≤ w) (w1 : w < 40) (hs : sw C R w) (hi : ri R w) : ∃ C', am_evm am_PP nX5_restart [(2, 15 + 256 * w)] C = some (0, C') ∧ fr2 (twR w) C C' ∧ sw C' R w ∧ wnew C' R w := by
  obtain ⟨hC, hk, _, _, _, _, _, _, _, _, _, har⟩ := id hs
  obtain ⟨C1, a1, a2, a3, a4⟩ := restart_pre (k := R 309 w) w0 w1 hC hk har
  have f1 : fr2 (twR w) C C1 := by
    by_cases q : R 309 w = 9
    · exact (a4 q).1
    · exact fr2_mono (fun _ _ => twQ_twR) (a3 q)
  have hs1 : sw C1 R w := sw_congr w0 w1 (fun L i q => f1 _ _ (by unfold wst at q; unfold twR twr twa; omega)) (fun _ _ _ => rfl) (fun q n f r => row_other w0 w1 (fun L i p => a3 q _ _ (by unfold rt at p; unfold twQ twa; omega)) (fun L p => a3 q _ _ (by unfold rt at p; unfold twQ twa; omega)) r) (fun q => ⟨0, fun _ => 0, (a4 q).2 _⟩) hs
  obtain ⟨C2, b1, b2, b3⟩ := restart_two w0 w1 hs1 hi a2
  have rows : ∀ n f, row C1 (20 + 256 * w) n f → row C2 (20 + 256 * w) n f := fun n f r => row_other w0 w1 (fun L i p => b2 _ _ (by unfold rt at p; unfold twa; omega)) (fun L p => b2 _ _ (by unfold rt at p; unfold twa; omega)) r
  have hs2 : sw C2 R w := sw_congr w0 w1 (fun L i q => b2 _ _ (by unfold wst at q; unfold twa; omega)) (fun _ _ _ => rfl) (fun q n f r => rows n f r) (fun q => ⟨0, fun _ => 0, rows _ _ ((a4 q).2 _)⟩) hs1
  obtain ⟨d1, d2, d3, _⟩ := a2
  exact ⟨C2, by rw [a1]; exact b1, fr2_trans f1 (fr2_mono (fun _ _ q => Or.inl (twa_twr q)) b2), hs2, by rw [b2 _ _ (by unfold twa; omega)]; exact d1, by rw [b2 _ _ (by unfold twa; omega)]; exact d2, by rw [b2 _ _ (by unfold twa; omega)]; exact d3, fun q f => rows _ _ ((a4 q).2 f), b3⟩
theorem sw_other {C C' R : am_M} {u w : Int} (u0 : 0 ≤ u) (u1 : u < 40) (hne : u ≠ w) (f : fr2 (twR w) C C') (h : sw C R u) : sw C' R u := by
  have rows : ∀ n g, row C (20 + 256 * u) n g → row C' (20 + 256 * u) n g := fun n g r => row_other u0 u1 (fun L i p => f _ _ (by unfold rt at p; unfold twR twr twa; omega)) (fun L p => f _ _ (by unfold rt at p; unfold twR twr twa; omega)) r
  refine sw_congr u0 u1 (fun L i q => f _ _ (by unfold wst at q; unfold twR twr twa; omega)) (fun _ _ _ => rfl) (fun _ n g r => rows n g r) (fun _ => ?_) h
  obtain ⟨_, _, _, _, _, _, _, _, _, _, _, n, g, r⟩ := h
  exact ⟨n, g, rows n g r⟩
theorem wnew_other {C C' R : am_M} {u w : Int} (u0 : 0 ≤ u) (u1 : u < 40) (hne : u ≠ w) (f : fr2 (twR w) C C') (hs : sw C R u) (h : wnew C R u) : wnew C' R u := by
  obtain ⟨a, b, c, d, e⟩ := h
  refine ⟨(f _ _ (by unfold twR twr twa; omega)).trans a, (f _ _ (by unfold twR twr twa; omega)).trans b, (f _ _ (by unfold twR twr twa; omega)).trans c, fun q g => ?_, ?_⟩
  · exact row_other u0 u1 (fun L i p => f _ _ (by unfold rt at p; unfold twR twr twa; omega)) (fun L p => f _ _ (by unfold rt at p; unfold twR twr twa; omega)) (d q g)
  · exact ws_congr hs (fun L i q => f _ _ (by unfold twa at q; unfold twR twr twa; omega)) (fun _ _ _ => rfl) rfl e
/-- what the loop over all weavers may touch -/
def twW (W L i : Int) : Prop := ∃ w, 0 ≤ w ∧ w < W ∧ twR w L i
theorem rw_all {R : am_M} {W : Int} (hW : W ≤ 40) : ∀ (n : Nat) (C : am_M) (i : Int), 0 ≤ i → i + n = W → C 16 0 = 50 → C 16 4 = W → (∀ u, 0 ≤ u → u < W → C 50 u = 15 + 256 * u ∧ sw C R u ∧ ri R u) → (∀ u, 0 ≤ u → u < i → wnew C R u) → ∃ C', am_ev am_PP nX6_restartAll 1 [16, i] [] C = am_ev am_PP nX6_restartAll 3 [16] [] C' ∧ fr2 (twW W) C C' ∧ (∀ u, 0 ≤ u → u < W → sw C' R u ∧ wnew C' R u) := by
  intro n
  induction n with
  | zero =>
    intro C i i0 i1 g0 g4 hu hd
    refine ⟨C, ?_, fr2_refl _ _, fun u a b => ⟨(hu u a b).2.1, hd u a (by omega)⟩⟩
    simp (disch := omega) only [be_X6_restartAll_1, Option.bind_some, cond_true, cond_false, decide_true, decide_false, Bool.not_true, Bool.not_false, ite_true, ite_false, and_self, true_and, and_true, or_self, true_or, or_true, false_or, or_false, decide_eq_true_eq, Int.reduceAdd, Int.reduceSub, Int.reduceMul, Int.reduceNeg, Int.reduceEq, Int.reduceLT, Int.reduceLE, Int.reduceNe, lcmp_z, lcmp_le, lcmp_ge, lcmp_lt, lcmp_gt, gf_16, g4, decide_eq_true (show W ≤ i by omega)]
  | succ n ih =>
    intro C i i0 i1 g0 g4 hu hd
    obtain ⟨h50, hs, hri⟩ := hu i i0 (by omega)
    obtain ⟨C1, a1, a2, a3, a4⟩ := one_restart i0 (by omega) hs hri
    obtain ⟨C2, b1, b2, b3⟩ := ih C1 (i + 1) (by omega) (by omega) ((a2 _ _ (by unfold twR twr twa; omega)).trans g0) ((a2 _ _ (by unfold twR twr twa; omega)).trans g4) (fun u p q => by
      refine ⟨(a2 _ _ (by unfold twR twr twa; omega)).trans (hu u p q).1, ?_, (hu u p q).2.2⟩
      by_cases e : u = i
      · subst e; exact a3
      · exact sw_other p (by omega) e a2 (hu u p q).2.1) (fun u p q => by
      by_cases e : u = i
      · subst e; exact a4
      · exact wnew_other p (by omega) e a2 (hu u p (by omega)).2.1 (hd u p (by omega)))
    refine ⟨C2, ?_, fr2_trans (fr2_mono (fun L j q => ⟨i, i0, by omega, q⟩) a2) b2, b3⟩
    rw [← b1]
    have beg : am_ev am_PP nX6_restartAll 1 [16, i] [] C = am_ev am_PP nX6_restartAll 2 [16, i] [] C := by
      simp (disch := omega) only [be_X6_restartAll_1, Option.bind_some, cond_true, cond_false, decide_true, decide_false, Bool.not_true, Bool.not_false, ite_true, ite_false, and_self, true_and, and_true, or_self, true_or, or_true, false_or, or_false, decide_eq_true_eq, Int.reduceAdd, Int.reduceSub, Int.reduceMul, Int.reduceNeg, Int.reduceEq, Int.reduceLT, Int.reduceLE, Int.reduceNe, lcmp_z, lcmp_le, lcmp_ge, lcmp_lt, lcmp_gt, gf_16, g4, decide_eq_false (show ¬ W ≤ i by omega)]
    rw [beg]
    simp (disch := omega) only [be_X6_restartAll_2, Option.bind_some, cond_true, cond_false, decide_true, decide_false, Bool.not_true, Bool.not_false, ite_true, ite_false, and_self, true_and, and_true, or_self, true_or, or_true, false_or, or_false, decide_eq_true_eq, Int.reduceAdd, Int.reduceSub, Int.reduceMul, Int.reduceNeg, Int.reduceEq, Int.reduceLT, Int.reduceLE, Int.reduceNe, lcmp_z, lcmp_le, lcmp_ge, lcmp_lt, lcmp_gt, gf_15, cls_15, pos_15, gf_10, cls_10, pos_10, gf_16, g0, ra_50, h50, a1, am_w32_ok]
