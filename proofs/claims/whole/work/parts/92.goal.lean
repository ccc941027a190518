/-! from the start memory: what is owed of the small machine -/
theorem l7_FR : ∀ X ∈ l7, FR X ∧ X ≠ 17 := by
  unfold FR
  decide
theorem the_goal : am_Goal := by
  intro xs L hL
  have z : ∀ l i, l ≠ 1 → l ≠ 2 → l ≠ 3 → am_M0 xs L l i = 0 := fun l i a b c => am_M0_z a b c
  obtain ⟨M1, a1, ⟨a2, a3, a4, a5, a6, a7, a8⟩, a9, a10, a11, a12, a13⟩ := x6_init (M := am_alloc (am_M0 xs L) 16) (fun L' q => by
    rw [am_alloc_mn _ _ _ (by unfold is6 at q; omega)]
    exact z _ _ (by omega) (by omega) (by omega))
  have f17 : M1 (-1) 17 = 0 := by
    rw [a13 17 (by unfold is6; omega), am_alloc_mn _ _ _ (by omega)]
    exact z _ _ (by omega) (by omega) (by omega)
  obtain ⟨M2, b1, b2, b3, b4, b5⟩ := x7_init (M := am_alloc M1 17) (fun L' q => by
    have h := l7_FR L' q
    unfold FR at h
    rw [am_alloc_mn _ _ _ (by omega), a13 L' (by unfold is6; omega), am_alloc_mn _ _ _ (by omega)]
    exact z _ _ (by omega) (by omega) (by omega))
  have c16 : ∀ i, M2 16 i = M1 16 i := fun i => by
    rw [b4 16 i (by unfold FR; omega) (by omega) (by omega), am_alloc_nl _ _ _ _ (by omega) (by omega) (by omega)]
  have c0 : ∀ i, 4 ≤ i → M2 16 i = 0 := fun i q => by
    rw [c16, a9 i q, am_alloc_z _ _ _ (by omega)]
  have cx : ∀ l i, 0 ≤ l → ¬ FR l → ¬ is6 l → l ≠ 16 → M2 l i = am_M0 xs L l i := fun l i p q r s => by
    rw [b4 l i q (by omega) (by omega), am_alloc_nl _ _ _ _ (by omega) (by omega) (by unfold FR at q; omega), a12 l i p r s, am_alloc_nl _ _ _ _ (by omega) (by omega) s]
  have cm : ∀ L', ¬ FR L' → ¬ is6 L' → L' ≠ 16 → M2 (-1) L' = 0 := fun L' p q r => by
    rw [b5 L' (fun h => p (l7_FR L' h).1), am_alloc_mn _ _ _ (by unfold FR at p; omega), a13 L' q, am_alloc_mn _ _ _ r]
    exact z _ _ (by omega) (by omega) (by omega)
  have r0 : M2 17 0 = 0 := by rw [b3 0 (by omega), am_alloc_z _ _ _ (by omega)]
  have r11 : M2 17 11 = 0 := by rw [b3 11 (by omega), am_alloc_z _ _ _ (by omega)]
  have r17 : M2 17 17 = 0 := by rw [b3 17 (by omega), am_alloc_z _ _ _ (by omega)]
  have e50 : ∀ i, M2 50 i = 0 := fun i => by
    rw [b4 50 i (by unfold FR; omega) (by omega) (by omega), am_alloc_nl _ _ _ _ (by omega) (by omega) (by omega), a10]
  have e51 : ∀ i, M2 51 i = 0 := fun i => by
    rw [b4 51 i (by unfold FR; omega) (by omega) (by omega), am_alloc_nl _ _ _ _ (by omega) (by omega) (by omega), a11]
  have e12 : ∀ i, M2 12 i = M1 12 i := fun i => by
    rw [b4 12 i (by unfold FR; omega) (by omega) (by omega), am_alloc_nl _ _ _ _ (by omega) (by omega) (by omega)]
  have hI : INV M2 M2 := by
    refine ⟨?_, Or.inl ⟨b2, ?_, ⟨fun u u0 u1 => by omega, fun d d0 d1 => by omega⟩, ?_, r17, c0 9 (by omega), c0 7 (by omega), c0 8 (by omega), fun d d0 d1 => by omega, fun u u0 u1 => by omega⟩⟩
    · rw [c0 6 (by omega), opc, r0]
      rfl
    · unfold hall
      rw [c16 0, c16 1, c16 2, c16 3, e12 0, e12 1, e12 2, c0 4 (by omega), c0 5 (by omega), r0, r11]
      refine ⟨a2, a3, a4, a5, a6, a7, a8, rfl, rfl, by omega, by omega, by omega, by omega, fun k k0 k1 => ?_⟩
      rw [cx 2 k (by omega) (by unfold FR; omega) (by unfold is6; omega) (by omega), cx 3 k (by omega) (by unfold FR; omega) (by unfold is6; omega) (by omega)]
      have h : ∀ j : Nat, j < 14 → am_pin.getD j 0 = k_in (j : Int) ∧ am_pout.getD j 0 = k_out (j : Int) := by
        unfold k_in k_out
        decide
      obtain ⟨h1, h2⟩ := h k.toNat (by omega)
      rw [show ((k.toNat : Nat) : Int) = k by omega] at h1 h2
      constructor
      · unfold am_M0
        rw [if_neg (by omega), if_pos rfl]; exact h1
      · unfold am_M0
        rw [if_neg (by omega), if_neg (by omega), if_pos rfl]; exact h2
    · rw [r0, r11]
      refine ⟨fun w w0 w1 => Or.inl ⟨e50 w, fun L' q => cm L' ?_ ?_ ?_⟩, fun b b0 b1 => Or.inl ⟨e51 b, fun L' q => cm L' ?_ ?_ ?_⟩⟩
      · unfold wlab at q; unfold FR; omega
      · unfold wlab at q; unfold is6; omega
      · unfold wlab at q; omega
      · unfold bt at q; unfold FR; omega
      · unfold bt at q; unfold is6; omega
      · unfold bt at q; omega
  have hl : M2 1 (-1) = L := by
    rw [cx 1 _ (by omega) (by unfold FR; omega) (by unfold is6; omega) (by omega)]
    exact am_M0_len (xs := xs)
  obtain ⟨Mf, k⟩ := law_loop (L + 1) 0 M2 hI (by omega) (by omega) (by omega) (by omega)
  refine ⟨Mf, ?_⟩
  rw [← k]
  have f16 : am_M0 xs L (-1) 16 = 0 := z _ _ (by omega) (by omega) (by omega)
  simp (disch := first | decide | assumption) only [be_L_law_0, Option.bind_some, cond_true, cond_false, decide_true, decide_false, Bool.not_true, Bool.not_false, ite_true, ite_false, and_self, true_and, and_true, or_self, true_or, or_true, false_or, or_false, decide_eq_true_eq, Int.reduceAdd, Int.reduceSub, Int.reduceMul, Int.reduceNeg, Int.reduceEq, Int.reduceLT, Int.reduceLE, Int.reduceNe, lcmp_z, lcmp_le, lcmp_ge, lcmp_lt, lcmp_gt, if_neg, nz_16, nz_17, a1, b1]
