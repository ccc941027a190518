/-! an act: a pattern is written -/
theorem rb_put {R R4 : am_M} {b t : Int} {h V : Int → Int} (hb : rb R b h V t) (hin : ∀ k k', 0 ≤ k → k < R 2109 b → 0 ≤ k' → k' < R 2109 b → h k = h k' → k = k') (c0 : 0 ≤ R 17 29) (g29 : R4 17 29 = R 17 29 + 1) (g69 : R4 69 (R 17 29) = R 17 47) (g2877 : R4 2877 b = R 17 29) (g2109 : R4 2109 b = R 2109 b + 1) (ga : R 2877 b < 0 → R4 2621 b = R 17 29) (gb : 0 ≤ R 2877 b → R4 2621 b = R 2621 b ∧ R4 70 (R 2877 b) = R 17 29)
    (gc : (R4 1597 b = R 1597 b ∧ R4 3133 b = R 3133 b) ∨ (t + R 1597 b = R 2109 b ∧ R4 1597 b = R 1597 b + 1 ∧ R4 3133 b = (if R 1597 b = 0 then R 17 29 else R 3133 b))) (g69' : ∀ i, i ≠ R 17 29 → R4 69 i = R 69 i) (g70 : ∀ i, i ≠ R 17 29 → i ≠ R 2877 b → R4 70 i = R 70 i) :
    rb R4 b (fun k => if k = R 2109 b then R 17 29 else h k) (fun k => if k = R 2109 b then R 17 47 else V k) t := by
  obtain ⟨a1, a2, a3, a4, a5, a6, a7, a8, a9⟩ := hb
  have hl : R 2109 b = 0 ∨ (0 < R 2109 b ∧ R 2877 b = h (R 2109 b - 1) ∧ 0 ≤ R 2877 b) := by
    by_cases q : R 2109 b = 0
    · exact Or.inl q
    · have := a6 (by omega)
      have z := a7 (R 2109 b - 1) (by omega) (by omega)
      exact Or.inr ⟨by omega, this.2, by omega⟩
  unfold rb
  rw [g2109, g29]
  dsimp only
  refine ⟨by omega, by rcases gc with q | q <;> omega, a3, by rcases gc with q | q <;> omega, fun q => by omega, fun _ => ⟨?_, ?_⟩, fun k k0 k1 => ?_, fun k k0 k1 => ?_, fun q => ?_⟩
  · rcases hl with q | ⟨q1, q2, q3⟩
    · rw [if_pos q.symm]
      exact ga (by have := a5 q; omega)
    · rw [if_neg (by omega), (gb q3).1]
      exact (a6 q1).1
  · rw [show R 2109 b + 1 - 1 = R 2109 b by omega, if_pos rfl]; exact g2877
  · by_cases e : k = R 2109 b
    · rw [if_pos e, if_pos e]; exact ⟨by omega, by omega, g69⟩
    · rw [if_neg e, if_neg e]
      obtain ⟨x, y, z⟩ := a7 k k0 (by omega)
      exact ⟨x, by omega, by rw [g69' _ (by omega)]; exact z⟩
  · rw [if_neg (by omega)]
    obtain ⟨x, y, z⟩ := a7 k k0 (by omega)
    rcases hl with q | ⟨q1, q2, q3⟩
    · omega
    · by_cases e : k + 1 = R 2109 b
      · rw [if_pos e, show k = R 2109 b - 1 by omega, ← q2]; exact (gb q3).2
      · rw [if_neg e, g70 _ (by omega) ?_]
        · exact a8 k k0 (by omega)
        · rw [q2]
          intro q
          have := hin k (R 2109 b - 1) k0 (by omega) (by omega) (by omega) q
          omega
  · rcases gc with ⟨p1, p2⟩ | ⟨p0, p1, p2⟩
    · rw [if_neg (by omega), p2]; exact a9 (by omega)
    · rw [p2]
      by_cases e : R 1597 b = 0
      · rw [if_pos e, if_pos (by omega)]
      · rw [if_neg e, if_neg (by omega)]; exact a9 (by omega)
