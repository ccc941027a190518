/-! all kinds together -/
def sw (C R : am_M) (w : Int) : Prop := cshape C w ∧ C (15 + 256 * w) 6 = R 309 w ∧ C (15 + 256 * w) 7 = R 565 w ∧ 0 ≤ R 309 w ∧ R 309 w ≤ 13 ∧ (R 309 w = 2 → 0 ≤ R 565 w ∧ R 565 w ≤ 20) ∧ (R 309 w = 5 → 1 ≤ R 565 w ∧ R 565 w ≤ 1000) ∧ (R 309 w = 11 → 1 ≤ R 565 w ∧ R 565 w ≤ 30) ∧ (R 309 w = 12 → 0 ≤ R 565 w ∧ R 565 w ≤ 1000) ∧ (R 309 w = 0 → row C (20 + 256 * w) (R 821 w) (fun k => R 68 (200 * w + k)) ∧ R 821 w ≤ 200) ∧ (R 309 w = 13 → st13 C R w) ∧ ∃ n f, row C (20 + 256 * w) n f
def wsn (C R : am_M) (w : Int) : Prop := (R 309 w = 0 ∧ ws0 C R w) ∨ ((R 309 w = 1 ∨ R 309 w = 3 ∨ R 309 w = 10) ∧ wsd C R w) ∨ (R 309 w = 2 ∧ ws2 C R w) ∨ (R 309 w = 4 ∧ ws4 C R w) ∨ (R 309 w = 5 ∧ ws5 C R w) ∨ (R 309 w = 6 ∧ ws6 C R w) ∨ (R 309 w = 7 ∧ ws7 C R w) ∨ (R 309 w = 8 ∧ ws8 C R w) ∨ (R 309 w = 9 ∧ ws9 C R w) ∨ (R 309 w = 11 ∧ ws11 C R w) ∨ (R 309 w = 12 ∧ ws12 C R w)
def ws (C R : am_M) (w : Int) : Prop := wsn C R w ∨ (R 309 w = 13 ∧ ws13 C R w)
def wl (C R : am_M) (w : Int) : Prop := wsn C R w ∨ (R 309 w = 13 ∧ wl13 C R w)
theorem wl_ws {C R : am_M} {w : Int} (h : wl C R w) : ws C R w := h.imp id (fun q => ⟨q.1, wl_ws13 q.2⟩)
theorem wsn_0 {C R : am_M} {w : Int} (hk : R 309 w = 0) (h : ws0 C R w) : wsn C R w := Or.inl ⟨hk, h⟩
theorem wsn_1 {C R : am_M} {w : Int} (hk : R 309 w = 1 ∨ R 309 w = 3 ∨ R 309 w = 10) (h : wsd C R w) : wsn C R w := Or.inr (Or.inl ⟨hk, h⟩)
theorem wsn_2 {C R : am_M} {w : Int} (hk : R 309 w = 2) (h : ws2 C R w) : wsn C R w := Or.inr (Or.inr (Or.inl ⟨hk, h⟩))
theorem wsn_4 {C R : am_M} {w : Int} (hk : R 309 w = 4) (h : ws4 C R w) : wsn C R w := Or.inr (Or.inr (Or.inr (Or.inl ⟨hk, h⟩)))
theorem wsn_5 {C R : am_M} {w : Int} (hk : R 309 w = 5) (h : ws5 C R w) : wsn C R w := Or.inr (Or.inr (Or.inr (Or.inr (Or.inl ⟨hk, h⟩))))
theorem wsn_6 {C R : am_M} {w : Int} (hk : R 309 w = 6) (h : ws6 C R w) : wsn C R w := Or.inr (Or.inr (Or.inr (Or.inr (Or.inr (Or.inl ⟨hk, h⟩)))))
theorem wsn_7 {C R : am_M} {w : Int} (hk : R 309 w = 7) (h : ws7 C R w) : wsn C R w := Or.inr (Or.inr (Or.inr (Or.inr (Or.inr (Or.inr (Or.inl ⟨hk, h⟩))))))
theorem wsn_8 {C R : am_M} {w : Int} (hk : R 309 w = 8) (h : ws8 C R w) : wsn C R w := Or.inr (Or.inr (Or.inr (Or.inr (Or.inr (Or.inr (Or.inr (Or.inl ⟨hk, h⟩)))))))
theorem wsn_9 {C R : am_M} {w : Int} (hk : R 309 w = 9) (h : ws9 C R w) : wsn C R w := Or.inr (Or.inr (Or.inr (Or.inr (Or.inr (Or.inr (Or.inr (Or.inr (Or.inl ⟨hk, h⟩))))))))
theorem wsn_11 {C R : am_M} {w : Int} (hk : R 309 w = 11) (h : ws11 C R w) : wsn C R w := Or.inr (Or.inr (Or.inr (Or.inr (Or.inr (Or.inr (Or.inr (Or.inr (Or.inr (Or.inl ⟨hk, h⟩)))))))))
theorem wsn_12 {C R : am_M} {w : Int} (hk : R 309 w = 12) (h : ws12 C R w) : wsn C R w := Or.inr (Or.inr (Or.inr (Or.inr (Or.inr (Or.inr (Or.inr (Or.inr (Or.inr (Or.inr (⟨hk, h⟩))))))))))
/-- the reference's cells of a weaver -/
def rcw (w L i : Int) : Prop := ((L = 309 ∨ L = 565 ∨ L = 821 ∨ L = 1077 ∨ L = 1589 ∨ L = 566 ∨ L = 822 ∨ L = 1845 ∨ L = 2869 ∨ L = 3125) ∧ i = w) ∨ L = 68 ∨ L = 64 ∨ L = 320 ∨ L = 576 ∨ (L = 67 ∧ 30 * w ≤ i ∧ i < 30 * w + 30) ∨ (L = 66 ∧ 4 * w ≤ i ∧ i < 4 * w + 4)
theorem wsn_congr {C C' R R' : am_M} {w : Int} (hC : ∀ L i, twa w L i → C' L i = C L i) (hR : ∀ L i, rcw w L i → R' L i = R L i) (h : wsn C R w) : wsn C' R' w := by
  have k8 : C' (15 + 256 * w) 8 = C (15 + 256 * w) 8 := hC _ _ (by unfold twa; omega)
  have k9 : C' (15 + 256 * w) 9 = C (15 + 256 * w) 9 := hC _ _ (by unfold twa; omega)
  have k10 : C' (15 + 256 * w) 10 = C (15 + 256 * w) 10 := hC _ _ (by unfold twa; omega)
  have k11 : C' (15 + 256 * w) 11 = C (15 + 256 * w) 11 := hC _ _ (by unfold twa; omega)
  have k15 : C' (15 + 256 * w) 15 = C (15 + 256 * w) 15 := hC _ _ (by unfold twa; omega)
  have k3 : C' (11 + 256 * w) 3 = C (11 + 256 * w) 3 := hC _ _ (by unfold twa; omega)
  have k57 : ∀ i, C' (57 + 256 * w) i = C (57 + 256 * w) i := fun i => hC _ _ (by unfold twa; omega)
  have k58 : ∀ i, C' (58 + 256 * w) i = C (58 + 256 * w) i := fun i => hC _ _ (by unfold twa; omega)
  have k72 : ∀ i, C' (72 + 256 * w) i = C (72 + 256 * w) i := fun i => hC _ _ (by unfold twa; omega)
  have e309 : R' 309 w = R 309 w := hR _ _ (by unfold rcw; omega)
  have e565 : R' 565 w = R 565 w := hR _ _ (by unfold rcw; omega)
  have e821 : R' 821 w = R 821 w := hR _ _ (by unfold rcw; omega)
  have e1589 : R' 1589 w = R 1589 w := hR _ _ (by unfold rcw; omega)
  have e566 : R' 566 w = R 566 w := hR _ _ (by unfold rcw; omega)
  have e822 : R' 822 w = R 822 w := hR _ _ (by unfold rcw; omega)
  have e1845 : R' 1845 w = R 1845 w := hR _ _ (by unfold rcw; omega)
  have e2869 : R' 2869 w = R 2869 w := hR _ _ (by unfold rcw; omega)
  have e3125 : R' 3125 w = R 3125 w := hR _ _ (by unfold rcw; omega)
  have e68 : ∀ i, R' 68 i = R 68 i := fun i => hR _ _ (by unfold rcw; omega)
  have e67 : ∀ i, 0 ≤ i → i < 30 → R' 67 (30 * w + i) = R 67 (30 * w + i) := fun i a b => hR _ _ (by unfold rcw; omega)
  unfold wsn at h ⊢
  rw [e309]
  rcases h with ⟨hk, h⟩ | ⟨hk, h⟩ | ⟨hk, h⟩ | ⟨hk, h⟩ | ⟨hk, h⟩ | ⟨hk, h⟩ | ⟨hk, h⟩ | ⟨hk, h⟩ | ⟨hk, h⟩ | ⟨hk, h⟩ | ⟨hk, h⟩
  · refine Or.inl ⟨hk, ?_⟩
    unfold ws0 at h ⊢
    simp only [k8, k9, k10, k11, k15, k57, k58, k72, e565, e821, e1589, e566, e822, e1845, e68]
    exact h
  · refine Or.inr (Or.inl ⟨hk, ?_⟩)
    unfold wsd at h ⊢
    simp only [k8, k9, k10, k11, k15, k57, k58, k72, e565, e821, e1589, e566, e822, e1845, e68]
    exact h
  · refine Or.inr (Or.inr (Or.inl ⟨hk, ?_⟩))
    unfold ws2 at h ⊢
    simp only [k8, k9, k10, k11, k15, k57, k58, k72, e565, e821, e1589, e566, e822, e1845, e68]
    exact h
  · refine Or.inr (Or.inr (Or.inr (Or.inl ⟨hk, ?_⟩)))
    unfold ws4 at h ⊢
    simp only [k8, k9, k10, k11, k15, k57, k58, k72, e565, e821, e1589, e566, e822, e1845, e68]
    exact h
  · refine Or.inr (Or.inr (Or.inr (Or.inr (Or.inl ⟨hk, ?_⟩))))
    unfold ws5 at h ⊢
    simp only [k8, k9, k10, k11, k15, k57, k58, k72, e565, e821, e1589, e566, e822, e1845, e68]
    exact h
  · refine Or.inr (Or.inr (Or.inr (Or.inr (Or.inr (Or.inl ⟨hk, ?_⟩)))))
    unfold ws6 at h ⊢
    simp only [k8, k9, k10, k11, k15, k57, k58, k72, e565, e821, e1589, e566, e822, e1845, e68]
    exact h
  · refine Or.inr (Or.inr (Or.inr (Or.inr (Or.inr (Or.inr (Or.inl ⟨hk, ?_⟩))))))
    unfold ws7 at h ⊢
    simp only [k8, k9, k10, k11, k15, k57, k58, k72, e565, e821, e1589, e566, e822, e1845, e68]
    exact h
  · refine Or.inr (Or.inr (Or.inr (Or.inr (Or.inr (Or.inr (Or.inr (Or.inl ⟨hk, ?_⟩)))))))
    unfold ws8 at h ⊢
    simp only [k8, k9, k10, k11, k15, k57, k58, k72, e565, e821, e1589, e566, e822, e1845, e68]
    exact h
  · refine Or.inr (Or.inr (Or.inr (Or.inr (Or.inr (Or.inr (Or.inr (Or.inr (Or.inl ⟨hk, ?_⟩))))))))
    unfold ws9 at h ⊢
    simp only [k8, k9, k10, k11, k15, k57, k58, k72, e565, e821, e1589, e566, e822, e1845, e68]
    exact h
  · refine Or.inr (Or.inr (Or.inr (Or.inr (Or.inr (Or.inr (Or.inr (Or.inr (Or.inr (Or.inl ⟨hk, ?_⟩)))))))))
    unfold ws11 at h ⊢
    rw [k8, k9, k10, k3, k72, e1589, e3125, e2869, e565]
    rcases h with ⟨p, n, q, z1, z2, z3, z4, z5, z6, z7, z8⟩ | ⟨p, n, q, z1, z2, z3, x, z5, z6, z7⟩ | h
    · refine Or.inl ⟨p, n, q, z1, z2, z3, z4, z5, z6, fun k a b => ?_, fun j k a b c => ?_⟩
      · rw [k57, e67 _ (by omega) (by omega)]; exact z7 k a b
      · rw [e67 _ (by omega) (by omega), e67 _ (by omega) (by omega)]; exact z8 j k a b c
    · refine Or.inr (Or.inl ⟨p, n, q, z1, z2, z3, ?_, z5, z6, fun k a b => ?_⟩)
      · rw [e67 _ (by omega) (by omega)]; exact x
      · rw [k57, e67 _ (by omega) (by omega)]; exact z7 k a b
    · exact Or.inr (Or.inr h)
  · refine Or.inr (Or.inr (Or.inr (Or.inr (Or.inr (Or.inr (Or.inr (Or.inr (Or.inr (Or.inr (⟨hk, ?_⟩))))))))))
    unfold ws12 at h ⊢
    simp only [k8, k9, k10, k11, k15, k57, k58, k72, e565, e821, e1589, e566, e822, e1845, e68]
    exact h
theorem ws13_congr {C C' R R' : am_M} {w : Int} (hs : sr R w) (hC : ∀ L i, twa w L i → C' L i = C L i) (hR : ∀ L i, rcw w L i → R' L i = R L i) (h71 : R' 71 w = R 71 w) (h : ws13 C R w) : ws13 C' R' w := by
  have k8 : C' (15 + 256 * w) 8 = C (15 + 256 * w) 8 := hC _ _ (by unfold twa; omega)
  have k9 : C' (15 + 256 * w) 9 = C (15 + 256 * w) 9 := hC _ _ (by unfold twa; omega)
  have k10 : C' (15 + 256 * w) 10 = C (15 + 256 * w) 10 := hC _ _ (by unfold twa; omega)
  have k15 : C' (15 + 256 * w) 15 = C (15 + 256 * w) 15 := hC _ _ (by unfold twa; omega)
  have k5 : C' (14 + 256 * w) 5 = C (14 + 256 * w) 5 := hC _ _ (by unfold twa; omega)
  have k60 : ∀ i, C' (60 + 256 * w) i = C (60 + 256 * w) i := fun i => hC _ _ (by unfold twa; omega)
  have e1589 : R' 1589 w = R 1589 w := hR _ _ (by unfold rcw; omega)
  have e1077 : R' 1077 w = R 1077 w := hR _ _ (by unfold rcw; omega)
  have e64 : ∀ i, R' 64 i = R 64 i := fun i => hR _ _ (by unfold rcw; omega)
  have e320 : ∀ i, R' 320 i = R 320 i := fun i => hR _ _ (by unfold rcw; omega)
  have e576 : ∀ i, R' 576 i = R 576 i := fun i => hR _ _ (by unfold rcw; omega)
  have e66 : ∀ i, 0 ≤ i → i ≤ 3 → R' 66 (4 * w + i) = R 66 (4 * w + i) := fun i a b => hR _ _ (by unfold rcw; omega)
  unfold ws13 at h ⊢
  rw [h71, k8, k15, e1589, e1077]
  rcases h with h | h | h | ⟨h1, h2, h3, s, q, r, h4, h5, h6, h7⟩
  · exact Or.inl h
  · exact Or.inr (Or.inl h)
  · exact Or.inr (Or.inr (Or.inl h))
  · refine Or.inr (Or.inr (Or.inr ⟨h1, h2, h3, ?_⟩))
    rw [qs_congr e64 e320 e576 e1077]
    obtain ⟨x1, x2, x3⟩ := qs_ext hs 100 (R 1589 w) (fun k => R 66 (4 * w + k)) (fun k => R' 66 (4 * w + k)) h2 h3 e66
    obtain ⟨y1, y2, y3⟩ := qs_end hs 100 (R 1589 w) (fun k => R 66 (4 * w + k)) h2 h3
    rw [h4] at x1 x2 x3 y1 y2
    dsimp only at x1 x2 x3 y1 y2
    revert x1 x2 x3
    generalize qs R w 100 (R 1589 w) (fun k => R' 66 (4 * w + k)) = Q
    obtain ⟨s', q', r'⟩ := Q
    dsimp only
    intro x1 x2 x3
    subst x1 x2
    refine ⟨_, _, _, rfl, ?_, fun k a b => ?_, ?_⟩
    · rw [k5]; exact h5
    · rw [k60, x3 k a b]; exact h6 k a b
    · have v := hs.2.2 _ y1 y2
      unfold scn at h7 ⊢
      rw [k8, k9, k10, k15, e320, e576]
      rcases h7 with h | ⟨a1, a2, a3, a4⟩ | h
      · exact Or.inl h
      · refine Or.inr (Or.inl ⟨a1, a2, a3, ?_⟩)
        rw [h4] at y3
        dsimp only at y3
        unfold quiet at y3
        unfold sv at v
        rw [x3 _ (by omega) (by omega)]; exact a4
      · exact Or.inr (Or.inr h)
theorem ws_congr {C C' R R' : am_M} {w : Int} (hs : sw C R w) (hC : ∀ L i, twa w L i → C' L i = C L i) (hR : ∀ L i, rcw w L i → R' L i = R L i) (h71 : R' 71 w = R 71 w) (h : ws C R w) : ws C' R' w := by
  rcases h with h | ⟨hk, h⟩
  · exact Or.inl (wsn_congr hC hR h)
  · refine Or.inr ⟨(hR _ _ (by unfold rcw; omega)).trans hk, ws13_congr (st13_sr (C := C) ?_) hC hR h71 h⟩
    obtain ⟨_, _, _, _, _, _, _, _, _, _, hs, _⟩ := hs
    exact hs hk
/-- ranges of what is next -/
def k_in (k : Int) : Int := if k = 0 then 0 else if k = 4 ∨ k = 6 ∨ k = 13 then 2 else if k = 7 then 3 else 1
def k_out (k : Int) : Int := if k = 9 then 0 else if k = 5 ∨ k = 8 ∨ k = 13 then 2 else 1

theorem rtk_rtl {w L i : Int} (h : rtk w L i) : rtl w L i := by unfold rtk at h; unfold rtl; omega
theorem look_all {C R : am_M} {w : Int} (hR : rs R) (hw : 0 ≤ w) (hw2 : w < 40) (hs : sw C R w) (h : ws C R w) :
    ∃ R', am_evm am_PP nX7_look [(2, 17), (0, w)] R = some (0, R') ∧ fr2 (rtl w) R R' ∧ R' 17 45 = C (15 + 256 * w) 8 ∧ (C (15 + 256 * w) 8 = 0 → R' 17 46 = C (15 + 256 * w) 9) ∧ (C (15 + 256 * w) 8 = 1 → R' 17 46 = C (15 + 256 * w) 9 ∧ R' 17 47 = C (15 + 256 * w) 10) ∧ (C (15 + 256 * w) 8 = 3 → R' 17 48 = C (15 + 256 * w) 15) ∧ wl C R' w := by
  obtain ⟨hC, hk, ha, k0, k1, a2, a5, a11, a12, a0, a13, ar⟩ := hs
  have fin : wsn C R w → (∃ R', am_evm am_PP nX7_look [(2, 17), (0, w)] R = some (0, R') ∧ fr2 (rtk w) R R' ∧ R' 17 45 = C (15 + 256 * w) 8 ∧ (C (15 + 256 * w) 8 = 0 → R' 17 46 = C (15 + 256 * w) 9) ∧ (C (15 + 256 * w) 8 = 1 → R' 17 46 = C (15 + 256 * w) 9 ∧ R' 17 47 = C (15 + 256 * w) 10) ∧ (C (15 + 256 * w) 8 = 3 → R' 17 48 = C (15 + 256 * w) 15)) → ∃ R', am_evm am_PP nX7_look [(2, 17), (0, w)] R = some (0, R') ∧ fr2 (rtl w) R R' ∧ R' 17 45 = C (15 + 256 * w) 8 ∧ (C (15 + 256 * w) 8 = 0 → R' 17 46 = C (15 + 256 * w) 9) ∧ (C (15 + 256 * w) 8 = 1 → R' 17 46 = C (15 + 256 * w) 9 ∧ R' 17 47 = C (15 + 256 * w) 10) ∧ (C (15 + 256 * w) 8 = 3 → R' 17 48 = C (15 + 256 * w) 15) ∧ wl C R' w := by
    rintro hn ⟨R', e1, e2, e3, e4, e5, e6⟩
    exact ⟨R', e1, fr2_mono (fun _ _ q => rtk_rtl q) e2, e3, e4, e5, e6, Or.inl (wsn_congr (fun _ _ _ => rfl) (fun L i q => e2 L i (by unfold rcw at q; unfold rtk; omega)) hn)⟩
  rcases h with h | ⟨hk', h⟩
  · refine fin h ?_
    unfold wsn at h
    rcases h with ⟨hk', h⟩ | ⟨hk', h⟩ | ⟨hk', h⟩ | ⟨hk', h⟩ | ⟨hk', h⟩ | ⟨hk', h⟩ | ⟨hk', h⟩ | ⟨hk', h⟩ | ⟨hk', h⟩ | ⟨hk', h⟩ | ⟨hk', h⟩
    · exact look_0 hR hw hw2 hk' h (row_len (a0 hk').1).2 (a0 hk').2
    · rcases hk' with hk' | hk' | hk'
      · exact look_1 hR hw hw2 hk' h
      · exact look_3 hR hw hw2 hk' h
      · exact look_10 hR hw hw2 hk' h
    · exact look_2 hR hw hw2 hk' h
    · exact look_4 hR hw hw2 hk' h
    · exact look_5 hR hw hw2 hk' h (a5 hk').1 (a5 hk').2
    · exact look_6 hR hw hw2 hk' h
    · exact look_7 hR hw hw2 hk' h
    · exact look_8 hR hw hw2 hk' h
    · exact look_9 hR hw hw2 hk' h
    · exact look_11 hR hw hw2 hk' h
    · exact look_12 hR hw hw2 hk' h
  · obtain ⟨R', e1, e2, e3, e4, e5, e6, e7⟩ := look_13 hR hw hw2 hk' (a13 hk') h
    exact ⟨R', e1, e2, e3, e4, e5, e6, Or.inr ⟨(e2 _ _ (by unfold rtl; omega)).trans hk', e7⟩⟩
