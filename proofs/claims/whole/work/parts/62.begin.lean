/-! while nothing runs; a run begins -/
def nw (C R : am_M) (u : Int) : Prop := C (15 + 256 * u) 12 = 0 ∧ C (15 + 256 * u) 13 = 0 ∧ C (15 + 256 * u) 8 ≠ 4 ∧ C (15 + 256 * u) 8 ≠ 5 ∧ (R 309 u = 9 → C (20 + 256 * u) 1 = 0)
def NR (C R : am_M) : Prop := rs R ∧ hall C R ∧ net C R ∧ objs C (R 17 0) (R 17 11) ∧ R 17 17 = 0 ∧ C 16 9 = 0 ∧ C 16 7 = 0 ∧ C 16 8 = 0 ∧ (∀ d, 0 ≤ d → d < R 17 11 → bnew C R d) ∧ (∀ u, 0 ≤ u → u < R 17 0 → nw C R u)
theorem hall_congr {C R R' : am_M} (h0 : R' 17 0 = R 17 0) (h11 : R' 17 11 = R 17 11) (h : hall C R) : hall C R' := by
  unfold hall at h ⊢
  rw [h0, h11]; exact h
/-- the static part after the reference began -/
theorem net_rtb {C R R' : am_M} (hh : hall C R) (f : fr2 rtb R R') (h : net C R) : net C R' := by
  obtain ⟨_, _, _, _, _, _, _, _, _, g9, g10, g11, g12, _⟩ := hh
  have e : ∀ L i, ¬ rtb L i → R' L i = R L i := f
  have W0 : R' 17 0 = R 17 0 := e _ _ (by unfold rtb rbb rww; omega)
  have B0 : R' 17 11 = R 17 11 := e _ _ (by unfold rtb rbb rww; omega)
  refine ⟨fun u u0 u1 => ?_, fun d d0 d1 => ?_⟩
  · rw [W0] at u1
    obtain ⟨x1, x2, x3⟩ := h.1 u u0 u1
    refine ⟨x1, sw_congr u0 (by omega) (fun _ _ _ => rfl) (fun L i q => e _ _ (by unfold rcs at q; unfold rtb rbb rww; omega)) (fun _ _ _ q => q) (fun _ => ?_) x2, ?_⟩
    · obtain ⟨_, _, _, _, _, _, _, _, _, _, _, q⟩ := x2
      exact q
    · unfold prt
      refine ⟨fun p p0 p1 => ?_, fun p p0 p1 => ?_⟩
      · rw [e 63 _ (by unfold rtb rbb rww; omega), e 317 _ (by unfold rtb rbb rww; omega), B0]; exact x3.1 p p0 p1
      · rw [e 62 _ (by unfold rtb rbb rww; omega), e 61 _ (by unfold rtb rbb rww; omega), B0]; exact x3.2 p p0 p1
  · rw [B0] at d1
    rw [e 61 _ (by unfold rtb rbb rww; omega), e 317 _ (by unfold rtb rbb rww; omega), e 1085 _ (by unfold rtb rbb rww; omega), W0]
    exact h.2 d d0 d1
set_option maxHeartbeats 4000000 in
theorem begin_RR {C R : am_M} {way many x : Int} (H : NR C R) (hwh : whole R) : ∃ C1 R', am_evm am_PP nX6_restartAll [(2, 16)] C = some (0, C1) ∧ am_ev am_PP nX7_run 6 [17, way, many, x] [] R = am_ev am_PP nX7_run 9 [17, way, many, x] [] R' ∧ RR (am_up C1 16 9 1) R' (fun _ _ => 0) (fun _ _ => 0) (fun _ => 0) ∧ R' 17 42 = 0 ∧ R' 17 43 = 0 ∧ R' 17 0 = R 17 0 ∧ R' 17 11 = R 17 11 ∧ cfr C (am_up C1 16 9 1) ∧ rfr R R' := by
  obtain ⟨hR, hh, hn, ⟨ho1, ho2⟩, n1, n2, n3, n4, n5, n6⟩ := H
  obtain ⟨g0, g1, g2, g3, g4, g5, g6, g7, g8, g9, g10, g11, g12, g13⟩ := id hh
  obtain ⟨R', a1, a2, a3, a4, a5, a6, a7, a8⟩ := rf_begin (way := way) (many := many) (x := x) hR g9 g10 g11 g12
  have e : ∀ L i, ¬ rtb L i → R' L i = R L i := a2
  have W0 : R' 17 0 = R 17 0 := e _ _ (by unfold rtb rbb rww; omega)
  have B0 : R' 17 11 = R 17 11 := e _ _ (by unfold rtb rbb rww; omega)
  have hR' : rs R' := rs_fr hR a2 (fun i => by unfold rtb rbb rww; omega)
  have hh' : hall C R' := hall_congr W0 B0 hh
  have hn' := net_rtb hh a2 hn
  have bs' : ∀ d, R' 61 d = R 61 d ∧ R' 317 d = R 317 d ∧ R' 1085 d = R 1085 d := fun d => ⟨e _ _ (by unfold rtb rbb rww; omega), e _ _ (by unfold rtb rbb rww; omega), e _ _ (by unfold rtb rbb rww; omega)⟩
  obtain ⟨C1, b1, b2, b3, b4⟩ := cl_restartAll hh' hn' (fun d p q => by
    have := n5 d p (by omega) (fun _ => 0) 0
    obtain ⟨y1, y2, y3⟩ := bs' d
    unfold bst
    rw [y1, y2, y3]
    exact ⟨_, _, _, _, _, _, _, _, this⟩) (fun u p q => by
    obtain ⟨w, s⟩ := a8 u p (by omega)
    obtain ⟨w1, w2, w3, w4, w5, w6, w7, w8, w9⟩ := w
    exact ⟨w3, w4, w5, w6, w7, w8, s, w9⟩)
  have k : ∀ L j, (∀ w, 0 ≤ w → ¬ twR w L j) → (∀ d, 0 ≤ d → ¬ (bt d L ∨ L = -2 ∨ (L = -1 ∧ bt d j))) → C1 L j = C L j := fun L j p q => b2 _ _ (fun r => r.elim (no_twW p) (no_twB q))
  have kg : ∀ L j, (L = 16 ∨ L = 12 ∨ L = 50 ∨ L = 51 ∨ L = 52 ∨ L = 2 ∨ L = 3) → C1 L j = C L j := fun L j p => k L j (fun w q => by unfold twR twr twa; omega) (fun d q => by unfold bt; omega)
  refine ⟨C1, R', b1, a1, ?_, a4, a5, W0, B0, fun L i q => ?_, fun L i q => e _ _ (by unfold FR at q; unfold rtb rbb rww; omega)⟩
  · have up : ∀ L i, ¬ (L = 16 ∧ i = 9) → am_up C1 16 9 1 L i = C1 L i := fun L i q => by simp (disch := omega) only [am_up_or]
    have kb : ∀ L j, (∀ w, 0 ≤ w → w < R' 17 0 → ¬ twR w L j) → (∀ d, 0 ≤ d → d < R' 17 11 → ¬ (bt d L ∨ L = -2 ∨ (L = -1 ∧ bt d j))) → am_up C1 16 9 1 L j = C1 L j → am_up C1 16 9 1 L j = C L j := fun L j p q r => r.trans (b2 _ _ (fun z => z.elim (fun ⟨w, c1, c2, c3⟩ => p w c1 c2 c3) (fun ⟨w, c1, c2, c3⟩ => q w c1 c2 c3)))
    have rows : ∀ u n f, 0 ≤ u → u < 40 → row C1 (20 + 256 * u) n f → row (am_up C1 16 9 1) (20 + 256 * u) n f := fun u n f u0 u1 q => row_other u0 u1 (fun L i p => up _ _ (by unfold rt at p; omega)) (fun L p => up _ _ (by omega)) q
    refine ⟨hR', ?_, ⟨fun u u0 u1 => ?_, fun d d0 d1 => ?_⟩, ⟨fun u u0 u1 => ?_, fun d d0 d1 => ?_⟩, fun u u0 u1 => ?_, a3, am_up_eq _ _ _ _, ?_, ?_, by omega, by omega, by omega, by omega, fun i i0 i1 i2 => by omega, by omega, by omega, fun u u0 u1 => ?_, fun d d0 d1 => ?_, fun b b' c c' p1 p2 p3 p4 p5 p6 p7 p8 p9 => ?_⟩
    · unfold hall
      rw [up 16 0 (by omega), up 16 1 (by omega), up 16 2 (by omega), up 16 3 (by omega), up 16 4 (by omega), up 16 5 (by omega), up 12 0 (by omega), up 12 1 (by omega), up 12 2 (by omega), kg 16 0 (by omega), kg 16 1 (by omega), kg 16 2 (by omega), kg 16 3 (by omega), kg 16 4 (by omega), kg 16 5 (by omega), kg 12 0 (by omega), kg 12 1 (by omega), kg 12 2 (by omega), W0, B0]
      refine ⟨g0, g1, g2, g3, g4, g5, g6, g7, g8, g9, g10, g11, g12, fun j j0 j1 => ?_⟩
      rw [up 2 j (by omega), up 3 j (by omega), kg 2 j (by omega), kg 3 j (by omega)]
      exact g13 j j0 j1
    · obtain ⟨x1, x2, x3⟩ := hn'.1 u u0 u1
      refine ⟨by rw [up 50 u (by omega), kg 50 u (by omega)]; exact x1, sw_congr u0 (by omega) (fun L i q => up _ _ (by unfold wst at q; omega)) (fun _ _ _ => rfl) (fun _ n f q => rows u n f u0 (by omega) q) (fun _ => ?_) (b3 u u0 u1).1, ?_⟩
      · obtain ⟨_, _, _, _, _, _, _, _, _, _, _, n, f, q⟩ := (b3 u u0 u1).1
        exact ⟨n, f, rows u n f u0 (by omega) q⟩
      · unfold prt
        refine ⟨fun p p0 p1 => ?_, fun p p0 p1 => ?_⟩
        · rw [up (55 + 256 * u) p (by omega), k (55 + 256 * u) p (fun w r => by unfold twR twr twa; omega) (fun d r => by unfold bt; omega)]; exact x3.1 p p0 p1
        · rw [up (56 + 256 * u) p (by omega), k (56 + 256 * u) p (fun w r => by unfold twR twr twa; omega) (fun d r => by unfold bt; omega)]; exact x3.2 p p0 p1
    · rw [up 51 d (by omega), kg 51 d (by omega)]
      exact hn'.2 d d0 d1
    · rw [up 50 u (by omega), kg 50 u (by omega)]
      rcases ho1 u (by omega) u1 with ⟨x, y⟩ | ⟨x, y, n, f, z⟩
      · exact Or.inl ⟨x, fun L q => (kb _ _ (fun w r1 r2 => by unfold wlab at q; unfold twR twr twa; omega) (fun d r1 r2 => by unfold wlab at q; unfold bt; omega) (up _ _ (by omega))).trans (y L q)⟩
      · refine Or.inr ⟨x, cshape_congr (fun L i q => kb _ _ (fun w r1 r2 => by unfold wst at q; unfold twR twr twa; omega) (fun d r1 r2 => by unfold wst at q; unfold bt; omega) (up _ _ (by unfold wst at q; omega))) y, n, f, ?_⟩
        exact row_other (by omega) u1 (fun L i p => kb _ _ (fun w r1 r2 => by unfold rt at p; unfold twR twr twa; omega) (fun d r1 r2 => by unfold rt at p; unfold bt; omega) (up _ _ (by unfold rt at p; omega))) (fun L p => kb _ _ (fun w r1 r2 => by unfold rt at p; unfold twR twr twa; omega) (fun d r1 r2 => by unfold rt at p; unfold bt; omega) (up _ _ (by omega))) z
    · rw [up 51 d (by omega), kg 51 d (by omega)]
      rcases ho2 d (by omega) d1 with ⟨x, y⟩ | ⟨x, fm, to, td, wn, tw, o, mo, mk, n, V0, t0, z⟩
      · exact Or.inl ⟨x, fun L q => (kb _ _ (fun w r1 r2 => by unfold bt at q; unfold twR twr twa; omega) (fun d r1 r2 => by unfold bt at q ⊢; omega) (up _ _ (by omega))).trans (y L q)⟩
      · exact Or.inr ⟨x, fm, to, td, wn, tw, o, mo, mk, n, V0, t0, bcl_ext (by omega) d1 z (fun L i q => kb _ _ (fun w r1 r2 => by unfold bt at q; unfold twR twr twa; omega) (fun d r1 r2 => by unfold bt at q ⊢; omega) (up _ _ (by unfold bt at q; omega))) (fun L q => kb _ _ (fun w r1 r2 => by unfold bt at q; unfold twR twr twa; omega) (fun d r1 r2 => by unfold bt at q ⊢; omega) (up _ _ (by omega))) (fun _ _ _ _ => rfl) (fun _ _ _ => rfl)⟩
    · obtain ⟨x, y⟩ := hwh u u0 (by omega)
      rw [e 309 _ (by unfold rtb rbb rww; omega)]
      refine ⟨fun p p0 p1 => ?_, fun p p0 p1 => ?_⟩
      · rw [e 63 _ (by unfold rtb rbb rww; omega)]; exact x p p0 p1
      · rw [e 62 _ (by unfold rtb rbb rww; omega)]; exact y p p0 p1
    · rw [up 16 8 (by omega), kg 16 8 (by omega), a4]; exact n4
    · rw [up 16 7 (by omega), kg 16 7 (by omega), a5]; exact n3
    · obtain ⟨⟨w1, w2, w3, w4, w5, w6, w7, w8, w9⟩, s71⟩ := a8 u u0 (by omega)
      obtain ⟨sw1, m1, m2, m3, m4, m5⟩ := b3 u u0 u1
      unfold wr
      rw [up _ 12 (by omega), up _ 13 (by omega), w2, w6, m1, m2]
      refine ⟨rfl, rfl, by omega, by omega, by omega, by omega, Or.inr (Or.inr ⟨w1, ?_, ?_⟩), fun k9 => ⟨rows u _ _ u0 (by omega) (m4 k9 _), rfl⟩⟩
      · rw [up _ 14 (by omega)]; exact m3
      · exact ws_congr sw1 (fun L i q => up _ _ (by unfold twa at q; omega)) (fun _ _ _ => rfl) rfl m5
    · obtain ⟨f1, f2, f3, f4, f5, f6, f7, f8, f9⟩ := a7 d d0 (by omega)
      obtain ⟨_, _, _, _, _, t1, t2⟩ := hn'.2 d d0 d1
      unfold br
      rw [f1, f2, f3, f4, f5, f6]
      refine ⟨bcl_ext d0 (by omega) (b4 d d0 d1 (fun _ => 0) 0) (fun L i q => up _ _ (by unfold bt at q; omega)) (fun L q => up _ _ (by omega)) (fun _ _ _ _ => rfl) (fun _ _ _ => rfl), ?_, ⟨by omega, by omega⟩, by omega, by omega, fun _ => rfl⟩
      unfold rb
      rw [f2, f4]
      dsimp only
      exact ⟨by omega, by omega, by omega, by omega, fun _ => ⟨f7, f8⟩, fun q => by omega, fun k p q => by omega, fun k p q => by omega, fun q => by omega⟩
    · have := (a7 b p1 (by omega)).2.2.2.1
      omega
  · unfold FR at q
    rw [am_up_or _ _ _ _ _ _ (by omega)]
    exact k L i (fun w r => by unfold twR twr twa; omega) (fun d r => by unfold bt; omega)
