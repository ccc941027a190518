/-! an act: ends and failures -/
/-- the hall leaves the reference's cells and its own count of open ports -/
def cfr (C C' : am_M) : Prop := ∀ L i, (FR L ∨ (1 ≤ L ∧ L ≤ 3) ∨ (L = 16 ∧ i = 6)) → C' L i = C L i
def rfr (R R' : am_M) : Prop := ∀ L i, ¬ FR L → R' L i = R L i
theorem cfr_of {w b : Int} {C C' : am_M} (h : fr2 (cta w b) C C') (w0 : 0 ≤ w) (b0 : -1 ≤ b) : cfr C C' := fun L i q => h L i (by unfold FR at q; unfold cta twR twr twa bt; omega)
theorem rfr_of {w b : Int} {R R' : am_M} (h : fr2 (rta w b) R R') : rfr R R' := fun L i q => h L i (by unfold FR at q; unfold rta rtw; omega)
theorem ws_port {C R : am_M} {w : Int} (hs : sw C R w) (h : ws C R w) : (C (15 + 256 * w) 8 = 0 ∨ C (15 + 256 * w) 8 = 1 ∨ C (15 + 256 * w) 8 = 2 ∨ C (15 + 256 * w) 8 = 3) ∧ (C (15 + 256 * w) 8 = 0 → 0 ≤ C (15 + 256 * w) 9 ∧ C (15 + 256 * w) 9 < k_in (R 309 w) ∧ C (15 + 256 * w) 9 < 3 ∧ (R 309 w = 9 → C (15 + 256 * w) 9 = 0)) ∧ (C (15 + 256 * w) 8 = 1 → 0 ≤ C (15 + 256 * w) 9 ∧ C (15 + 256 * w) 9 < k_out (R 309 w) ∧ C (15 + 256 * w) 9 < 2) := by
  obtain ⟨_, _, _, _, _, _, _, _, _, _, a13, _⟩ := hs
  rcases h with h | ⟨hk, h⟩
  · rcases h with ⟨hk, h⟩ | ⟨hk, h⟩ | ⟨hk, h⟩ | ⟨hk, h⟩ | ⟨hk, h⟩ | ⟨hk, h⟩ | ⟨hk, h⟩ | ⟨hk, h⟩ | ⟨hk, h⟩ | ⟨hk, h⟩ | ⟨hk, h⟩
    · unfold ws0 at h; rw [hk]; simp only [k_in, k_out]; omega
    · unfold wsd at h
      have e1 : k_in (R 309 w) = 1 := by rcases hk with q | q | q <;> rw [q] <;> decide
      have e2 : k_out (R 309 w) = 1 := by rcases hk with q | q | q <;> rw [q] <;> decide
      rw [e1, e2]; omega
    · unfold ws2 at h; rw [hk, show k_in 2 = 1 from rfl, show k_out 2 = 1 from rfl]; omega
    · obtain ⟨h0, h1, o0, o1, a0, a1, a2, a3, p, e0, e1, x0, x1, h⟩ := h
      rw [hk, show k_in 4 = 2 from rfl, show k_out 4 = 1 from rfl]; omega
    · unfold ws5 at h; rw [hk, show k_in 5 = 1 from rfl, show k_out 5 = 2 from rfl]
      rcases h with h | ⟨p, n, q, x⟩ | h
      · omega
      · have : C (15 + 256 * w) 9 = 0 ∨ C (15 + 256 * w) 9 = 1 := by rw [q]; split <;> simp
        omega
      · omega
    · unfold ws6 at h; rw [hk, show k_in 6 = 2 from rfl, show k_out 6 = 1 from rfl]; omega
    · unfold ws7 at h; rw [hk, show k_in 7 = 3 from rfl, show k_out 7 = 1 from rfl]; omega
    · unfold ws8 at h; rw [hk, show k_in 8 = 1 from rfl, show k_out 8 = 2 from rfl]; omega
    · unfold ws9 at h; rw [hk, show k_in 9 = 1 from rfl, show k_out 9 = 0 from rfl]; omega
    · unfold ws11 at h; rw [hk, show k_in 11 = 1 from rfl, show k_out 11 = 1 from rfl]
      rcases h with ⟨_, n, q, _⟩ | ⟨_, n, q, _⟩ | ⟨n, _⟩ <;> omega
    · unfold ws12 at h; rw [hk, show k_in 12 = 1 from rfl, show k_out 12 = 1 from rfl]; omega
  · rw [hk, show k_in 13 = 2 from rfl, show k_out 13 = 2 from rfl]
    have hst := a13 hk
    rcases h with ⟨_, n, _⟩ | ⟨_, _, n⟩ | ⟨_, _, _, n⟩ | ⟨h1, h2, h3, s, q, r, h4, h5, h6, h7⟩
    · omega
    · omega
    · omega
    · obtain ⟨y1, y2, y3⟩ := qs_end (st13_sr hst) 100 (R 1589 w) (fun k => R 66 (4 * w + k)) h2 h3
      rw [h4] at y1 y2 y3
      dsimp only at y1 y2 y3
      have v := (hst.2.2.2 q y1 y2).2.2.2
      unfold scn at h7
      unfold sv at v
      omega
/-- a look changes nothing of the relation -/
theorem RR_look {C R R1 : am_M} {h V : Int → Int → Int} {t : Int → Int} {w : Int} (H : RR C R h V t) (w0 : 0 ≤ w) (w1 : w < R 17 0) (fR : fr2 (rtl w) R R1) (hs0 : R 1333 w = 0) (hws : ws C R1 w) : RR C R1 h V t := by
  have e : ∀ L i, ¬ rtl w L i → R1 L i = R L i := fR
  obtain ⟨hR, hh, ⟨hn1, hn2⟩, ho, hwh, r1, r2, r3, r4, r5, r6, r7, r8, r9, r10, r11, r12, r13, r14⟩ := id H
  have e29 : R1 17 29 = R 17 29 := e _ _ (by unfold rtl; omega)
  have e42 : R1 17 42 = R 17 42 := e _ _ (by unfold rtl; omega)
  have hg : ∀ i, ¬ (45 ≤ i ∧ i ≤ 48) → R1 17 i = R 17 i := fun i q => e _ _ (by unfold rtl; omega)
  refine RR_step (w := w) (b := -1) H w0 w1 (by omega) (by obtain ⟨_, _, _, _, _, _, _, _, _, _, _, q, _⟩ := hh; omega) (fr2_refl _ _) (fr2_mono (fun L i q => Or.inl (rtl_rtw q)) fR) (fun b' k _ _ _ _ _ => e _ _ (by unfold rtl; omega)) (fun b' k _ _ _ _ _ => e _ _ (by unfold rtl; omega)) (by omega) (by omega) (by omega) (by omega) (by rw [e42]; exact r3) (fun _ _ => rfl) (fun _ _ => rfl) (fun _ _ _ => rfl) (fun _ _ _ => rfl) (fun _ => by omega) (fun _ _ _ q => q) (fun _ => ?_) ?_ (fun q => by omega) ?_
  · obtain ⟨_, ⟨_, _, _, _, _, _, _, _, _, _, _, x⟩, _⟩ := hn1 w w0 w1
    exact x
  · obtain ⟨x1, x2, x3, x4, x5, x6, x7, x8⟩ := r12 w w0 w1
    unfold wr
    rw [e 1845 w (by unfold rtl; omega), e 2101 w (by unfold rtl; omega), e42, e 309 w (by unfold rtl; omega), e 63 _ (by unfold rtl; omega)]
    refine ⟨x1, x2, x3, x4, x5, x6, ?_, x8⟩
    unfold st at x7 ⊢
    rw [e 1333 w (by unfold rtl; omega)]
    rcases x7 with q | q | ⟨q1, q2, q3⟩
    · omega
    · omega
    · exact Or.inr (Or.inr ⟨q1, q2, hws⟩)
  · intro b b' k k' a1 a2 a3 a4 a5 a6 a7 a8 a9
    rw [hg 11 (by omega)] at a2 a4
    rw [e 2109 b (by unfold rtl; omega)] at a6
    rw [e 2109 b' (by unfold rtl; omega)] at a8
    exact r14 b b' k k' a1 a2 a3 a4 a5 a6 a7 a8 a9
/-- what may be said of a weaver that goes on -/
theorem RR_w {C R : am_M} {h V : Int → Int → Int} {t : Int → Int} {w : Int} (H : RR C R h V t) (w0 : 0 ≤ w) (w1 : w < R 17 0) : rs R ∧ w < 40 ∧ sw C R w ∧ prt C R w ∧ wr C R V t w ∧ C 50 w = 15 + 256 * w ∧ C 16 8 = R 17 42 ∧ 0 ≤ R 17 42 ∧ 0 ≤ R 17 29 ∧ R 17 29 ≤ R 17 42 ∧ R 17 11 ≤ 60 ∧ 0 ≤ R 17 11 ∧ R 17 0 ≤ 40 := by
  obtain ⟨hR, ⟨g0, g1, g2, g3, g4, g5, g6, g7, g8, g9, g10, g11, g12, g13⟩, ⟨hn1, hn2⟩, ho, hwh, r1, r2, r3, r4, r5, r6, r7, r8, r9, r10, r11, r12, r13, r14⟩ := H
  obtain ⟨x1, x2, x3⟩ := hn1 w w0 w1
  exact ⟨hR, by omega, x2, x3, r12 w w0 w1, x1, r3, r5, r10, r11, g12, g11, g10⟩
theorem hinj_of {R R' : am_M} {h : Int → Int → Int} (q : hinj R h) (h1 : R' 17 11 = R 17 11) (h2 : ∀ b, R' 2109 b = R 2109 b) : hinj R' h := by
  intro b b' k k' a1 a2 a3 a4 a5 a6 a7 a8 a9
  rw [h1] at a2 a4
  rw [h2] at a6 a8
  exact q b b' k k' a1 a2 a3 a4 a5 a6 a7 a8 a9
/-- the last lines where no band was touched: w ends or fails -/
theorem RR_over {C R : am_M} {h V : Int → Int → Int} {t : Int → Int} {w o y s : Int} (H : RR C R h V t) (w0 : 0 ≤ w) (w1 : w < R 17 0) (hac : R 17 42 < 42000) (hs : (s = 3 ∧ o = w ∧ y = 0) ∨ s = 4) {C' : am_M} (fC : fr2 (fun L i => L = 15 + 256 * w ∧ (i = 8 ∨ i = 14 ∨ i = 15)) C C') (hN : C' (15 + 256 * w) 8 = s + 1) (h14 : s = 4 → C' (15 + 256 * w) 14 = o ∧ C' (15 + 256 * w) 15 = y) :
    RR (am_up C' 16 8 (C 16 8 + 1)) (am_up (am_up (am_up (am_up R 17 42 (R 17 42 + 1)) 1333 w s) 2357 w o) 2613 w y) h V t := by
  obtain ⟨hR, w2, hsw, hpr, ⟨x1, x2, x3, x4, x5, x6, x7, x8⟩, h50, h8, z1, z2, z3, z4, z5, z6⟩ := RR_w H w0 w1
  have eC : ∀ L i, ¬ (L = 15 + 256 * w ∧ (i = 8 ∨ i = 14 ∨ i = 15)) → C' L i = C L i := fC
  have row' : ∀ n f, row C (20 + 256 * w) n f → row (am_up C' 16 8 (C 16 8 + 1)) (20 + 256 * w) n f := fun n f q => row_other w0 w2 (fun L i p => by unfold rt at p; simp (disch := omega) only [am_up_eq, am_up_nl, am_up_ni]; exact eC _ _ (by omega)) (fun L p => by unfold rt at p; simp (disch := omega) only [am_up_eq, am_up_nl, am_up_ni]; exact eC _ _ (by omega)) q
  refine RR_step (w := w) (b := -1) H w0 w1 (by omega) (by omega) ?_ ?_ (fun b' k _ _ _ _ _ => by simp (disch := omega) only [am_up_eq, am_up_nl, am_up_ni]) (fun b' k _ _ _ _ _ => by simp (disch := omega) only [am_up_eq, am_up_nl, am_up_ni]) (by simp (disch := omega) only [am_up_eq, am_up_nl, am_up_ni]; omega) (by simp (disch := omega) only [am_up_eq, am_up_nl, am_up_ni]; omega) (by simp (disch := omega) only [am_up_eq, am_up_nl, am_up_ni]; omega) (by simp (disch := omega) only [am_up_eq, am_up_nl, am_up_ni]; omega) (by simp (disch := omega) only [am_up_eq, am_up_nl, am_up_ni]; omega) (fun _ _ => rfl) (fun _ _ => rfl) (fun _ _ _ => rfl) (fun _ _ _ => rfl) (fun q => ?_) (fun _ n f q => row' n f q) (fun _ => ?_) ?_ (fun q => by omega) ?_
  · exact fr2_up (by unfold cta; omega) (fr2_mono (fun L i q => by unfold cta twR twr twa; omega) fC)
  · (repeat' first | exact fr2_refl _ _ | refine fr2_up ?_ ?_) <;> (unfold rta rtw; omega)
  · simp (disch := omega) only [am_up_eq, am_up_nl, am_up_ni] at q; omega
  · obtain ⟨_, _, _, _, _, _, _, _, _, _, _, n, f, q⟩ := hsw
    exact ⟨n, f, row' n f q⟩
  · unfold wr
    simp (disch := omega) only [am_up_eq, am_up_nl, am_up_ni]
    rw [eC (15 + 256 * w) 12 (by omega), eC (15 + 256 * w) 13 (by omega)]
    refine ⟨x1, x2, x3, by omega, x5, by omega, ?_, fun k9 => ⟨row' _ _ (x8 k9).1, (x8 k9).2⟩⟩
    unfold st
    simp (disch := omega) only [am_up_eq, am_up_nl, am_up_ni, hN]
    rcases hs with ⟨q1, q2, q3⟩ | q1
    · exact Or.inl ⟨q1, by omega⟩
    · exact Or.inr (Or.inl ⟨q1, by omega, (h14 q1).1, (h14 q1).2⟩)
  · obtain ⟨_, _, _, _, _, _, _, _, _, _, _, _, _, _, _, _, _, _, r14⟩ := H
    exact hinj_of r14 (by simp (disch := omega) only [am_up_eq, am_up_nl, am_up_ni]) (fun b => by simp (disch := omega) only [am_up_eq, am_up_nl, am_up_ni])
