/-! the relation of the two -/
def bl (x : Int) : Int := if x < 0 then 0 else 10 + 256 * x
def wlab (w L : Int) : Prop := L = 11 + 256 * w ∨ L = 14 + 256 * w ∨ L = 15 + 256 * w ∨ (20 + 256 * w ≤ L ∧ L ≤ 27 + 256 * w) ∨ (55 + 256 * w ≤ L ∧ L ≤ 60 + 256 * w) ∨ (72 + 256 * w ≤ L ∧ L ≤ 74 + 256 * w)
def hall (C R : am_M) : Prop := C 16 0 = 50 ∧ C 16 1 = 51 ∧ C 16 2 = 52 ∧ C 16 3 = 12 ∧ C 12 0 = 53 ∧ C 12 1 = 54 ∧ C 12 2 = 310 ∧ C 16 4 = R 17 0 ∧ C 16 5 = R 17 11 ∧ 0 ≤ R 17 0 ∧ R 17 0 ≤ 40 ∧ 0 ≤ R 17 11 ∧ R 17 11 ≤ 60 ∧ (∀ k, 0 ≤ k → k < 14 → C 2 k = k_in k ∧ C 3 k = k_out k)
/-- a weaver's ports -/
def prt (C R : am_M) (w : Int) : Prop := (∀ p, 0 ≤ p → p < 3 → C (55 + 256 * w) p = bl (R 63 (3 * w + p)) ∧ (0 ≤ R 63 (3 * w + p) → R 63 (3 * w + p) < R 17 11 ∧ R 317 (R 63 (3 * w + p)) = w)) ∧ (∀ p, 0 ≤ p → p < 2 → C (56 + 256 * w) p = bl (R 62 (2 * w + p)) ∧ (0 ≤ R 62 (2 * w + p) → R 62 (2 * w + p) < R 17 11 ∧ R 61 (R 62 (2 * w + p)) = w))
def net (C R : am_M) : Prop := (∀ w, 0 ≤ w → w < R 17 0 → C 50 w = 15 + 256 * w ∧ sw C R w ∧ prt C R w) ∧ (∀ b, 0 ≤ b → b < R 17 11 → C 51 b = 10 + 256 * b ∧ 0 ≤ R 61 b ∧ R 61 b < R 17 0 ∧ 0 ≤ R 317 b ∧ R 317 b < R 17 0 ∧ 1 ≤ R 1085 b ∧ R 1085 b ≤ 50)
/-- objects that wait to be used (again) -/
def objs (C : am_M) (W B : Int) : Prop := (∀ w, W ≤ w → w < 40 → (C 50 w = 0 ∧ ∀ L, wlab w L → C (-1) L = 0) ∨ (C 50 w = 15 + 256 * w ∧ cshape C w ∧ ∃ n f, row C (20 + 256 * w) n f)) ∧ (∀ b, B ≤ b → b < 60 → (C 51 b = 0 ∧ ∀ L, bt b L → C (-1) L = 0) ∨ (C 51 b = 10 + 256 * b ∧ ∃ fm to td wn tw o mo mk n V t, bcl C b fm to td wn tw o mo mk n V t))
/-- every port has its band -/
def whole (R : am_M) : Prop := ∀ w, 0 ≤ w → w < R 17 0 → (∀ p, 0 ≤ p → p < k_in (R 309 w) → 0 ≤ R 63 (3 * w + p)) ∧ (∀ p, 0 ≤ p → p < k_out (R 309 w) → 0 ≤ R 62 (2 * w + p))
def st (C R : am_M) (w : Int) : Prop := (R 1333 w = 3 ∧ C (15 + 256 * w) 8 = 4) ∨ (R 1333 w = 4 ∧ C (15 + 256 * w) 8 = 5 ∧ C (15 + 256 * w) 14 = R 2357 w ∧ C (15 + 256 * w) 15 = R 2613 w) ∨ (R 1333 w = 0 ∧ C (15 + 256 * w) 14 = w ∧ ws C R w)
def wr (C R : am_M) (V : Int → Int → Int) (t : Int → Int) (w : Int) : Prop := C (15 + 256 * w) 12 = R 1845 w ∧ C (15 + 256 * w) 13 = R 2101 w ∧ 0 ≤ R 1845 w ∧ R 1845 w ≤ R 17 42 ∧ 0 ≤ R 2101 w ∧ R 2101 w ≤ R 17 42 ∧ st C R w ∧ (R 309 w = 9 → row C (20 + 256 * w) (R 1845 w) (V (R 63 (3 * w))) ∧ R 1845 w = t (R 63 (3 * w)))
def br (C R : am_M) (h V : Int → Int) (t b : Int) : Prop := bcl C b (R 61 b) (R 317 b) (R 1085 b) (R 1341 b) (R 2365 b) (R 1597 b) (R 1853 b) (R 65 b) (R 2109 b) V t ∧ rb R b h V t ∧ (1 ≤ R 1341 b ∧ R 1597 b ≤ R 1341 b) ∧ R 1341 b ≤ 1000 ∧ R 2109 b ≤ R 17 29 ∧ (R 1333 (R 317 b) ≤ 2 → t + R 1597 b = R 2109 b)
def hinj (R : am_M) (h : Int → Int → Int) : Prop := ∀ b b' k k', 0 ≤ b → b < R 17 11 → 0 ≤ b' → b' < R 17 11 → 0 ≤ k → k < R 2109 b → 0 ≤ k' → k' < R 2109 b' → h b k = h b' k' → b = b' ∧ k = k'
/-- while it runs -/
def rn (C R : am_M) (h V : Int → Int → Int) (t : Int → Int) : Prop := R 17 17 = 1 ∧ C 16 9 = 1 ∧ C 16 8 = R 17 42 ∧ C 16 7 = R 17 43 ∧ 0 ≤ R 17 42 ∧ R 17 42 ≤ 42000 ∧ 0 ≤ R 17 43 ∧ R 17 43 ≤ 50000 ∧ (∀ i, 0 ≤ i → i < 100 → i < R 17 43 → C 52 i = R 308 i) ∧ 0 ≤ R 17 29 ∧ R 17 29 ≤ R 17 42 ∧ (∀ w, 0 ≤ w → w < R 17 0 → wr C R V t w) ∧ (∀ b, 0 ≤ b → b < R 17 11 → br C R (h b) (V b) (t b) b) ∧ hinj R h
def RR (C R : am_M) (h V : Int → Int → Int) (t : Int → Int) : Prop := rs R ∧ hall C R ∧ net C R ∧ objs C (R 17 0) (R 17 11) ∧ whole R ∧ rn C R h V t
/-- what the static part of a weaver rests on -/
def wst (w L i : Int) : Prop := (L = 15 + 256 * w ∧ i ≤ 7) ∨ (L = 11 + 256 * w ∧ i ≤ 2) ∨ (L = 14 + 256 * w ∧ i ≤ 4) ∨ L = 59 + 256 * w ∨ L = 73 + 256 * w ∨ L = 74 + 256 * w
def rcs (w L i : Int) : Prop := ((L = 309 ∨ L = 565 ∨ L = 821 ∨ L = 1077) ∧ i = w) ∨ (L = 68 ∧ 200 * w ≤ i ∧ i < 200 * w + 200) ∨ ((L = 64 ∨ L = 320 ∨ L = 576) ∧ 12 * w ≤ i ∧ i < 12 * w + 12)
theorem cshape_congr {C C' : am_M} {w : Int} (hC : ∀ L i, wst w L i → C' L i = C L i) (h : cshape C w) : cshape C' w := by
  obtain ⟨c0, c1, c2, c3, c4, c5, d0, d1, d2, s0, s1, s2, s3⟩ := h
  refine ⟨(hC _ _ ?_).trans c0, (hC _ _ ?_).trans c1, (hC _ _ ?_).trans c2, (hC _ _ ?_).trans c3, (hC _ _ ?_).trans c4, (hC _ _ ?_).trans c5, (hC _ _ ?_).trans d0, (hC _ _ ?_).trans d1, (hC _ _ ?_).trans d2, (hC _ _ ?_).trans s0, (hC _ _ ?_).trans s1, (hC _ _ ?_).trans s2, (hC _ _ ?_).trans s3⟩ <;> (unfold wst; omega)
theorem sw_congr {C C' R R' : am_M} {w : Int} (hw : 0 ≤ w) (hw2 : w < 40) (hC : ∀ L i, wst w L i → C' L i = C L i) (hR : ∀ L i, rcs w L i → R' L i = R L i) (hrow : R 309 w ≠ 9 → ∀ n f, row C (20 + 256 * w) n f → row C' (20 + 256 * w) n f) (hrow9 : R 309 w = 9 → ∃ n f, row C' (20 + 256 * w) n f) (h : sw C R w) : sw C' R' w := by
  obtain ⟨hc, hk, ha, k0, k1, a2, a5, a11, a12, a0, a13, ar⟩ := h
  have e309 : R' 309 w = R 309 w := hR _ _ (by unfold rcs; omega)
  have e565 : R' 565 w = R 565 w := hR _ _ (by unfold rcs; omega)
  have e821 : R' 821 w = R 821 w := hR _ _ (by unfold rcs; omega)
  have e1077 : R' 1077 w = R 1077 w := hR _ _ (by unfold rcs; omega)
  unfold sw
  rw [e309, e565, e821, hC _ 6 (by unfold wst; omega), hC _ 7 (by unfold wst; omega)]
  refine ⟨cshape_congr hC hc, hk, ha, k0, k1, a2, a5, a11, a12, fun q => ?_, fun q => ?_, ?_⟩
  · obtain ⟨x, y⟩ := a0 q
    refine ⟨row_ext (rok_w hw hw2) (hrow (by omega) _ _ x) (fun _ _ _ => rfl) (fun _ _ => rfl) (fun k a b c => hR _ _ (by unfold rcs; omega)), y⟩
  · obtain ⟨b1, b2, b3, b4⟩ := a13 q
    unfold st13
    rw [e1077]
    refine ⟨b1, b2, (hC _ _ (by unfold wst; omega)).trans b3, fun i x y => ?_⟩
    obtain ⟨z1, z2, z3, z4⟩ := b4 i x y
    rw [hR 64 _ (by unfold rcs; omega), hR 320 _ (by unfold rcs; omega), hR 576 _ (by unfold rcs; omega), hC (59 + 256 * w) _ (by unfold wst; omega), hC (73 + 256 * w) _ (by unfold wst; omega), hC (74 + 256 * w) _ (by unfold wst; omega)]
    exact ⟨z1, z2, z3, z4⟩
  · by_cases q : R 309 w = 9
    · exact hrow9 q
    · obtain ⟨n, f, x⟩ := ar
      exact ⟨n, f, hrow q n f x⟩
theorem rb_congr {R R' : am_M} {b t : Int} {h V : Int → Int} (hR : ∀ L, L = 2109 ∨ L = 1597 ∨ L = 2621 ∨ L = 2877 ∨ L = 3133 → R' L b = R L b) (hc : R 17 29 ≤ R' 17 29) (h69 : ∀ k, 0 ≤ k → k < R 2109 b → R' 69 (h k) = R 69 (h k)) (h70 : ∀ k, 0 ≤ k → k + 1 < R 2109 b → R' 70 (h k) = R 70 (h k)) (q : rb R b h V t) : rb R' b h V t := by
  obtain ⟨a1, a2, a3, a4, a5, a6, a7, a8, a9⟩ := q
  unfold rb
  rw [hR 2109 (by omega), hR 1597 (by omega), hR 2621 (by omega), hR 2877 (by omega), hR 3133 (by omega)]
  refine ⟨a1, a2, a3, a4, a5, a6, fun k x y => ?_, fun k x y => ?_, a9⟩
  · obtain ⟨z1, z2, z3⟩ := a7 k x y
    exact ⟨z1, by omega, by rw [h69 k x y]; exact z3⟩
  · rw [h70 k x y]; exact a8 k x y
/-- what an act of w on the band b may touch -/
def cta (w b L i : Int) : Prop := twR w L i ∨ bt b L ∨ L = -2 ∨ (L = -1 ∧ bt b i) ∨ (L = 16 ∧ i = 8)
def rta (w b L i : Int) : Prop := rtw w L i ∨ (L = 17 ∧ (i = 29 ∨ i = 42)) ∨ L = 69 ∨ L = 70 ∨ ((L = 65 ∨ L = 2877 ∨ L = 2109 ∨ L = 2621 ∨ L = 1597 ∨ L = 1853 ∨ L = 3133) ∧ i = b)
theorem row_other {C C' : am_M} {w n : Int} {f : Int → Int} (hw : 0 ≤ w) (hw2 : w < 40) (h1 : ∀ L i, rt (20 + 256 * w) L → C' L i = C L i) (h2 : ∀ L, rt (20 + 256 * w) L → C' (-1) L = C (-1) L) (h : row C (20 + 256 * w) n f) : row C' (20 + 256 * w) n f :=
  row_ext (rok_w hw hw2) h h1 h2 (fun _ _ _ _ => rfl)
set_option maxHeartbeats 4000000 in
theorem RR_step {C C' R R' : am_M} {h h' V V' : Int → Int → Int} {t t' : Int → Int} {w b : Int} (H : RR C R h V t) (w0 : 0 ≤ w) (w1 : w < R 17 0) (b0 : -1 ≤ b) (b1 : b < R 17 11) (fC : fr2 (cta w b) C C') (fR : fr2 (rta w b) R R')
    (c69 : ∀ b' k, 0 ≤ b' → b' < R 17 11 → b' ≠ b → 0 ≤ k → k < R 2109 b' → R' 69 (h b' k) = R 69 (h b' k)) (c70 : ∀ b' k, 0 ≤ b' → b' < R 17 11 → b' ≠ b → 0 ≤ k → k + 1 < R 2109 b' → R' 70 (h b' k) = R 70 (h b' k))
    (cm : R 17 29 ≤ R' 17 29) (cm2 : R' 17 29 ≤ R' 17 42) (am : R 17 42 ≤ R' 17 42) (am2 : R' 17 42 ≤ 42000) (ac : C' 16 8 = R' 17 42)
    (gh : ∀ b', b' ≠ b → h' b' = h b') (gV : ∀ b', b' ≠ b → V' b' = V b') (gV2 : ∀ k, 0 ≤ k → k < R 2109 b → V' b k = V b k) (gt : ∀ b', 0 ≤ b' → (b' ≠ b ∨ R 317 b' ≠ w) → t' b' = t b')
    (hst : R' 1333 w ≤ 2 → R 1333 w ≤ 2) (hrow : R 309 w ≠ 9 → ∀ n f, row C (20 + 256 * w) n f → row C' (20 + 256 * w) n f) (hrow9 : R 309 w = 9 → ∃ n f, row C' (20 + 256 * w) n f)
    (hwr : wr C' R' V' t' w) (hbr : 0 ≤ b → br C' R' (h' b) (V' b) (t' b) b) (hinj' : hinj R' h') : RR C' R' h' V' t' := by
  obtain ⟨hR, hh, ⟨hn1, hn2⟩, ⟨ho1, ho2⟩, hwh, r1, r2, r3, r4, r5, r6, r7, r8, r9, r10, r11, r12, r13, r14⟩ := H
  obtain ⟨g0, g1, g2, g3, g4, g5, g6, g7, g8, g9, g10, g11, g12, g13⟩ := hh
  have eC : ∀ L i, ¬ cta w b L i → C' L i = C L i := fC
  have eR : ∀ L i, ¬ rta w b L i → R' L i = R L i := fR
  have W0 : R' 17 0 = R 17 0 := eR _ _ (by unfold rta rtw; omega)
  have B0 : R' 17 11 = R 17 11 := eR _ _ (by unfold rta rtw; omega)
  have c16 : ∀ i, i ≠ 8 → C' 16 i = C 16 i := fun i hi => eC _ _ (by unfold cta twR twr twa bt; omega)
  refine ⟨rs_fr hR fR (fun i => by unfold rta rtw; omega), ?_, ⟨fun u u0 u1 => ?_, fun d d0 d1 => ?_⟩, ⟨fun u u0 u1 => ?_, fun d d0 d1 => ?_⟩, fun u u0 u1 => ?_, ?_, ?_, ac, ?_, by omega, am2, ?_, ?_, fun i i0 i1 i2 => ?_, by omega, cm2, fun u u0 u1 => ?_, fun d d0 d1 => ?_, hinj'⟩
  · rw [hall, c16 0 (by decide), c16 1 (by decide), c16 2 (by decide), c16 3 (by decide), c16 4 (by decide), c16 5 (by decide), W0, B0, eC 12 0 (by unfold cta twR twr twa bt; omega), eC 12 1 (by unfold cta twR twr twa bt; omega), eC 12 2 (by unfold cta twR twr twa bt; omega)]
    refine ⟨g0, g1, g2, g3, g4, g5, g6, g7, g8, g9, g10, g11, g12, fun k k0 k1 => ?_⟩
    rw [eC 2 k (by unfold cta twR twr twa bt; omega), eC 3 k (by unfold cta twR twr twa bt; omega)]
    exact g13 k k0 k1
  · rw [W0] at u1
    obtain ⟨x1, x2, x3⟩ := hn1 u u0 u1
    refine ⟨(eC _ _ (by unfold cta twR twr twa bt; omega)).trans x1, ?_, ?_⟩
    · by_cases e : u = w
      · subst e
        exact sw_congr u0 (by omega) (fun L i q => eC _ _ (by unfold wst at q; unfold cta twR twr twa bt; omega)) (fun L i q => eR _ _ (by unfold rcs at q; unfold rta rtw; omega)) hrow hrow9 x2
      · refine sw_congr u0 (by omega) (fun L i q => eC _ _ (by unfold wst at q; unfold cta twR twr twa bt; omega)) (fun L i q => eR _ _ (by unfold rcs at q; unfold rta rtw; omega)) (fun _ n f q => ?_) (fun q => ?_) x2
        · exact row_other u0 (by omega) (fun L i p => eC _ _ (by unfold rt at p; unfold cta twR twr twa bt; omega)) (fun L p => eC _ _ (by unfold rt at p; unfold cta twR twr twa bt; omega)) q
        · obtain ⟨_, _, _, _, _, _, _, _, _, _, _, n, f, y⟩ := x2
          exact ⟨n, f, row_other u0 (by omega) (fun L i p => eC _ _ (by unfold rt at p; unfold cta twR twr twa bt; omega)) (fun L p => eC _ _ (by unfold rt at p; unfold cta twR twr twa bt; omega)) y⟩
    · unfold prt
      refine ⟨fun p p0 p1 => ?_, fun p p0 p1 => ?_⟩
      · rw [eC (55 + 256 * u) p (by unfold cta twR twr twa bt; omega), eR 63 _ (by unfold rta rtw; omega), eR 317 _ (by unfold rta rtw; omega), B0]
        exact x3.1 p p0 p1
      · rw [eC (56 + 256 * u) p (by unfold cta twR twr twa bt; omega), eR 62 _ (by unfold rta rtw; omega), eR 61 _ (by unfold rta rtw; omega), B0]
        exact x3.2 p p0 p1
  · rw [B0] at d1
    rw [eC 51 d (by unfold cta twR twr twa bt; omega), eR 61 _ (by unfold rta rtw; omega), eR 317 _ (by unfold rta rtw; omega), eR 1085 _ (by unfold rta rtw; omega), W0]
    exact hn2 d d0 d1
  · rw [W0] at u0
    rw [eC 50 u (by unfold cta twR twr twa bt; omega)]
    rcases ho1 u u0 u1 with ⟨x, y⟩ | ⟨x, y, n, f, z⟩
    · exact Or.inl ⟨x, fun L q => (eC _ _ (by unfold wlab at q; unfold cta twR twr twa bt; omega)).trans (y L q)⟩
    · refine Or.inr ⟨x, cshape_congr (fun L i q => eC _ _ (by unfold wst at q; unfold cta twR twr twa bt; omega)) y, n, f, ?_⟩
      exact row_other (by omega) (by omega) (fun L i p => eC _ _ (by unfold rt at p; unfold cta twR twr twa bt; omega)) (fun L p => eC _ _ (by unfold rt at p; unfold cta twR twr twa bt; omega)) z
  · rw [B0] at d0
    rw [eC 51 d (by unfold cta twR twr twa bt; omega)]
    rcases ho2 d d0 d1 with ⟨x, y⟩ | ⟨x, fm, to, td, wn, tw, o, mo, mk, n, V0, t0, z⟩
    · exact Or.inl ⟨x, fun L q => (eC _ _ (by unfold bt at q; unfold cta twR twr twa bt; omega)).trans (y L q)⟩
    · exact Or.inr ⟨x, fm, to, td, wn, tw, o, mo, mk, n, V0, t0, bcl_ext (by omega) d1 z (fun L i q => eC _ _ (by unfold bt at q; unfold cta twR twr twa bt; omega)) (fun L q => eC _ _ (by unfold bt at q; unfold cta twR twr twa bt; omega)) (fun _ _ _ _ => rfl) (fun _ _ _ => rfl)⟩
  · rw [W0] at u1
    rw [eR 309 _ (by unfold rta rtw; omega)]
    obtain ⟨x, y⟩ := hwh u u0 u1
    refine ⟨fun p p0 p1 => ?_, fun p p0 p1 => ?_⟩
    · rw [eR 63 _ (by unfold rta rtw; omega)]; exact x p p0 p1
    · rw [eR 62 _ (by unfold rta rtw; omega)]; exact y p p0 p1
  · rw [eR 17 17 (by unfold rta rtw; omega)]; exact r1
  · rw [c16 9 (by decide)]; exact r2
  · rw [c16 7 (by decide), eR 17 43 (by unfold rta rtw; omega)]; exact r4
  · rw [eR 17 43 (by unfold rta rtw; omega)]; exact r7
  · rw [eR 17 43 (by unfold rta rtw; omega)]; exact r8
  · rw [eR 17 43 (by unfold rta rtw; omega)] at i2
    rw [eC 52 i (by unfold cta twR twr twa bt; omega), eR 308 i (by unfold rta rtw; omega)]
    exact r9 i i0 i1 i2
  · rw [W0] at u1
    by_cases e : u = w
    · subst e; exact hwr
    · obtain ⟨x1, x2, x3, x4, x5, x6, x7, x8⟩ := r12 u u0 u1
      obtain ⟨_, sw0, pr0⟩ := hn1 u u0 u1
      unfold wr
      rw [eC _ 12 (by unfold cta twR twr twa bt; omega), eC _ 13 (by unfold cta twR twr twa bt; omega), eR 1845 u (by unfold rta rtw; omega), eR 2101 u (by unfold rta rtw; omega), eR 309 u (by unfold rta rtw; omega), eR 63 _ (by unfold rta rtw; omega)]
      refine ⟨x1, x2, x3, by omega, x5, by omega, ?_, fun k9 => ?_⟩
      · unfold st at x7 ⊢
        rw [eC _ 8 (by unfold cta twR twr twa bt; omega), eC _ 14 (by unfold cta twR twr twa bt; omega), eC _ 15 (by unfold cta twR twr twa bt; omega), eR 1333 u (by unfold rta rtw; omega), eR 2357 u (by unfold rta rtw; omega), eR 2613 u (by unfold rta rtw; omega)]
        rcases x7 with q | q | ⟨q1, q2, q3⟩
        · exact Or.inl q
        · exact Or.inr (Or.inl q)
        · exact Or.inr (Or.inr ⟨q1, q2, ws_congr sw0 (fun L i q => eC _ _ (by unfold twa at q; unfold cta twR twr twa bt; omega)) (fun L i q => eR _ _ (by unfold rcw at q; unfold rta rtw; omega)) (eR _ _ (by unfold rta rtw; omega)) q3⟩)
      · obtain ⟨y1, y2⟩ := x8 k9
        have hp := (pr0.1 0 (by omega) (by omega)).2
        have hw0 := (hwh u u0 u1).1 0 (by omega) (by rw [k9]; decide)
        rw [Int.add_zero] at hp hw0
        obtain ⟨hp1, hp2⟩ := hp hw0
        obtain ⟨_, z2, _, _, _, _⟩ := r13 _ hw0 hp1
        have ht := gt (R 63 (3 * u)) hw0 (Or.inr (by omega))
        rw [ht]
        refine ⟨row_ext (rok_w u0 (by omega)) y1 (fun L i p => eC _ _ (by unfold rt at p; unfold cta twR twr twa bt; omega)) (fun L p => eC _ _ (by unfold rt at p; unfold cta twR twr twa bt; omega)) (fun k a c d => ?_), y2⟩
        by_cases eb : R 63 (3 * u) = b
        · rw [eb]
          rw [eb] at z2 y2
          exact gV2 k a (by unfold rb at z2; omega)
        · rw [gV _ eb]
  · rw [B0] at d1
    by_cases e : d = b
    · subst e; exact hbr d0
    · obtain ⟨x1, x2, x3, x4, x5, x6⟩ := r13 d d0 d1
      obtain ⟨_, n1, n2, n3, n4, _⟩ := hn2 d d0 d1
      rw [gh d e, gV d e, gt d d0 (Or.inl e)]
      unfold br
      rw [eR 61 d (by unfold rta rtw; omega), eR 317 d (by unfold rta rtw; omega), eR 1085 d (by unfold rta rtw; omega), eR 1341 d (by unfold rta rtw; omega), eR 2365 d (by unfold rta rtw; omega), eR 1597 d (by unfold rta rtw; omega), eR 1853 d (by unfold rta rtw; omega), eR 65 d (by unfold rta rtw; omega), eR 2109 d (by unfold rta rtw; omega)]
      refine ⟨bcl_ext d0 (by omega) x1 (fun L i q => eC _ _ (by unfold bt at q; unfold cta twR twr twa bt; omega)) (fun L q => eC _ _ (by unfold bt at q; unfold cta twR twr twa bt; omega)) (fun _ _ _ _ => rfl) (fun _ _ _ => rfl), ?_, x3, x4, by omega, fun q => x6 ?_⟩
      · exact rb_congr (fun L q => eR _ _ (by unfold rta rtw; omega)) cm (fun k a c => c69 d k d0 d1 e a c) (fun k a c => c70 d k d0 d1 e a c) x2
      · by_cases ew : R 317 d = w
        · rw [ew] at q ⊢; exact hst q
        · rw [eR 1333 _ (by unfold rta rtw; omega)] at q; exact q
