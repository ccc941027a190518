/-! the two halves of the memory: what the relation reads -/
/-- the hall's cells but for the scratch of its rates; the reference's cells but for its own -/
def FC (L i : Int) : Prop := ¬ FR L ∧ L ≠ 53 ∧ L ≠ 54 ∧ L ≠ 310 ∧ ¬ (L = 12 ∧ i = 3)
def FRr (L i : Int) : Prop := FR L ∧ L ≠ 3381 ∧ L ≠ 1078 ∧ L ≠ 1334 ∧ L ≠ 1590 ∧ ¬ (L = 17 ∧ i = 53)
section
variable {C C' R R' : am_M}
theorem rs_cong (eR : ∀ L i, FRr L i → R' L i = R L i) (h : rs R) : rs R' := by
  have e : ∀ i, i ≠ 53 → R' 17 i = R 17 i := fun i q => eR 17 i (by unfold FRr FR; omega)
  unfold rs at h ⊢
  simp (disch := decide) only [e]
  exact h
theorem hall_cong (eC : ∀ L i, FC L i → C' L i = C L i) (eR : ∀ L i, FRr L i → R' L i = R L i) (h : hall C R) : hall C' R' := by
  unfold hall at h ⊢
  rw [eC 16 0 (by first | (unfold FC FR; omega) | (unfold FRr FR; omega)), eC 16 1 (by first | (unfold FC FR; omega) | (unfold FRr FR; omega)), eC 16 2 (by first | (unfold FC FR; omega) | (unfold FRr FR; omega)), eC 16 3 (by first | (unfold FC FR; omega) | (unfold FRr FR; omega)), eC 16 4 (by first | (unfold FC FR; omega) | (unfold FRr FR; omega)), eC 16 5 (by first | (unfold FC FR; omega) | (unfold FRr FR; omega)), eC 12 0 (by first | (unfold FC FR; omega) | (unfold FRr FR; omega)), eC 12 1 (by first | (unfold FC FR; omega) | (unfold FRr FR; omega)), eC 12 2 (by first | (unfold FC FR; omega) | (unfold FRr FR; omega)), eR 17 0 (by first | (unfold FC FR; omega) | (unfold FRr FR; omega)), eR 17 11 (by first | (unfold FC FR; omega) | (unfold FRr FR; omega))]
  obtain ⟨g0, g1, g2, g3, g4, g5, g6, g7, g8, g9, g10, g11, g12, g13⟩ := h
  refine ⟨g0, g1, g2, g3, g4, g5, g6, g7, g8, g9, g10, g11, g12, fun k k0 k1 => ?_⟩
  rw [eC 2 k (by first | (unfold FC FR; omega) | (unfold FRr FR; omega)), eC 3 k (by first | (unfold FC FR; omega) | (unfold FRr FR; omega))]
  exact g13 k k0 k1
theorem row_cong (eC : ∀ L i, FC L i → C' L i = C L i) {u n : Int} {f : Int → Int} (u0 : 0 ≤ u) (u1 : u < 40) (h : row C (20 + 256 * u) n f) : row C' (20 + 256 * u) n f :=
  row_other u0 u1 (fun L i p => eC _ _ (by unfold rt at p; unfold FC FR; omega)) (fun L p => eC _ _ (by first | (unfold FC FR; omega) | (unfold FRr FR; omega))) h
theorem bcl_cong (eC : ∀ L i, FC L i → C' L i = C L i) {b fm to td wn tw o mo mk n t : Int} {V : Int → Int} (b0 : 0 ≤ b) (b1 : b < 60) (h : bcl C b fm to td wn tw o mo mk n V t) : bcl C' b fm to td wn tw o mo mk n V t :=
  bcl_ext b0 b1 h (fun L i q => eC _ _ (by unfold bt at q; unfold FC FR; omega)) (fun L q => eC _ _ (by first | (unfold FC FR; omega) | (unfold FRr FR; omega))) (fun _ _ _ _ => rfl) (fun _ _ _ => rfl)
theorem sw_cong (eC : ∀ L i, FC L i → C' L i = C L i) (eR : ∀ L i, FRr L i → R' L i = R L i) {u : Int} (u0 : 0 ≤ u) (u1 : u < 40) (h : sw C R u) : sw C' R' u :=
  sw_congr u0 u1 (fun L i q => eC _ _ (by unfold wst at q; unfold FC FR; omega)) (fun L i q => eR _ _ (by unfold rcs at q; unfold FRr FR; omega)) (fun _ n f q => row_cong eC u0 u1 q) (fun _ => by
    obtain ⟨_, _, _, _, _, _, _, _, _, _, _, n, f, y⟩ := h
    exact ⟨n, f, row_cong eC u0 u1 y⟩) h
theorem net_cong (eC : ∀ L i, FC L i → C' L i = C L i) (eR : ∀ L i, FRr L i → R' L i = R L i) (w1 : R 17 0 ≤ 40) (h : net C R) : net C' R' := by
  refine ⟨fun u u0 u1 => ?_, fun d d0 d1 => ?_⟩
  · rw [eR 17 0 (by first | (unfold FC FR; omega) | (unfold FRr FR; omega))] at u1
    obtain ⟨x1, x2, x3⟩ := h.1 u u0 u1
    refine ⟨(eC _ _ (by first | (unfold FC FR; omega) | (unfold FRr FR; omega))).trans x1, sw_cong eC eR u0 (by omega) x2, ?_⟩
    unfold prt
    refine ⟨fun p p0 p1 => ?_, fun p p0 p1 => ?_⟩
    · rw [eC (55 + 256 * u) p (by first | (unfold FC FR; omega) | (unfold FRr FR; omega)), eR 63 _ (by first | (unfold FC FR; omega) | (unfold FRr FR; omega)), eR 317 _ (by first | (unfold FC FR; omega) | (unfold FRr FR; omega)), eR 17 11 (by first | (unfold FC FR; omega) | (unfold FRr FR; omega))]; exact x3.1 p p0 p1
    · rw [eC (56 + 256 * u) p (by first | (unfold FC FR; omega) | (unfold FRr FR; omega)), eR 62 _ (by first | (unfold FC FR; omega) | (unfold FRr FR; omega)), eR 61 _ (by first | (unfold FC FR; omega) | (unfold FRr FR; omega)), eR 17 11 (by first | (unfold FC FR; omega) | (unfold FRr FR; omega))]; exact x3.2 p p0 p1
  · rw [eR 17 11 (by first | (unfold FC FR; omega) | (unfold FRr FR; omega))] at d1
    rw [eC 51 d (by first | (unfold FC FR; omega) | (unfold FRr FR; omega)), eR 61 _ (by first | (unfold FC FR; omega) | (unfold FRr FR; omega)), eR 317 _ (by first | (unfold FC FR; omega) | (unfold FRr FR; omega)), eR 1085 _ (by first | (unfold FC FR; omega) | (unfold FRr FR; omega)), eR 17 0 (by first | (unfold FC FR; omega) | (unfold FRr FR; omega))]
    exact h.2 d d0 d1
theorem objs_cong (eC : ∀ L i, FC L i → C' L i = C L i) {W B : Int} (W0 : 0 ≤ W) (B0 : 0 ≤ B) (h : objs C W B) : objs C' W B := by
  refine ⟨fun u u0 u1 => ?_, fun d d0 d1 => ?_⟩
  · rw [eC 50 u (by first | (unfold FC FR; omega) | (unfold FRr FR; omega))]
    rcases h.1 u u0 u1 with ⟨x, y⟩ | ⟨x, y, n, f, z⟩
    · exact Or.inl ⟨x, fun L q => (eC _ _ (by first | (unfold FC FR; omega) | (unfold FRr FR; omega))).trans (y L q)⟩
    · exact Or.inr ⟨x, cshape_congr (fun L i q => eC _ _ (by unfold wst at q; unfold FC FR; omega)) y, n, f, row_cong eC (by omega) u1 z⟩
  · rw [eC 51 d (by first | (unfold FC FR; omega) | (unfold FRr FR; omega))]
    rcases h.2 d d0 d1 with ⟨x, y⟩ | ⟨x, fm, to, td, wn, tw, o, mo, mk, n, V0, t0, z⟩
    · exact Or.inl ⟨x, fun L q => (eC _ _ (by first | (unfold FC FR; omega) | (unfold FRr FR; omega))).trans (y L q)⟩
    · exact Or.inr ⟨x, fm, to, td, wn, tw, o, mo, mk, n, V0, t0, bcl_cong eC (by omega) d1 z⟩
theorem ws_cong (eC : ∀ L i, FC L i → C' L i = C L i) (eR : ∀ L i, FRr L i → R' L i = R L i) {u : Int} (hs : sw C R u) (h : ws C R u) : ws C' R' u :=
  ws_congr hs (fun L i q => eC _ _ (by unfold twa at q; unfold FC FR; omega)) (fun L i q => eR _ _ (by unfold rcw at q; unfold FRr FR; omega)) (eR _ _ (by first | (unfold FC FR; omega) | (unfold FRr FR; omega))) h
theorem RR_cong (eC : ∀ L i, FC L i → C' L i = C L i) (eR : ∀ L i, FRr L i → R' L i = R L i) {h V : Int → Int → Int} {t : Int → Int} (H : RR C R h V t) : RR C' R' h V t := by
  obtain ⟨hR, hh, hn, ho, hwh, r1, r2, r3, r4, r5, r6, r7, r8, r9, r10, r11, r12, r13, r14⟩ := H
  obtain ⟨_, _, _, _, _, _, _, _, _, g9, g10, g11, g12, _⟩ := id hh
  have W0 : R' 17 0 = R 17 0 := eR _ _ (by first | (unfold FC FR; omega) | (unfold FRr FR; omega))
  have B0 : R' 17 11 = R 17 11 := eR _ _ (by first | (unfold FC FR; omega) | (unfold FRr FR; omega))
  have e42 : R' 17 42 = R 17 42 := eR _ _ (by first | (unfold FC FR; omega) | (unfold FRr FR; omega))
  have e43 : R' 17 43 = R 17 43 := eR _ _ (by first | (unfold FC FR; omega) | (unfold FRr FR; omega))
  have e29 : R' 17 29 = R 17 29 := eR _ _ (by first | (unfold FC FR; omega) | (unfold FRr FR; omega))
  refine ⟨rs_cong eR hR, hall_cong eC eR hh, net_cong eC eR g10 hn, by rw [W0, B0]; exact objs_cong eC g9 g11 ho, fun u u0 u1 => ?_, ?_, ?_, ?_, ?_, by omega, by omega, by omega, by omega, fun i i0 i1 i2 => ?_, by omega, by omega, fun u u0 u1 => ?_, fun d d0 d1 => ?_, fun b b' k k' p1 p2 p3 p4 p5 p6 p7 p8 p9 => ?_⟩
  · obtain ⟨x, y⟩ := hwh u u0 (by omega)
    rw [eR 309 _ (by first | (unfold FC FR; omega) | (unfold FRr FR; omega))]
    refine ⟨fun p p0 p1 => ?_, fun p p0 p1 => ?_⟩
    · rw [eR 63 _ (by first | (unfold FC FR; omega) | (unfold FRr FR; omega))]; exact x p p0 p1
    · rw [eR 62 _ (by first | (unfold FC FR; omega) | (unfold FRr FR; omega))]; exact y p p0 p1
  · rw [eR 17 17 (by first | (unfold FC FR; omega) | (unfold FRr FR; omega))]; exact r1
  · rw [eC 16 9 (by first | (unfold FC FR; omega) | (unfold FRr FR; omega))]; exact r2
  · rw [eC 16 8 (by first | (unfold FC FR; omega) | (unfold FRr FR; omega)), e42]; exact r3
  · rw [eC 16 7 (by first | (unfold FC FR; omega) | (unfold FRr FR; omega)), e43]; exact r4
  · rw [eC 52 i (by first | (unfold FC FR; omega) | (unfold FRr FR; omega)), eR 308 i (by first | (unfold FC FR; omega) | (unfold FRr FR; omega))]; exact r9 i i0 i1 (by omega)
  · obtain ⟨x1, x2, x3, x4, x5, x6, x7, x8⟩ := r12 u u0 (by omega)
    have hs := (hn.1 u u0 (by omega)).2.1
    unfold wr
    rw [eC _ 12 (by first | (unfold FC FR; omega) | (unfold FRr FR; omega)), eC _ 13 (by first | (unfold FC FR; omega) | (unfold FRr FR; omega)), eR 1845 u (by first | (unfold FC FR; omega) | (unfold FRr FR; omega)), eR 2101 u (by first | (unfold FC FR; omega) | (unfold FRr FR; omega)), eR 309 u (by first | (unfold FC FR; omega) | (unfold FRr FR; omega)), eR 63 _ (by first | (unfold FC FR; omega) | (unfold FRr FR; omega)), e42]
    refine ⟨x1, x2, x3, x4, x5, x6, ?_, fun k9 => ⟨row_cong eC u0 (by omega) (x8 k9).1, (x8 k9).2⟩⟩
    unfold st at x7 ⊢
    rw [eC _ 8 (by first | (unfold FC FR; omega) | (unfold FRr FR; omega)), eC _ 14 (by first | (unfold FC FR; omega) | (unfold FRr FR; omega)), eC _ 15 (by first | (unfold FC FR; omega) | (unfold FRr FR; omega)), eR 1333 u (by first | (unfold FC FR; omega) | (unfold FRr FR; omega)), eR 2357 u (by first | (unfold FC FR; omega) | (unfold FRr FR; omega)), eR 2613 u (by first | (unfold FC FR; omega) | (unfold FRr FR; omega))]
    rcases x7 with q | q | ⟨q1, q2, q3⟩
    · exact Or.inl q
    · exact Or.inr (Or.inl q)
    · exact Or.inr (Or.inr ⟨q1, q2, ws_cong eC eR hs q3⟩)
  · obtain ⟨z1, z2, z3, z4, z5, z6⟩ := r13 d d0 (by omega)
    unfold br
    rw [eR 61 d (by first | (unfold FC FR; omega) | (unfold FRr FR; omega)), eR 317 d (by first | (unfold FC FR; omega) | (unfold FRr FR; omega)), eR 1085 d (by first | (unfold FC FR; omega) | (unfold FRr FR; omega)), eR 1341 d (by first | (unfold FC FR; omega) | (unfold FRr FR; omega)), eR 2365 d (by first | (unfold FC FR; omega) | (unfold FRr FR; omega)), eR 1597 d (by first | (unfold FC FR; omega) | (unfold FRr FR; omega)), eR 1853 d (by first | (unfold FC FR; omega) | (unfold FRr FR; omega)), eR 65 d (by first | (unfold FC FR; omega) | (unfold FRr FR; omega)), eR 2109 d (by first | (unfold FC FR; omega) | (unfold FRr FR; omega)), eR 1333 _ (by first | (unfold FC FR; omega) | (unfold FRr FR; omega)), e29]
    refine ⟨bcl_cong eC d0 (by omega) z1, rb_congr (fun L q => eR _ _ (by unfold FRr FR; omega)) (by omega) (fun k _ _ => eR _ _ (by first | (unfold FC FR; omega) | (unfold FRr FR; omega))) (fun k _ _ => eR _ _ (by first | (unfold FC FR; omega) | (unfold FRr FR; omega))) z2, z3, z4, z5, z6⟩
  · rw [eR 2109 _ (by first | (unfold FC FR; omega) | (unfold FRr FR; omega))] at p6 p8
    exact r14 b b' k k' p1 (by omega) p3 (by omega) p5 p6 p7 p8 p9
theorem NR_cong (eC : ∀ L i, FC L i → C' L i = C L i) (eR : ∀ L i, FRr L i → R' L i = R L i) (H : NR C R) : NR C' R' := by
  obtain ⟨hR, hh, hn, ho, n1, n2, n3, n4, n5, n6⟩ := H
  obtain ⟨_, _, _, _, _, _, _, _, _, g9, g10, g11, g12, _⟩ := id hh
  have W0 : R' 17 0 = R 17 0 := eR _ _ (by first | (unfold FC FR; omega) | (unfold FRr FR; omega))
  have B0 : R' 17 11 = R 17 11 := eR _ _ (by first | (unfold FC FR; omega) | (unfold FRr FR; omega))
  refine ⟨rs_cong eR hR, hall_cong eC eR hh, net_cong eC eR g10 hn, by rw [W0, B0]; exact objs_cong eC g9 g11 ho, (eR _ _ (by first | (unfold FC FR; omega) | (unfold FRr FR; omega))).trans n1, (eC _ _ (by first | (unfold FC FR; omega) | (unfold FRr FR; omega))).trans n2, (eC _ _ (by first | (unfold FC FR; omega) | (unfold FRr FR; omega))).trans n3, (eC _ _ (by first | (unfold FC FR; omega) | (unfold FRr FR; omega))).trans n4, fun d d0 d1 V t => ?_, fun u u0 u1 => ?_⟩
  · rw [eR 61 d (by first | (unfold FC FR; omega) | (unfold FRr FR; omega)), eR 317 d (by first | (unfold FC FR; omega) | (unfold FRr FR; omega)), eR 1085 d (by first | (unfold FC FR; omega) | (unfold FRr FR; omega))]
    exact bcl_cong eC d0 (by omega) (n5 d d0 (by omega) V t)
  · unfold nw
    rw [eC _ 12 (by first | (unfold FC FR; omega) | (unfold FRr FR; omega)), eC _ 13 (by first | (unfold FC FR; omega) | (unfold FRr FR; omega)), eC _ 8 (by first | (unfold FC FR; omega) | (unfold FRr FR; omega)), eC _ 1 (by first | (unfold FC FR; omega) | (unfold FRr FR; omega)), eR 309 u (by first | (unfold FC FR; omega) | (unfold FRr FR; omega))]
    exact n6 u u0 (by omega)
end
/-! open ports -/
def un (x : Int) : Int := if x < 0 then 1 else 0
def cnt (R : am_M) (L b : Int) : Nat → Int
  | 0 => 0
  | n + 1 => cnt R L b n + un (R L (b + n))
def opw (R : am_M) (w : Int) : Int := cnt R 63 (3 * w) (k_in (R 309 w)).toNat + cnt R 62 (2 * w) (k_out (R 309 w)).toNat
def opn (R : am_M) : Nat → Int
  | 0 => 0
  | n + 1 => opn R n + opw R n
def opc (R : am_M) : Int := opn R (R 17 0).toNat
theorem un_b (x : Int) : 0 ≤ un x ∧ un x ≤ 1 ∧ (un x = 0 ↔ 0 ≤ x) := by
  unfold un
  split <;> omega
theorem cnt_b (R : am_M) (L b : Int) : ∀ n : Nat, 0 ≤ cnt R L b n ∧ cnt R L b n ≤ n ∧ (cnt R L b n = 0 ↔ ∀ p, 0 ≤ p → p < (n : Int) → 0 ≤ R L (b + p)) := by
  intro n
  induction n with
  | zero => exact ⟨Int.le_refl _, Int.le_refl _, fun _ p a c => by omega, fun _ => rfl⟩
  | succ n ih =>
    obtain ⟨i1, i2, i3⟩ := ih
    obtain ⟨u1, u2, u3⟩ := un_b (R L (b + n))
    have e : cnt R L b (n + 1) = cnt R L b n + un (R L (b + n)) := rfl
    rw [e]
    refine ⟨by omega, by omega, fun q p a c => ?_, fun q => ?_⟩
    · by_cases z : p = n
      · rw [z]; exact u3.mp (by omega)
      · exact i3.mp (by omega) p a (by omega)
    · have z1 := i3.mpr (fun p a c => q p a (by omega))
      have z2 := u3.mpr (q n (by omega) (by omega))
      omega
theorem kin_b (k : Int) : 0 ≤ k_in k ∧ k_in k ≤ 3 := by
  unfold k_in
  split
  · omega
  · split
    · omega
    · split <;> omega
theorem kout_b (k : Int) : 0 ≤ k_out k ∧ k_out k ≤ 2 := by
  unfold k_out
  split
  · omega
  · split <;> omega
def wwh (R : am_M) (w : Int) : Prop := (∀ p, 0 ≤ p → p < k_in (R 309 w) → 0 ≤ R 63 (3 * w + p)) ∧ (∀ p, 0 ≤ p → p < k_out (R 309 w) → 0 ≤ R 62 (2 * w + p))
theorem opw_b (R : am_M) (w : Int) : 0 ≤ opw R w ∧ opw R w ≤ 5 ∧ (opw R w = 0 ↔ wwh R w) := by
  obtain ⟨a1, a2, a3⟩ := cnt_b R 63 (3 * w) (k_in (R 309 w)).toNat
  obtain ⟨b1, b2, b3⟩ := cnt_b R 62 (2 * w) (k_out (R 309 w)).toNat
  obtain ⟨c1, c2⟩ := kin_b (R 309 w)
  obtain ⟨d1, d2⟩ := kout_b (R 309 w)
  have e : opw R w = cnt R 63 (3 * w) (k_in (R 309 w)).toNat + cnt R 62 (2 * w) (k_out (R 309 w)).toNat := rfl
  rw [e]
  refine ⟨by omega, by omega, fun q => ⟨fun p p0 p1 => a3.mp (by omega) p p0 (by omega), fun p p0 p1 => b3.mp (by omega) p p0 (by omega)⟩, fun q => ?_⟩
  have z1 := a3.mpr (fun p p0 p1 => q.1 p p0 (by omega))
  have z2 := b3.mpr (fun p p0 p1 => q.2 p p0 (by omega))
  omega
theorem opn_b (R : am_M) : ∀ n : Nat, 0 ≤ opn R n ∧ opn R n ≤ 5 * n ∧ (opn R n = 0 ↔ ∀ w, 0 ≤ w → w < (n : Int) → wwh R w) := by
  intro n
  induction n with
  | zero => exact ⟨Int.le_refl _, Int.le_refl _, fun _ p a c => by omega, fun _ => rfl⟩
  | succ n ih =>
    obtain ⟨i1, i2, i3⟩ := ih
    obtain ⟨u1, u2, u3⟩ := opw_b R n
    have e : opn R (n + 1) = opn R n + opw R n := rfl
    rw [e]
    refine ⟨by omega, by omega, fun q p a c => ?_, fun q => ?_⟩
    · by_cases z : p = n
      · rw [z]; exact u3.mp (by omega)
      · exact i3.mp (by omega) p a (by omega)
    · have z1 := i3.mpr (fun p a c => q p a (by omega))
      have z2 := u3.mpr (q n (by omega) (by omega))
      omega
theorem opc_b {R : am_M} (w0 : 0 ≤ R 17 0) (w1 : R 17 0 ≤ 40) : 0 ≤ opc R ∧ opc R ≤ 200 ∧ (opc R = 0 ↔ whole R) := by
  obtain ⟨a, b, c⟩ := opn_b R (R 17 0).toNat
  unfold opc
  refine ⟨a, by omega, fun q w w0 w1 => c.mp q w w0 (by omega), fun q => c.mpr (fun w w0 w1 => q w w0 (by omega))⟩
theorem cnt_congr {R R' : am_M} {L b : Int} : ∀ n : Nat, (∀ p, 0 ≤ p → p < (n : Int) → R' L (b + p) = R L (b + p)) → cnt R' L b n = cnt R L b n := by
  intro n
  induction n with
  | zero => intro _; rfl
  | succ n ih =>
    intro h
    show cnt R' L b n + un (R' L (b + n)) = cnt R L b n + un (R L (b + n))
    rw [ih (fun p a c => h p a (by omega)), h n (by omega) (by omega)]
theorem opw_congr {R R' : am_M} {w : Int} (h9 : R' 309 w = R 309 w) (h1 : ∀ p, 0 ≤ p → p < 3 → R' 63 (3 * w + p) = R 63 (3 * w + p)) (h2 : ∀ p, 0 ≤ p → p < 2 → R' 62 (2 * w + p) = R 62 (2 * w + p)) : opw R' w = opw R w := by
  have a := kin_b (R 309 w)
  have b := kout_b (R 309 w)
  unfold opw
  rw [h9, cnt_congr _ (fun p p0 p1 => h1 p p0 (by omega)), cnt_congr _ (fun p p0 p1 => h2 p p0 (by omega))]
theorem opn_congr {R R' : am_M} : ∀ n : Nat, (∀ w, 0 ≤ w → w < (n : Int) → opw R' w = opw R w) → opn R' n = opn R n := by
  intro n
  induction n with
  | zero => intro _; rfl
  | succ n ih =>
    intro h
    show opn R' n + opw R' n = opn R n + opw R n
    rw [ih (fun p a c => h p a (by omega)), h n (by omega) (by omega)]
theorem opc_same {R R' : am_M} (h0 : R' 17 0 = R 17 0) (h9 : ∀ i, R' 309 i = R 309 i) (h63 : ∀ i, R' 63 i = R 63 i) (h62 : ∀ i, R' 62 i = R 62 i) : opc R' = opc R := by
  unfold opc
  rw [h0]
  exact opn_congr _ (fun w _ _ => opw_congr (h9 w) (fun p _ _ => h63 _) (fun p _ _ => h62 _))
/-- what holds between calls -/
def INV (C R : am_M) : Prop := C 16 6 = opc R ∧ (NR C R ∨ ∃ h V t, RR C R h V t ∧ R 17 43 ≤ R 17 42)
theorem INV_cong {C C' R R' : am_M} (eC : ∀ L i, FC L i → C' L i = C L i) (eR : ∀ L i, FRr L i → R' L i = R L i) (H : INV C R) : INV C' R' := by
  obtain ⟨a, b⟩ := H
  refine ⟨?_, ?_⟩
  · rw [eC 16 6 (by first | (unfold FC FR; omega) | (unfold FRr FR; omega)), a, opc_same (eR _ _ (by first | (unfold FC FR; omega) | (unfold FRr FR; omega))) (fun i => eR _ _ (by first | (unfold FC FR; omega) | (unfold FRr FR; omega))) (fun i => eR _ _ (by first | (unfold FC FR; omega) | (unfold FRr FR; omega))) (fun i => eR _ _ (by first | (unfold FC FR; omega) | (unfold FRr FR; omega)))]
  · rcases b with b | ⟨h, V, t, b, c⟩
    · exact Or.inl (NR_cong eC eR b)
    · exact Or.inr ⟨h, V, t, RR_cong eC eR b, by rw [eR 17 43 (by first | (unfold FC FR; omega) | (unfold FRr FR; omega)), eR 17 42 (by first | (unfold FC FR; omega) | (unfold FRr FR; omega))]; exact c⟩
/-- the hall leaves the reference's cells, the script and the tables -/
def cf2 (C C' : am_M) : Prop := ∀ L i, (FR L ∨ (1 ≤ L ∧ L ≤ 3)) → C' L i = C L i
theorem cf2_of {C C' : am_M} (h : cfr C C') : cf2 C C' := fun L i q => h L i (q.elim Or.inl (fun z => Or.inr (Or.inl z)))
theorem cf2_refl (C : am_M) : cf2 C C := fun _ _ _ => rfl
theorem cf2_trans {A B C : am_M} (h1 : cf2 A B) (h2 : cf2 B C) : cf2 A C := fun L i q => (h2 L i q).trans (h1 L i q)
def API (nx nm : Nat) (as : List am_V) : Prop := ∀ C R, INV C R → ∃ ans C' R', am_evm am_PP nx ((2, 16) :: as) C = some (ans, C') ∧ am_evm am_PP nm ((2, 17) :: as) R = some (ans, R') ∧ INV C' R' ∧ cf2 C C' ∧ rfr R R'
/-- a call of both over one memory -/
theorem api_one {nx nm : Nat} {as : List am_V} (h : API nx nm as) {M : am_M} (H : INV M M) : ∃ ans M1 M2, am_evm am_PP nx ((2, 16) :: as) M = some (ans, M1) ∧ am_evm am_PP nm ((2, 17) :: as) M1 = some (ans, M2) ∧ INV M2 M2 ∧ (∀ i, M1 1 i = M 1 i) ∧ (∀ i, M2 1 i = M 1 i) := by
  obtain ⟨a, C1, R1, h1, -, -, h4, -⟩ := h M M H
  obtain ⟨a', C2, R2, k1, k2, k3, -, k5⟩ := h M C1 (INV_cong (fun _ _ _ => rfl) (fun L i q => h4 L i (Or.inl q.1)) H)
  rw [h1] at k1
  cases k1
  refine ⟨a, C1, R2, h1, k2, INV_cong (fun L i q => k5 L i q.1) (fun _ _ _ => rfl) k3, fun i => h4 1 i (Or.inr (by omega)), fun i => (k5 1 i (by unfold FR; omega)).trans (h4 1 i (Or.inr (by omega)))⟩
/-- both while it runs and while it does not -/
theorem INV_hall {C R : am_M} (H : INV C R) : rs R ∧ hall C R ∧ net C R ∧ objs C (R 17 0) (R 17 11) := by
  obtain ⟨_, ⟨a, b, c, d, _⟩ | ⟨_, _, _, ⟨a, b, c, d, _⟩, _⟩⟩ := H
  · exact ⟨a, b, c, d⟩
  · exact ⟨a, b, c, d⟩
