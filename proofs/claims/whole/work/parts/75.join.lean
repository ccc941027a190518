/-! a new band -/
def bsh (C : am_M) (b : Int) : Prop := C (10 + 256 * b) 0 = b ∧ C (10 + 256 * b) 1 = 30 + 256 * b ∧ ∃ n o V t, row C (30 + 256 * b) n V ∧ ring C b o (fun k => V (t + k))
set_option maxHeartbeats 4000000 in
theorem mk_band {C : am_M} {b x y z f t : Int} (b0 : 0 ≤ b) (b1 : b < 60) (g1 : C 16 1 = 51) (h5 : C 16 5 = b) (hm : ∀ L, bt b L → C (-1) L = 0) : ∃ C', am_ev am_PP nX6_band 15 [16, x, y, z, f, t] [] C = am_ev am_PP nX6_band 16 [16, x, y, z, f, t, 10 + 256 * b] [] C' ∧ C' 51 b = 10 + 256 * b ∧ bsh C' b ∧ ∀ L i, ¬ (bt b L ∨ L = -2 ∨ (L = -1 ∧ bt b i) ∨ (L = 51 ∧ i = b)) → C' L i = C L i := by
  have f10 := hm (10 + 256 * b) (by unfold bt; omega)
  have f30 := hm (30 + 256 * b) (by unfold bt; omega)
  have f31 := hm (31 + 256 * b) (by unfold bt; omega)
  have f41 := hm (41 + 256 * b) (by unfold bt; omega)
  simp (disch := first | omega | (simp (disch := omega) only [am_up_nl, am_alloc_mn, f10, f30, f31, f41])) only [be_X6_band_15, be_X0_init_m, be_X0_init_0, be_X3_init_m, be_X3_init_0, Option.bind_some, cond_true, cond_false, decide_true, decide_false, Bool.not_true, Bool.not_false, ite_true, ite_false, and_self, true_and, and_true, or_self, true_or, or_true, false_or, or_false, decide_eq_true_eq, Int.reduceAdd, Int.reduceSub, Int.reduceMul, Int.reduceNeg, Int.reduceEq, Int.reduceLT, Int.reduceLE, Int.reduceNe, lcmp_z, lcmp_le, lcmp_ge, lcmp_lt, lcmp_gt, if_neg, gf_16, gf_10, pf_10, pf_30, sa_51, no_10, no_30, na_31, na_41, dv_10, dv_30, pl_30, am_up_eq, am_up_nl, am_up_ni, am_alloc_nl, am_alloc_z, g1, h5]
  refine ⟨_, rfl, ?_, ⟨?_, ?_, 0, 0, fun _ => 0, 0, ⟨0, by omega, by omega, ?_, ?_, by omega, Or.inl (by decide), fun g' p q => ?_, fun k p q => by omega⟩, 0, 0, by omega, by omega, ?_, ?_, ?_, by omega, by decide, by omega, by decide, fun g' p q => ?_, fun k p q => by omega⟩, fun L i q => ?_⟩
  · simp (disch := omega) only [am_up_eq, am_up_nl, am_up_ni, am_alloc_nl, am_alloc_z]
  · simp (disch := omega) only [am_up_eq, am_up_nl, am_up_ni, am_alloc_nl, am_alloc_z]
  · simp (disch := omega) only [am_up_eq, am_up_nl, am_up_ni, am_alloc_nl, am_alloc_z]
  · simp (disch := omega) only [am_up_eq, am_up_nl, am_up_ni, am_alloc_nl, am_alloc_z]
    omega
  · simp (disch := omega) only [am_up_eq, am_up_nl, am_up_ni, am_alloc_nl, am_alloc_z]
  · have := hm (30 + 256 * b + 1 + g') (by unfold bt; omega)
    simp (disch := omega) only [am_up_nl, am_alloc_mn]
    exact this
  · simp (disch := omega) only [am_up_eq, am_up_nl, am_up_ni, am_alloc_nl, am_alloc_z]
    omega
  · simp (disch := omega) only [am_up_eq, am_up_nl, am_up_ni, am_alloc_nl, am_alloc_z]
  · simp (disch := omega) only [am_up_eq, am_up_nl, am_up_ni, am_alloc_nl, am_alloc_z]
  · have := hm (41 + g' + 256 * b) (by unfold bt; omega)
    simp (disch := omega) only [am_up_nl, am_alloc_mn]
    exact this
  · unfold bt at q
    by_cases e : L = -1
    · subst e
      simp (disch := omega) only [am_up_nl, am_alloc_mn]
    · simp (disch := omega) only [am_up_or, am_alloc_nl]
theorem join_ev {C : am_M} {b f t wd : Int} (b0 : 0 ≤ b) (b1 : b < 60) (h : bsh C b) : ∃ C', am_evm am_PP nX0_join [(2, 10 + 256 * b), (2, 15 + 256 * f), (2, 15 + 256 * t), (0, wd)] C = some (0, C') ∧ fr (bt b) C C' ∧ ∀ V' t', bcl C' b f t wd wd 0 0 0 7 0 V' t' := by
  obtain ⟨c0, c1, n, o, V, s, hr, hg⟩ := h
  have u : ∀ L i, ¬ (L = 10 + 256 * b ∧ 2 ≤ i ∧ i ≤ 4) → am_up (am_up (am_up C (10 + 256 * b) 2 (15 + 256 * f)) (10 + 256 * b) 3 (15 + 256 * t)) (10 + 256 * b) 4 wd L i = C L i := fun L i q => by simp (disch := omega) only [am_up_or]
  have hb : bcl (am_up (am_up (am_up C (10 + 256 * b) 2 (15 + 256 * f)) (10 + 256 * b) 3 (15 + 256 * t)) (10 + 256 * b) 4 wd) b f t wd (C (10 + 256 * b) 5) (C (10 + 256 * b) 6) o (C (10 + 256 * b) 10) (C (10 + 256 * b) 11) n V s := by
    refine ⟨(u _ _ (by omega)).trans c0, (u _ _ (by omega)).trans c1, by simp (disch := omega) only [am_up_eq, am_up_nl, am_up_ni], by simp (disch := omega) only [am_up_eq, am_up_nl, am_up_ni], by simp (disch := omega) only [am_up_eq, am_up_nl, am_up_ni], u _ _ (by omega), u _ _ (by omega), u _ _ (by omega), u _ _ (by omega), ?_, ?_⟩
    · exact row_ext (rok_b b0 b1) hr (fun L i p => u _ _ (by unfold rt at p; omega)) (fun L p => u _ _ (by omega)) (fun _ _ _ _ => rfl)
    · exact ring_ext hg (fun L i p1 p2 => u _ _ (by omega)) (fun L p1 p2 => u _ _ (by omega)) (fun i p1 p2 => u _ _ (by omega)) (fun _ _ _ => rfl)
  obtain ⟨C', e1, e2, e3⟩ := bcl_restart (V' := fun _ => 0) (t' := 0) b0 b1 hb
  refine ⟨C', ?_, fun L i p1 p2 p3 => (e2 L i p1 p2 p3).trans (u _ _ (by unfold bt at p1; omega)), fun V' t' => bcl_ext b0 b1 e3 (fun _ _ _ => rfl) (fun _ _ => rfl) (fun k a b _ => by omega) (fun k a b => by omega)⟩
  simp (disch := omega) only [be_X0_join_m, be_X0_join_0, Option.bind_some, cond_true, cond_false, decide_true, decide_false, Bool.not_true, Bool.not_false, ite_true, ite_false, and_self, true_and, and_true, or_self, true_or, or_true, false_or, or_false, decide_eq_true_eq, Int.reduceAdd, Int.reduceSub, Int.reduceMul, Int.reduceNeg, Int.reduceEq, Int.reduceLT, Int.reduceLE, Int.reduceNe, lcmp_z, lcmp_le, lcmp_ge, lcmp_lt, lcmp_gt, pf_10, cls_10, pos_10, e1]
def rtj (B f o t p L i : Int) : Prop := ((L = 61 ∨ L = 317 ∨ L = 573 ∨ L = 829 ∨ L = 1085) ∧ i = B) ∨ (L = 62 ∧ i = 2 * f + o) ∨ (L = 63 ∧ i = 3 * t + p) ∨ (L = 17 ∧ i = 11)
def ctj (B f o t p L i : Int) : Prop := bt B L ∨ L = -2 ∨ (L = -1 ∧ bt B i) ∨ (L = 51 ∧ i = B) ∨ (L = 16 ∧ (i = 5 ∨ i = 6)) ∨ (L = 56 + 256 * f ∧ i = o) ∨ (L = 55 + 256 * t ∧ i = p)
theorem cnt_one {R R' : am_M} {L b j : Int} (hj : R L j < 0) (hj' : 0 ≤ R' L j) : ∀ n : Nat, (∀ p, 0 ≤ p → p < (n : Int) → b + p ≠ j → R' L (b + p) = R L (b + p)) → cnt R' L b n = cnt R L b n - (if b ≤ j ∧ j < b + n then 1 else 0) := by
  intro n
  induction n with
  | zero =>
    intro _
    rw [if_neg (by omega)]
    rfl
  | succ n ih =>
    intro h
    have e1 : cnt R' L b (n + 1) = cnt R' L b n + un (R' L (b + n)) := rfl
    have e2 : cnt R L b (n + 1) = cnt R L b n + un (R L (b + n)) := rfl
    rw [e1, e2, ih (fun p p0 p1 => h p p0 (by omega))]
    by_cases c : b + n = j
    · rw [c, un, un, if_neg (by omega), if_pos hj, if_neg (by omega), if_pos (by omega)]
      omega
    · rw [h n (by omega) (by omega) c]
      by_cases d : b ≤ j ∧ j < b + n
      · rw [if_pos d, if_pos (by omega)]; omega
      · rw [if_neg d, if_neg (by omega)]; omega
theorem opn_two {R R' : am_M} {f t : Int} (f0 : 0 ≤ f) (t0 : 0 ≤ t) (h : ∀ w, 0 ≤ w → opw R' w = opw R w - (if w = f then 1 else 0) - (if w = t then 1 else 0)) : ∀ n : Nat, opn R' n = opn R n - (if f < (n : Int) then 1 else 0) - (if t < (n : Int) then 1 else 0) := by
  intro n
  induction n with
  | zero => rw [if_neg (by omega), if_neg (by omega)]; rfl
  | succ n ih =>
    have e1 : opn R' (n + 1) = opn R' n + opw R' n := rfl
    have e2 : opn R (n + 1) = opn R n + opw R n := rfl
    have q : ∀ x : Int, (if x < ((n + 1 : Nat) : Int) then (1 : Int) else 0) = (if x < (n : Int) then 1 else 0) + (if (n : Int) = x then 1 else 0) := by
      intro x
      split <;> split <;> split <;> omega
    rw [e1, e2, ih, h n (by omega), q f, q t]
    generalize (if f < (n : Int) then (1 : Int) else 0) = a1
    generalize (if t < (n : Int) then (1 : Int) else 0) = a2
    generalize (if (n : Int) = f then (1 : Int) else 0) = a3
    generalize (if (n : Int) = t then (1 : Int) else 0) = a4
    omega
set_option maxHeartbeats 4000000 in
theorem INV_join {C C' R R' : am_M} {B f o t p wd : Int} (h6 : C 16 6 = opc R) (N : NR C R) (hB : R 17 11 = B) (B1 : B < 60) (f0 : 0 ≤ f) (f1 : f < R 17 0) (t0 : 0 ≤ t) (t1 : t < R 17 0) (o0 : 0 ≤ o) (o1 : o < k_out (R 309 f)) (p0 : 0 ≤ p) (p1 : p < k_in (R 309 t)) (wd0 : 1 ≤ wd) (wd1 : wd ≤ 50)
    (u62 : R 62 (2 * f + o) < 0) (u63 : R 63 (3 * t + p) < 0)
    (fC : fr2 (ctj B f o t p) C C') (fR : fr2 (rtj B f o t p) R R') (v61 : R' 61 B = f) (v317 : R' 317 B = t) (v1085 : R' 1085 B = wd) (v62 : R' 62 (2 * f + o) = B) (v63 : R' 63 (3 * t + p) = B) (v11 : R' 17 11 = B + 1)
    (c51 : C' 51 B = 10 + 256 * B) (c5 : C' 16 5 = B + 1) (c6 : C' 16 6 = C 16 6 - 2) (c56 : C' (56 + 256 * f) o = 10 + 256 * B) (c55 : C' (55 + 256 * t) p = 10 + 256 * B) (hb : ∀ V t', bcl C' B f t wd wd 0 0 0 7 0 V t') : INV C' R' ∧ cf2 C C' ∧ rfr R R' := by
  obtain ⟨hR, hh, ⟨hn1, hn2⟩, ⟨ho1, ho2⟩, n1, n2, n3, n4, n5, n6⟩ := N
  obtain ⟨g0, g1, g2, g3, g4, g5, g6, g7, g8, g9, g10, g11, g12, g13⟩ := hh
  have kf := kout_b (R 309 f)
  have kt := kin_b (R 309 t)
  have eC : ∀ L i, ¬ ctj B f o t p L i → C' L i = C L i := fC
  have eR : ∀ L i, ¬ rtj B f o t p L i → R' L i = R L i := fR
  have W0 : R' 17 0 = R 17 0 := eR _ _ (by unfold rtj; omega)
  have e309 : ∀ i, R' 309 i = R 309 i := fun i => eR _ _ (by unfold rtj; omega)
  have c16 : ∀ i, i ≠ 5 → i ≠ 6 → C' 16 i = C 16 i := fun i p q => eC _ _ (by unfold ctj bt; omega)
  refine ⟨⟨?_, Or.inl ⟨rs_fr hR fR (fun i => by unfold rtj; omega), ?_, ⟨fun u u0 u1 => ?_, fun d d0 d1 => ?_⟩, ⟨fun u u0 u1 => ?_, fun d d0 d1 => ?_⟩, ?_, ?_, ?_, ?_, fun d d0 d1 V t => ?_, fun u u0 u1 => ?_⟩⟩, fun L i q => eC _ _ (by unfold FR at q; unfold ctj bt; omega), fun L i q => eR _ _ (by unfold FR at q; unfold rtj; omega)⟩
  · have hw : ∀ w, 0 ≤ w → opw R' w = opw R w - (if w = f then 1 else 0) - (if w = t then 1 else 0) := by
      intro w w0
      have a1 := kin_b (R 309 w)
      have a2 := kout_b (R 309 w)
      unfold opw
      rw [e309, cnt_one u63 (by rw [v63]; omega) (k_in (R 309 w)).toNat (fun q q0 q1 q2 => eR _ _ (by unfold rtj; omega)), cnt_one u62 (by rw [v62]; omega) (k_out (R 309 w)).toNat (fun q q0 q1 q2 => eR _ _ (by unfold rtj; omega))]
      by_cases c1 : w = f
      · rw [if_pos c1, if_pos (c := 2 * w ≤ 2 * f + o ∧ 2 * f + o < 2 * w + ((k_out (R 309 w)).toNat : Int)) (by rw [c1] at a2 ⊢; omega)]
        by_cases c2 : w = t
        · rw [if_pos c2, if_pos (by rw [c2] at a1 ⊢; omega)]; omega
        · rw [if_neg c2, if_neg (by omega)]; omega
      · rw [if_neg c1, if_neg (c := 2 * w ≤ 2 * f + o ∧ 2 * f + o < 2 * w + ((k_out (R 309 w)).toNat : Int)) (by omega)]
        by_cases c2 : w = t
        · rw [if_pos c2, if_pos (by rw [c2] at a1 ⊢; omega)]; omega
        · rw [if_neg c2, if_neg (by omega)]; omega
    have e := opn_two f0 t0 hw (R 17 0).toNat
    rw [if_pos (by omega), if_pos (by omega)] at e
    rw [c6, h6]
    unfold opc
    rw [W0, e]
    omega
  · rw [hall, c16 0 (by decide) (by decide), c16 1 (by decide) (by decide), c16 2 (by decide) (by decide), c16 3 (by decide) (by decide), c16 4 (by decide) (by decide), c5, v11, W0, eC 12 0 (by unfold ctj bt; omega), eC 12 1 (by unfold ctj bt; omega), eC 12 2 (by unfold ctj bt; omega)]
    refine ⟨g0, g1, g2, g3, g4, g5, g6, g7, rfl, g9, g10, by omega, by omega, fun k k0 k1 => ?_⟩
    rw [eC 2 k (by unfold ctj bt; omega), eC 3 k (by unfold ctj bt; omega)]
    exact g13 k k0 k1
  · rw [W0] at u1
    obtain ⟨x1, x2, x3⟩ := hn1 u u0 u1
    refine ⟨(eC _ _ (by unfold ctj bt; omega)).trans x1, ?_, ?_⟩
    · refine sw_congr u0 (by omega) (fun L i q => eC _ _ (by unfold wst at q; unfold ctj bt; omega)) (fun L i q => eR _ _ (by unfold rcs at q; unfold rtj; omega)) (fun _ n f q => ?_) (fun q => ?_) x2
      · exact row_other u0 (by omega) (fun L i p => eC _ _ (by unfold rt at p; unfold ctj bt; omega)) (fun L p => eC _ _ (by unfold rt at p; unfold ctj bt; omega)) q
      · obtain ⟨_, _, _, _, _, _, _, _, _, _, _, n, f, y⟩ := x2
        exact ⟨n, f, row_other u0 (by omega) (fun L i p => eC _ _ (by unfold rt at p; unfold ctj bt; omega)) (fun L p => eC _ _ (by unfold rt at p; unfold ctj bt; omega)) y⟩
    · unfold prt
      rw [v11]
      refine ⟨fun q q0 q1 => ?_, fun q q0 q1 => ?_⟩
      · by_cases c : 3 * u + q = 3 * t + p
        · have cu : u = t := by omega
          have cq : q = p := by omega
          rw [c, v63, v317, cu, cq, c55]
          refine ⟨?_, fun _ => ⟨by omega, rfl⟩⟩
          unfold bl
          rw [if_neg (by omega)]
        · obtain ⟨y1, y2⟩ := x3.1 q q0 q1
          rw [eC (55 + 256 * u) q (by unfold ctj bt; omega), eR 63 _ (by unfold rtj; omega)]
          refine ⟨y1, fun z => ?_⟩
          obtain ⟨y3, y4⟩ := y2 z
          rw [eR 317 _ (by unfold rtj; omega)]
          exact ⟨by omega, y4⟩
      · by_cases c : 2 * u + q = 2 * f + o
        · have cu : u = f := by omega
          have cq : q = o := by omega
          rw [c, v62, v61, cu, cq, c56]
          refine ⟨?_, fun _ => ⟨by omega, rfl⟩⟩
          unfold bl
          rw [if_neg (by omega)]
        · obtain ⟨y1, y2⟩ := x3.2 q q0 q1
          rw [eC (56 + 256 * u) q (by unfold ctj bt; omega), eR 62 _ (by unfold rtj; omega)]
          refine ⟨y1, fun z => ?_⟩
          obtain ⟨y3, y4⟩ := y2 z
          rw [eR 61 _ (by unfold rtj; omega)]
          exact ⟨by omega, y4⟩
  · rw [v11] at d1
    rw [W0]
    by_cases e : d = B
    · rw [e, c51, v61, v317, v1085]
      exact ⟨rfl, f0, f1, t0, t1, wd0, wd1⟩
    · rw [eC 51 d (by unfold ctj bt; omega), eR 61 _ (by unfold rtj; omega), eR 317 _ (by unfold rtj; omega), eR 1085 _ (by unfold rtj; omega)]
      exact hn2 d d0 (by omega)
  · rw [W0] at u0
    rw [eC 50 u (by unfold ctj bt; omega)]
    rcases ho1 u u0 u1 with ⟨x, y⟩ | ⟨x, y, n, f, z⟩
    · exact Or.inl ⟨x, fun L q => (eC _ _ (by unfold wlab at q; unfold ctj bt; omega)).trans (y L q)⟩
    · refine Or.inr ⟨x, cshape_congr (fun L i q => eC _ _ (by unfold wst at q; unfold ctj bt; omega)) y, n, f, ?_⟩
      exact row_other (by omega) (by omega) (fun L i p => eC _ _ (by unfold rt at p; unfold ctj bt; omega)) (fun L p => eC _ _ (by unfold rt at p; unfold ctj bt; omega)) z
  · rw [v11] at d0
    rw [eC 51 d (by unfold ctj bt; omega)]
    rcases ho2 d (by omega) d1 with ⟨x, y⟩ | ⟨x, fm, to, td, wn, tw, o, mo, mk, n, V0, t0, z⟩
    · exact Or.inl ⟨x, fun L q => (eC _ _ (by unfold bt at q; unfold ctj bt; omega)).trans (y L q)⟩
    · exact Or.inr ⟨x, fm, to, td, wn, tw, o, mo, mk, n, V0, t0, bcl_ext (by omega) d1 z (fun L i q => eC _ _ (by unfold bt at q; unfold ctj bt; omega)) (fun L q => eC _ _ (by unfold bt at q; unfold ctj bt; omega)) (fun _ _ _ _ => rfl) (fun _ _ _ => rfl)⟩
  · exact (eR _ _ (by unfold rtj; omega)).trans n1
  · exact (c16 _ (by decide) (by decide)).trans n2
  · exact (c16 _ (by decide) (by decide)).trans n3
  · exact (c16 _ (by decide) (by decide)).trans n4
  · rw [v11] at d1
    by_cases e : d = B
    · rw [e, v61, v317, v1085]; exact hb V t
    · rw [eR 61 _ (by unfold rtj; omega), eR 317 _ (by unfold rtj; omega), eR 1085 _ (by unfold rtj; omega)]
      exact bcl_ext d0 (by omega) (n5 d d0 (by omega) V t) (fun L i q => eC _ _ (by unfold bt at q; unfold ctj bt; omega)) (fun L q => eC _ _ (by unfold bt at q; unfold ctj bt; omega)) (fun _ _ _ _ => rfl) (fun _ _ _ => rfl)
  · rw [W0] at u1
    unfold nw
    rw [eC _ 12 (by unfold ctj bt; omega), eC _ 13 (by unfold ctj bt; omega), eC _ 8 (by unfold ctj bt; omega), eC _ 1 (by unfold ctj bt; omega), e309]
    exact n6 u u0 u1
