/-! a weaver becomes of a kind; the call weaver -/
theorem bec_in {w : Int} (w0 : 0 ≤ w) {M : am_M} {j : Int} (h : M (15 + 256 * w) 1 = 55 + 256 * w) (j0 : 0 ≤ j) (j1 : j < 3) : am_ev am_PP nX5_become 1 [15 + 256 * w, j] [] M = am_ev am_PP nX5_become 1 [15 + 256 * w, j + 1] [] (am_up M (55 + 256 * w) j 0) := by
  rw [be_X5_become_1]
  simp (disch := omega) only [be_X5_become_2, Option.bind_some, cond_true, cond_false, decide_true, decide_false, Bool.not_true, Bool.not_false, ite_true, ite_false, and_self, true_and, and_true, or_self, true_or, or_true, false_or, or_false, decide_eq_true_eq, Int.reduceAdd, Int.reduceSub, Int.reduceMul, Int.reduceNeg, Int.reduceEq, Int.reduceLT, Int.reduceLE, Int.reduceNe, lcmp_z, lcmp_le, lcmp_ge, lcmp_lt, lcmp_gt, decide_eq_true, decide_eq_false, if_pos, if_neg, gf_15, al_55, sa0_55, h, am_w32_ok]
theorem bec_in3 {w : Int} (w0 : 0 ≤ w) {M : am_M} (h : M (15 + 256 * w) 1 = 55 + 256 * w) : am_ev am_PP nX5_become 1 [15 + 256 * w, 3] [] M = am_ev am_PP nX5_become 4 [15 + 256 * w, 0] [] M := by
  rw [be_X5_become_1]
  simp (disch := omega) only [be_X5_become_3, Option.bind_some, cond_true, cond_false, decide_true, decide_false, Bool.not_true, Bool.not_false, ite_true, ite_false, and_self, true_and, and_true, or_self, true_or, or_true, false_or, or_false, decide_eq_true_eq, Int.reduceAdd, Int.reduceSub, Int.reduceMul, Int.reduceNeg, Int.reduceEq, Int.reduceLT, Int.reduceLE, Int.reduceNe, lcmp_z, lcmp_le, lcmp_ge, lcmp_lt, lcmp_gt, decide_eq_true, decide_eq_false, if_pos, if_neg, gf_15, al_55, h]
theorem bec_out {w : Int} (w0 : 0 ≤ w) {M : am_M} {j : Int} (h : M (15 + 256 * w) 2 = 56 + 256 * w) (j0 : 0 ≤ j) (j1 : j < 2) : am_ev am_PP nX5_become 4 [15 + 256 * w, j] [] M = am_ev am_PP nX5_become 4 [15 + 256 * w, j + 1] [] (am_up M (56 + 256 * w) j 0) := by
  rw [be_X5_become_4]
  simp (disch := omega) only [be_X5_become_5, Option.bind_some, cond_true, cond_false, decide_true, decide_false, Bool.not_true, Bool.not_false, ite_true, ite_false, and_self, true_and, and_true, or_self, true_or, or_true, false_or, or_false, decide_eq_true_eq, Int.reduceAdd, Int.reduceSub, Int.reduceMul, Int.reduceNeg, Int.reduceEq, Int.reduceLT, Int.reduceLE, Int.reduceNe, lcmp_z, lcmp_le, lcmp_ge, lcmp_lt, lcmp_gt, decide_eq_true, decide_eq_false, if_pos, if_neg, gf_15, al_56, sa0_56, h, am_w32_ok]
theorem bec_out2 {w : Int} (w0 : 0 ≤ w) {M : am_M} (h : M (15 + 256 * w) 2 = 56 + 256 * w) : am_ev am_PP nX5_become 4 [15 + 256 * w, 2] [] M = am_ev am_PP nX5_become 6 [15 + 256 * w] [] M := by
  rw [be_X5_become_4]
  simp (disch := omega) only [Option.bind_some, cond_true, cond_false, decide_true, decide_false, Bool.not_true, Bool.not_false, ite_true, ite_false, and_self, true_and, and_true, or_self, true_or, or_true, false_or, or_false, decide_eq_true_eq, Int.reduceAdd, Int.reduceSub, Int.reduceMul, Int.reduceNeg, Int.reduceEq, Int.reduceLT, Int.reduceLE, Int.reduceNe, lcmp_z, lcmp_le, lcmp_ge, lcmp_lt, lcmp_gt, decide_eq_true, decide_eq_false, if_pos, if_neg, gf_15, al_56, h]
theorem become_ev {C : am_M} {w k a : Int} (w0 : 0 ≤ w) (hC : cshape C w) : am_evm am_PP nX5_become [(2, 15 + 256 * w), (0, k), (0, a)] C = (am_evm am_PP nX5_restart [(2, 15 + 256 * w)] (am_up (am_up (am_up (am_up (am_up (am_up (am_up (am_up (am_up C (15 + 256 * w) 6 k) (15 + 256 * w) 7 a) (55 + 256 * w) 0 0) (55 + 256 * w) 1 0) (55 + 256 * w) 2 0) (56 + 256 * w) 0 0) (56 + 256 * w) 1 0) (20 + 256 * w) 1 0) (14 + 256 * w) 4 0)).bind fun q => some (0, q.2) := by
  obtain ⟨c0, c1, c2, c3, c4, c5, d0, d1, d2, s0, s1, s2, s3⟩ := hC
  have e0 : am_evm am_PP nX5_become [(2, 15 + 256 * w), (0, k), (0, a)] C = am_ev am_PP nX5_become 1 [15 + 256 * w, 0] [] (am_up (am_up C (15 + 256 * w) 6 k) (15 + 256 * w) 7 a) := by
    simp (disch := omega) only [be_X5_become_m, be_X5_become_0, Option.bind_some, cond_true, cond_false, decide_true, decide_false, Bool.not_true, Bool.not_false, ite_true, ite_false, and_self, true_and, and_true, or_self, true_or, or_true, false_or, or_false, decide_eq_true_eq, Int.reduceAdd, Int.reduceSub, Int.reduceMul, Int.reduceNeg, Int.reduceEq, Int.reduceLT, Int.reduceLE, Int.reduceNe, lcmp_z, lcmp_le, lcmp_ge, lcmp_lt, lcmp_gt, pf_15]
  rw [e0, bec_in w0 (by simp (disch := omega) only [am_up_eq, am_up_nl, am_up_ni, c1]) (by omega) (by omega), bec_in w0 (by simp (disch := omega) only [am_up_eq, am_up_nl, am_up_ni, c1]) (by omega) (by omega), bec_in w0 (by simp (disch := omega) only [am_up_eq, am_up_nl, am_up_ni, c1]) (by omega) (by omega)]
  rw [show (0 : Int) + 1 = 1 from rfl, show (1 : Int) + 1 = 2 from rfl, show (2 : Int) + 1 = 3 from rfl]
  rw [bec_in3 w0 (by simp (disch := omega) only [am_up_eq, am_up_nl, am_up_ni, c1]), bec_out w0 (by simp (disch := omega) only [am_up_eq, am_up_nl, am_up_ni, c2]) (by omega) (by omega), bec_out w0 (by simp (disch := omega) only [am_up_eq, am_up_nl, am_up_ni, c2]) (by omega) (by omega)]
  rw [show (0 : Int) + 1 = 1 from rfl, show (1 : Int) + 1 = 2 from rfl]
  rw [bec_out2 w0 (by simp (disch := omega) only [am_up_eq, am_up_nl, am_up_ni, c2])]
  simp (disch := omega) only [be_X5_become_6, be_X3_empty_m, be_X3_empty_0, Option.bind_some, cond_true, cond_false, decide_true, decide_false, Bool.not_true, Bool.not_false, ite_true, ite_false, and_self, true_and, and_true, or_self, true_or, or_true, false_or, or_false, decide_eq_true_eq, Int.reduceAdd, Int.reduceSub, Int.reduceMul, Int.reduceNeg, Int.reduceEq, Int.reduceLT, Int.reduceLE, Int.reduceNe, lcmp_z, lcmp_le, lcmp_ge, lcmp_lt, lcmp_gt, am_up_eq, am_up_nl, am_up_ni, gf_15, pf_20, pf_14, cls_15, pos_15, cls_20, pos_20, c3, c5]
theorem am_ald_2 (M : am_M) (i : Int) (h0 : 0 ≤ i) (h1 : i < 14) : am_ald 0 M 2 i = some (M 2 i) := am_ald_old (n := 14) (by decide) (by decide) (by decide +kernel) (by decide +kernel) h0 (by omega)
theorem am_ald_3 (M : am_M) (i : Int) (h0 : 0 ≤ i) (h1 : i < 14) : am_ald 0 M 3 i = some (M 3 i) := am_ald_old (n := 14) (by decide) (by decide) (by decide +kernel) (by decide +kernel) h0 (by omega)
def rtn (W L i : Int) : Prop := ((L = 309 ∨ L = 565 ∨ L = 821 ∨ L = 1077) ∧ i = W) ∨ (L = 63 ∧ 3 * W ≤ i ∧ i < 3 * W + 3) ∨ (L = 62 ∧ 2 * W ≤ i ∧ i < 2 * W + 2) ∨ (L = 17 ∧ i = 0)
def ctn (W L i : Int) : Prop := wlab W L ∨ L = -2 ∨ (L = -1 ∧ wlab W i) ∨ (L = 50 ∧ i = W) ∨ (L = 16 ∧ (i = 4 ∨ i = 6))
theorem cnt_all {R : am_M} {L b : Int} : ∀ n : Nat, (∀ p, 0 ≤ p → p < (n : Int) → R L (b + p) < 0) → cnt R L b n = n := by
  intro n
  induction n with
  | zero => intro _; rfl
  | succ n ih =>
    intro h
    have e : cnt R L b (n + 1) = cnt R L b n + un (R L (b + n)) := rfl
    rw [e, ih (fun p a c => h p a (by omega)), un, if_pos (h n (by omega) (by omega))]
    omega
set_option maxHeartbeats 2000000 in
theorem INV_new {C C' R R' : am_M} {W : Int} (h6 : C 16 6 = opc R) (N : NR C R) (hW : R 17 0 = W) (W1 : W < 40) (fC : fr2 (ctn W) C C') (fR : fr2 (rtn W) R R') (c50 : C' 50 W = 15 + 256 * W) (c4 : C' 16 4 = W + 1) (r0 : R' 17 0 = W + 1) (hs : sw C' R' W) (h63 : ∀ p, 0 ≤ p → p < 3 → R' 63 (3 * W + p) = -1 ∧ C' (55 + 256 * W) p = 0) (h62 : ∀ p, 0 ≤ p → p < 2 → R' 62 (2 * W + p) = -1 ∧ C' (56 + 256 * W) p = 0) (hnw : nw C' R' W) (c6 : C' 16 6 = C 16 6 + (k_in (R' 309 W) + k_out (R' 309 W))) : INV C' R' ∧ cf2 C C' ∧ rfr R R' := by
  obtain ⟨hR, hh, ⟨hn1, hn2⟩, ⟨ho1, ho2⟩, n1, n2, n3, n4, n5, n6⟩ := N
  obtain ⟨g0, g1, g2, g3, g4, g5, g6, g7, g8, g9, g10, g11, g12, g13⟩ := hh
  have eC : ∀ L i, ¬ ctn W L i → C' L i = C L i := fC
  have eR : ∀ L i, ¬ rtn W L i → R' L i = R L i := fR
  have B0 : R' 17 11 = R 17 11 := eR _ _ (by unfold rtn; omega)
  have c16 : ∀ i, i ≠ 4 → i ≠ 6 → C' 16 i = C 16 i := fun i p q => eC _ _ (by unfold ctn wlab; omega)
  refine ⟨⟨?_, Or.inl ⟨rs_fr hR fR (fun i => by unfold rtn; omega), ?_, ⟨fun u u0 u1 => ?_, fun d d0 d1 => ?_⟩, ⟨fun u u0 u1 => ?_, fun d d0 d1 => ?_⟩, ?_, ?_, ?_, ?_, fun d d0 d1 V t => ?_, fun u u0 u1 => ?_⟩⟩, fun L i q => eC _ _ (by unfold FR at q; unfold ctn wlab; omega), fun L i q => eR _ _ (by unfold FR at q; unfold rtn; omega)⟩
  · have a1 := kin_b (R' 309 W)
    have a2 := kout_b (R' 309 W)
    have e1 : opc R' = opn R' W.toNat + opw R' W := by
      unfold opc
      rw [r0, show (W + 1).toNat = W.toNat + 1 by omega]
      show opn R' W.toNat + opw R' (W.toNat : Int) = _
      rw [show ((W.toNat : Nat) : Int) = W by omega]
    have e2 : opn R' W.toNat = opc R := by
      unfold opc
      rw [hW]
      exact opn_congr _ (fun w p q => opw_congr (eR _ _ (by unfold rtn; omega)) (fun p _ _ => eR _ _ (by unfold rtn; omega)) (fun p _ _ => eR _ _ (by unfold rtn; omega)))
    have e3 : opw R' W = k_in (R' 309 W) + k_out (R' 309 W) := by
      unfold opw
      rw [cnt_all _ (fun p p0 p1 => by rw [(h63 p p0 (by omega)).1]; decide), cnt_all _ (fun p p0 p1 => by rw [(h62 p p0 (by omega)).1]; decide)]
      omega
    rw [c6, h6, e1, e2, e3]
  · rw [hall, c16 0 (by decide) (by decide), c16 1 (by decide) (by decide), c16 2 (by decide) (by decide), c16 3 (by decide) (by decide), c16 5 (by decide) (by decide), c4, r0, B0, eC 12 0 (by unfold ctn wlab; omega), eC 12 1 (by unfold ctn wlab; omega), eC 12 2 (by unfold ctn wlab; omega)]
    refine ⟨g0, g1, g2, g3, g4, g5, g6, rfl, g8, by omega, by omega, g11, g12, fun k k0 k1 => ?_⟩
    rw [eC 2 k (by unfold ctn wlab; omega), eC 3 k (by unfold ctn wlab; omega)]
    exact g13 k k0 k1
  · by_cases e : u = W
    · rw [e]
      refine ⟨c50, hs, fun p p0 p1 => ?_, fun p p0 p1 => ?_⟩
      · obtain ⟨x, y⟩ := h63 p p0 p1
        rw [x, y]
        exact ⟨rfl, fun z => by omega⟩
      · obtain ⟨x, y⟩ := h62 p p0 p1
        rw [x, y]
        exact ⟨rfl, fun z => by omega⟩
    · have u1 : u < W := by omega
      obtain ⟨x1, x2, x3⟩ := hn1 u u0 (by omega)
      refine ⟨(eC _ _ (by unfold ctn wlab; omega)).trans x1, ?_, ?_⟩
      · refine sw_congr u0 (by omega) (fun L i q => eC _ _ (by unfold wst at q; unfold ctn wlab; omega)) (fun L i q => eR _ _ (by unfold rcs at q; unfold rtn; omega)) (fun _ n f q => ?_) (fun q => ?_) x2
        · exact row_other u0 (by omega) (fun L i p => eC _ _ (by unfold rt at p; unfold ctn wlab; omega)) (fun L p => eC _ _ (by unfold rt at p; unfold ctn wlab; omega)) q
        · obtain ⟨_, _, _, _, _, _, _, _, _, _, _, n, f, y⟩ := x2
          exact ⟨n, f, row_other u0 (by omega) (fun L i p => eC _ _ (by unfold rt at p; unfold ctn wlab; omega)) (fun L p => eC _ _ (by unfold rt at p; unfold ctn wlab; omega)) y⟩
      · unfold prt
        refine ⟨fun p p0 p1 => ?_, fun p p0 p1 => ?_⟩
        · rw [eC (55 + 256 * u) p (by unfold ctn wlab; omega), eR 63 _ (by unfold rtn; omega), eR 317 _ (by unfold rtn; omega), B0]
          exact x3.1 p p0 p1
        · rw [eC (56 + 256 * u) p (by unfold ctn wlab; omega), eR 62 _ (by unfold rtn; omega), eR 61 _ (by unfold rtn; omega), B0]
          exact x3.2 p p0 p1
  · rw [B0] at d1
    obtain ⟨x1, x2, x3, x4, x5, x6⟩ := hn2 d d0 d1
    rw [eC 51 d (by unfold ctn wlab; omega), eR 61 _ (by unfold rtn; omega), eR 317 _ (by unfold rtn; omega), eR 1085 _ (by unfold rtn; omega), r0]
    exact ⟨x1, x2, by omega, x4, by omega, x6⟩
  · rw [eC 50 u (by unfold ctn wlab; omega)]
    rcases ho1 u (by omega) u1 with ⟨x, y⟩ | ⟨x, y, n, f, z⟩
    · exact Or.inl ⟨x, fun L q => (eC _ _ (by unfold wlab at q; unfold ctn wlab; omega)).trans (y L q)⟩
    · refine Or.inr ⟨x, cshape_congr (fun L i q => eC _ _ (by unfold wst at q; unfold ctn wlab; omega)) y, n, f, ?_⟩
      exact row_other (by omega) (by omega) (fun L i p => eC _ _ (by unfold rt at p; unfold ctn wlab; omega)) (fun L p => eC _ _ (by unfold rt at p; unfold ctn wlab; omega)) z
  · rw [B0] at d0
    rw [eC 51 d (by unfold ctn wlab; omega)]
    rcases ho2 d d0 d1 with ⟨x, y⟩ | ⟨x, fm, to, td, wn, tw, o, mo, mk, n, V0, t0, z⟩
    · exact Or.inl ⟨x, fun L q => (eC _ _ (by unfold bt at q; unfold ctn wlab; omega)).trans (y L q)⟩
    · exact Or.inr ⟨x, fm, to, td, wn, tw, o, mo, mk, n, V0, t0, bcl_ext (by omega) d1 z (fun L i q => eC _ _ (by unfold bt at q; unfold ctn wlab; omega)) (fun L q => eC _ _ (by unfold bt at q; unfold ctn wlab; omega)) (fun _ _ _ _ => rfl) (fun _ _ _ => rfl)⟩
  · exact (eR _ _ (by unfold rtn; omega)).trans n1
  · exact (c16 _ (by decide) (by decide)).trans n2
  · exact (c16 _ (by decide) (by decide)).trans n3
  · exact (c16 _ (by decide) (by decide)).trans n4
  · rw [B0] at d1
    rw [eR 61 _ (by unfold rtn; omega), eR 317 _ (by unfold rtn; omega), eR 1085 _ (by unfold rtn; omega)]
    exact bcl_ext d0 (by omega) (n5 d d0 d1 V t) (fun L i q => eC _ _ (by unfold bt at q; unfold ctn wlab; omega)) (fun L q => eC _ _ (by unfold bt at q; unfold ctn wlab; omega)) (fun _ _ _ _ => rfl) (fun _ _ _ => rfl)
  · by_cases e : u = W
    · rw [e]; exact hnw
    · unfold nw
      rw [eC _ 12 (by unfold ctn wlab; omega), eC _ 13 (by unfold ctn wlab; omega), eC _ 8 (by unfold ctn wlab; omega), eC _ 1 (by unfold ctn wlab; omega), eR 309 u (by unfold rtn; omega)]
      exact n6 u u0 (by omega)
def goodk (k a : Int) : Prop := 0 ≤ k ∧ k ≤ 13 ∧ (k = 2 → 0 ≤ a ∧ a ≤ 20) ∧ (k = 5 → 1 ≤ a ∧ a ≤ 1000) ∧ (k = 11 → 1 ≤ a ∧ a ≤ 30) ∧ (k = 12 → 0 ≤ a ∧ a ≤ 1000)
theorem weaver_heads (C R : am_M) (k a : Int) : (goodk k a ∧ am_evm am_PP nX6_weaver [(2, 16), (0, k), (0, a)] C = am_ev am_PP nX6_weaver 4 [16, k, a] [] C ∧ am_evm am_PP nX7_weaver [(2, 17), (0, k), (0, a)] R = am_ev am_PP nX7_weaver 13 [17, k, a] [] R) ∨ (am_evm am_PP nX6_weaver [(2, 16), (0, k), (0, a)] C = some (-1, C) ∧ am_evm am_PP nX7_weaver [(2, 17), (0, k), (0, a)] R = some (-1, R)) := by
  have i13 := rf_in R k 0 13
  by_cases ck : 0 ≤ k ∧ k ≤ 13
  · obtain ⟨k0, k1⟩ := ck
    rw [if_pos ⟨k0, k1⟩] at i13
    have e1 : am_evm am_PP nX6_weaver [(2, 16), (0, k), (0, a)] C = am_ev am_PP nX6_weaver 2 [16, k, a] [] C := by
      simp (disch := omega) only [be_X6_weaver_m, be_X6_weaver_0, be_X6_weaver_1, Option.bind_some, cond_true, cond_false, decide_true, decide_false, Bool.not_true, Bool.not_false, ite_true, ite_false, and_self, true_and, and_true, or_self, true_or, or_true, false_or, or_false, decide_eq_true_eq, Int.reduceAdd, Int.reduceSub, Int.reduceMul, Int.reduceNeg, Int.reduceEq, Int.reduceLT, Int.reduceLE, Int.reduceNe, lcmp_z, lcmp_le, lcmp_ge, lcmp_lt, lcmp_gt, decide_eq_true, decide_eq_false, if_pos, if_neg]
    have e2 : am_evm am_PP nX7_weaver [(2, 17), (0, k), (0, a)] R = am_ev am_PP nX7_weaver 1 [17, k, a] [] R := by
      simp (disch := omega) only [be_X7_weaver_m, be_X7_weaver_0, Option.bind_some, cond_true, cond_false, decide_true, decide_false, Bool.not_true, Bool.not_false, ite_true, ite_false, and_self, true_and, and_true, or_self, true_or, or_true, false_or, or_false, decide_eq_true_eq, Int.reduceAdd, Int.reduceSub, Int.reduceMul, Int.reduceNeg, Int.reduceEq, Int.reduceLT, Int.reduceLE, Int.reduceNe, lcmp_z, lcmp_le, lcmp_ge, lcmp_lt, lcmp_gt, i13]
    rw [e1, e2]
    clear e1 e2 i13
    by_cases c2 : k = 2
    · subst c2
      have i := rf_in R a 0 20
      by_cases c : 0 ≤ a ∧ a ≤ 20
      · rw [if_pos c] at i
        refine Or.inl ⟨⟨by omega, by omega, fun _ => c, fun q => by omega, fun q => by omega, fun q => by omega⟩, ?_, ?_⟩
        · simp (disch := omega) only [be_X6_weaver_2, be_X6_suits_m, be_X6_suits_0, be_X6_suits_1, be_X6_suits_2, be_X6_suits_3, be_X6_suits_5, Option.bind_some, cond_true, cond_false, decide_true, decide_false, Bool.not_true, Bool.not_false, ite_true, ite_false, and_self, true_and, and_true, or_self, true_or, or_true, false_or, or_false, decide_eq_true_eq, Int.reduceAdd, Int.reduceSub, Int.reduceMul, Int.reduceNeg, Int.reduceEq, Int.reduceLT, Int.reduceLE, Int.reduceNe, lcmp_z, lcmp_le, lcmp_ge, lcmp_lt, lcmp_gt, decide_eq_true, decide_eq_false, if_pos, if_neg]
        · simp (disch := omega) only [be_X7_weaver_1, be_X7_weaver_2, be_X7_weaver_3, be_X7_weaver_5, be_X7_weaver_7, be_X7_weaver_9, be_X7_weaver_11, Option.bind_some, cond_true, cond_false, decide_true, decide_false, Bool.not_true, Bool.not_false, ite_true, ite_false, and_self, true_and, and_true, or_self, true_or, or_true, false_or, or_false, decide_eq_true_eq, Int.reduceAdd, Int.reduceSub, Int.reduceMul, Int.reduceNeg, Int.reduceEq, Int.reduceLT, Int.reduceLE, Int.reduceNe, lcmp_z, lcmp_le, lcmp_ge, lcmp_lt, lcmp_gt, i]
      · rw [if_neg c] at i
        refine Or.inr ⟨?_, ?_⟩
        · by_cases d : a < 0
          · simp (disch := omega) only [be_X6_weaver_2, be_X6_weaver_3, be_X6_suits_m, be_X6_suits_0, be_X6_suits_1, be_X6_suits_4, be_X6_suits_5, Option.bind_some, cond_true, cond_false, decide_true, decide_false, Bool.not_true, Bool.not_false, ite_true, ite_false, and_self, true_and, and_true, or_self, true_or, or_true, false_or, or_false, decide_eq_true_eq, Int.reduceAdd, Int.reduceSub, Int.reduceMul, Int.reduceNeg, Int.reduceEq, Int.reduceLT, Int.reduceLE, Int.reduceNe, lcmp_z, lcmp_le, lcmp_ge, lcmp_lt, lcmp_gt, decide_eq_true, decide_eq_false, if_pos, if_neg]
          · simp (disch := omega) only [be_X6_weaver_2, be_X6_weaver_3, be_X6_suits_m, be_X6_suits_0, be_X6_suits_1, be_X6_suits_2, be_X6_suits_4, be_X6_suits_5, Option.bind_some, cond_true, cond_false, decide_true, decide_false, Bool.not_true, Bool.not_false, ite_true, ite_false, and_self, true_and, and_true, or_self, true_or, or_true, false_or, or_false, decide_eq_true_eq, Int.reduceAdd, Int.reduceSub, Int.reduceMul, Int.reduceNeg, Int.reduceEq, Int.reduceLT, Int.reduceLE, Int.reduceNe, lcmp_z, lcmp_le, lcmp_ge, lcmp_lt, lcmp_gt, decide_eq_true, decide_eq_false, if_pos, if_neg]
        · simp (disch := omega) only [be_X7_weaver_1, be_X7_weaver_2, be_X7_weaver_10, be_X7_weaver_11, be_X7_weaver_12, Option.bind_some, cond_true, cond_false, decide_true, decide_false, Bool.not_true, Bool.not_false, ite_true, ite_false, and_self, true_and, and_true, or_self, true_or, or_true, false_or, or_false, decide_eq_true_eq, Int.reduceAdd, Int.reduceSub, Int.reduceMul, Int.reduceNeg, Int.reduceEq, Int.reduceLT, Int.reduceLE, Int.reduceNe, lcmp_z, lcmp_le, lcmp_ge, lcmp_lt, lcmp_gt, i]
    by_cases c5 : k = 5
    · subst c5
      have i := rf_in R a 1 1000
      by_cases c : 1 ≤ a ∧ a ≤ 1000
      · rw [if_pos c] at i
        refine Or.inl ⟨⟨by omega, by omega, fun q => by omega, fun _ => c, fun q => by omega, fun q => by omega⟩, ?_, ?_⟩
        · simp (disch := omega) only [be_X6_weaver_2, be_X6_suits_m, be_X6_suits_0, be_X6_suits_6, be_X6_suits_7, be_X6_suits_8, be_X6_suits_10, Option.bind_some, cond_true, cond_false, decide_true, decide_false, Bool.not_true, Bool.not_false, ite_true, ite_false, and_self, true_and, and_true, or_self, true_or, or_true, false_or, or_false, decide_eq_true_eq, Int.reduceAdd, Int.reduceSub, Int.reduceMul, Int.reduceNeg, Int.reduceEq, Int.reduceLT, Int.reduceLE, Int.reduceNe, lcmp_z, lcmp_le, lcmp_ge, lcmp_lt, lcmp_gt, decide_eq_true, decide_eq_false, if_pos, if_neg]
        · simp (disch := omega) only [be_X7_weaver_1, be_X7_weaver_3, be_X7_weaver_4, be_X7_weaver_5, be_X7_weaver_7, be_X7_weaver_9, be_X7_weaver_11, Option.bind_some, cond_true, cond_false, decide_true, decide_false, Bool.not_true, Bool.not_false, ite_true, ite_false, and_self, true_and, and_true, or_self, true_or, or_true, false_or, or_false, decide_eq_true_eq, Int.reduceAdd, Int.reduceSub, Int.reduceMul, Int.reduceNeg, Int.reduceEq, Int.reduceLT, Int.reduceLE, Int.reduceNe, lcmp_z, lcmp_le, lcmp_ge, lcmp_lt, lcmp_gt, i]
      · rw [if_neg c] at i
        refine Or.inr ⟨?_, ?_⟩
        · by_cases d : a < 1
          · simp (disch := omega) only [be_X6_weaver_2, be_X6_weaver_3, be_X6_suits_m, be_X6_suits_0, be_X6_suits_6, be_X6_suits_9, be_X6_suits_10, Option.bind_some, cond_true, cond_false, decide_true, decide_false, Bool.not_true, Bool.not_false, ite_true, ite_false, and_self, true_and, and_true, or_self, true_or, or_true, false_or, or_false, decide_eq_true_eq, Int.reduceAdd, Int.reduceSub, Int.reduceMul, Int.reduceNeg, Int.reduceEq, Int.reduceLT, Int.reduceLE, Int.reduceNe, lcmp_z, lcmp_le, lcmp_ge, lcmp_lt, lcmp_gt, decide_eq_true, decide_eq_false, if_pos, if_neg]
          · simp (disch := omega) only [be_X6_weaver_2, be_X6_weaver_3, be_X6_suits_m, be_X6_suits_0, be_X6_suits_6, be_X6_suits_7, be_X6_suits_9, be_X6_suits_10, Option.bind_some, cond_true, cond_false, decide_true, decide_false, Bool.not_true, Bool.not_false, ite_true, ite_false, and_self, true_and, and_true, or_self, true_or, or_true, false_or, or_false, decide_eq_true_eq, Int.reduceAdd, Int.reduceSub, Int.reduceMul, Int.reduceNeg, Int.reduceEq, Int.reduceLT, Int.reduceLE, Int.reduceNe, lcmp_z, lcmp_le, lcmp_ge, lcmp_lt, lcmp_gt, decide_eq_true, decide_eq_false, if_pos, if_neg]
        · simp (disch := omega) only [be_X7_weaver_1, be_X7_weaver_3, be_X7_weaver_4, be_X7_weaver_10, be_X7_weaver_11, be_X7_weaver_12, Option.bind_some, cond_true, cond_false, decide_true, decide_false, Bool.not_true, Bool.not_false, ite_true, ite_false, and_self, true_and, and_true, or_self, true_or, or_true, false_or, or_false, decide_eq_true_eq, Int.reduceAdd, Int.reduceSub, Int.reduceMul, Int.reduceNeg, Int.reduceEq, Int.reduceLT, Int.reduceLE, Int.reduceNe, lcmp_z, lcmp_le, lcmp_ge, lcmp_lt, lcmp_gt, i]
    by_cases c11 : k = 11
    · subst c11
      have i := rf_in R a 1 30
      by_cases c : 1 ≤ a ∧ a ≤ 30
      · rw [if_pos c] at i
        refine Or.inl ⟨⟨by omega, by omega, fun q => by omega, fun q => by omega, fun _ => c, fun q => by omega⟩, ?_, ?_⟩
        · simp (disch := omega) only [be_X6_weaver_2, be_X6_suits_m, be_X6_suits_0, be_X6_suits_11, be_X6_suits_12, be_X6_suits_13, be_X6_suits_15, Option.bind_some, cond_true, cond_false, decide_true, decide_false, Bool.not_true, Bool.not_false, ite_true, ite_false, and_self, true_and, and_true, or_self, true_or, or_true, false_or, or_false, decide_eq_true_eq, Int.reduceAdd, Int.reduceSub, Int.reduceMul, Int.reduceNeg, Int.reduceEq, Int.reduceLT, Int.reduceLE, Int.reduceNe, lcmp_z, lcmp_le, lcmp_ge, lcmp_lt, lcmp_gt, decide_eq_true, decide_eq_false, if_pos, if_neg]
        · simp (disch := omega) only [be_X7_weaver_1, be_X7_weaver_3, be_X7_weaver_5, be_X7_weaver_6, be_X7_weaver_7, be_X7_weaver_9, be_X7_weaver_11, Option.bind_some, cond_true, cond_false, decide_true, decide_false, Bool.not_true, Bool.not_false, ite_true, ite_false, and_self, true_and, and_true, or_self, true_or, or_true, false_or, or_false, decide_eq_true_eq, Int.reduceAdd, Int.reduceSub, Int.reduceMul, Int.reduceNeg, Int.reduceEq, Int.reduceLT, Int.reduceLE, Int.reduceNe, lcmp_z, lcmp_le, lcmp_ge, lcmp_lt, lcmp_gt, i]
      · rw [if_neg c] at i
        refine Or.inr ⟨?_, ?_⟩
        · by_cases d : a < 1
          · simp (disch := omega) only [be_X6_weaver_2, be_X6_weaver_3, be_X6_suits_m, be_X6_suits_0, be_X6_suits_11, be_X6_suits_14, be_X6_suits_15, Option.bind_some, cond_true, cond_false, decide_true, decide_false, Bool.not_true, Bool.not_false, ite_true, ite_false, and_self, true_and, and_true, or_self, true_or, or_true, false_or, or_false, decide_eq_true_eq, Int.reduceAdd, Int.reduceSub, Int.reduceMul, Int.reduceNeg, Int.reduceEq, Int.reduceLT, Int.reduceLE, Int.reduceNe, lcmp_z, lcmp_le, lcmp_ge, lcmp_lt, lcmp_gt, decide_eq_true, decide_eq_false, if_pos, if_neg]
          · simp (disch := omega) only [be_X6_weaver_2, be_X6_weaver_3, be_X6_suits_m, be_X6_suits_0, be_X6_suits_11, be_X6_suits_12, be_X6_suits_14, be_X6_suits_15, Option.bind_some, cond_true, cond_false, decide_true, decide_false, Bool.not_true, Bool.not_false, ite_true, ite_false, and_self, true_and, and_true, or_self, true_or, or_true, false_or, or_false, decide_eq_true_eq, Int.reduceAdd, Int.reduceSub, Int.reduceMul, Int.reduceNeg, Int.reduceEq, Int.reduceLT, Int.reduceLE, Int.reduceNe, lcmp_z, lcmp_le, lcmp_ge, lcmp_lt, lcmp_gt, decide_eq_true, decide_eq_false, if_pos, if_neg]
        · simp (disch := omega) only [be_X7_weaver_1, be_X7_weaver_3, be_X7_weaver_5, be_X7_weaver_6, be_X7_weaver_10, be_X7_weaver_11, be_X7_weaver_12, Option.bind_some, cond_true, cond_false, decide_true, decide_false, Bool.not_true, Bool.not_false, ite_true, ite_false, and_self, true_and, and_true, or_self, true_or, or_true, false_or, or_false, decide_eq_true_eq, Int.reduceAdd, Int.reduceSub, Int.reduceMul, Int.reduceNeg, Int.reduceEq, Int.reduceLT, Int.reduceLE, Int.reduceNe, lcmp_z, lcmp_le, lcmp_ge, lcmp_lt, lcmp_gt, i]
    by_cases c12 : k = 12
    · subst c12
      have i := rf_in R a 0 1000
      by_cases c : 0 ≤ a ∧ a ≤ 1000
      · rw [if_pos c] at i
        refine Or.inl ⟨⟨by omega, by omega, fun q => by omega, fun q => by omega, fun q => by omega, fun _ => c⟩, ?_, ?_⟩
        · simp (disch := omega) only [be_X6_weaver_2, be_X6_suits_m, be_X6_suits_0, be_X6_suits_16, be_X6_suits_17, be_X6_suits_18, be_X6_suits_20, Option.bind_some, cond_true, cond_false, decide_true, decide_false, Bool.not_true, Bool.not_false, ite_true, ite_false, and_self, true_and, and_true, or_self, true_or, or_true, false_or, or_false, decide_eq_true_eq, Int.reduceAdd, Int.reduceSub, Int.reduceMul, Int.reduceNeg, Int.reduceEq, Int.reduceLT, Int.reduceLE, Int.reduceNe, lcmp_z, lcmp_le, lcmp_ge, lcmp_lt, lcmp_gt, decide_eq_true, decide_eq_false, if_pos, if_neg]
        · simp (disch := omega) only [be_X7_weaver_1, be_X7_weaver_3, be_X7_weaver_5, be_X7_weaver_7, be_X7_weaver_8, be_X7_weaver_9, be_X7_weaver_11, Option.bind_some, cond_true, cond_false, decide_true, decide_false, Bool.not_true, Bool.not_false, ite_true, ite_false, and_self, true_and, and_true, or_self, true_or, or_true, false_or, or_false, decide_eq_true_eq, Int.reduceAdd, Int.reduceSub, Int.reduceMul, Int.reduceNeg, Int.reduceEq, Int.reduceLT, Int.reduceLE, Int.reduceNe, lcmp_z, lcmp_le, lcmp_ge, lcmp_lt, lcmp_gt, i]
      · rw [if_neg c] at i
        refine Or.inr ⟨?_, ?_⟩
        · by_cases d : a < 0
          · simp (disch := omega) only [be_X6_weaver_2, be_X6_weaver_3, be_X6_suits_m, be_X6_suits_0, be_X6_suits_16, be_X6_suits_19, be_X6_suits_20, Option.bind_some, cond_true, cond_false, decide_true, decide_false, Bool.not_true, Bool.not_false, ite_true, ite_false, and_self, true_and, and_true, or_self, true_or, or_true, false_or, or_false, decide_eq_true_eq, Int.reduceAdd, Int.reduceSub, Int.reduceMul, Int.reduceNeg, Int.reduceEq, Int.reduceLT, Int.reduceLE, Int.reduceNe, lcmp_z, lcmp_le, lcmp_ge, lcmp_lt, lcmp_gt, decide_eq_true, decide_eq_false, if_pos, if_neg]
          · simp (disch := omega) only [be_X6_weaver_2, be_X6_weaver_3, be_X6_suits_m, be_X6_suits_0, be_X6_suits_16, be_X6_suits_17, be_X6_suits_19, be_X6_suits_20, Option.bind_some, cond_true, cond_false, decide_true, decide_false, Bool.not_true, Bool.not_false, ite_true, ite_false, and_self, true_and, and_true, or_self, true_or, or_true, false_or, or_false, decide_eq_true_eq, Int.reduceAdd, Int.reduceSub, Int.reduceMul, Int.reduceNeg, Int.reduceEq, Int.reduceLT, Int.reduceLE, Int.reduceNe, lcmp_z, lcmp_le, lcmp_ge, lcmp_lt, lcmp_gt, decide_eq_true, decide_eq_false, if_pos, if_neg]
        · simp (disch := omega) only [be_X7_weaver_1, be_X7_weaver_3, be_X7_weaver_5, be_X7_weaver_7, be_X7_weaver_8, be_X7_weaver_10, be_X7_weaver_11, be_X7_weaver_12, Option.bind_some, cond_true, cond_false, decide_true, decide_false, Bool.not_true, Bool.not_false, ite_true, ite_false, and_self, true_and, and_true, or_self, true_or, or_true, false_or, or_false, decide_eq_true_eq, Int.reduceAdd, Int.reduceSub, Int.reduceMul, Int.reduceNeg, Int.reduceEq, Int.reduceLT, Int.reduceLE, Int.reduceNe, lcmp_z, lcmp_le, lcmp_ge, lcmp_lt, lcmp_gt, i]
    · refine Or.inl ⟨⟨by omega, by omega, fun q => by omega, fun q => by omega, fun q => by omega, fun q => by omega⟩, ?_, ?_⟩
      · simp (disch := omega) only [be_X6_weaver_2, be_X6_suits_m, be_X6_suits_0, be_X6_suits_21, Option.bind_some, cond_true, cond_false, decide_true, decide_false, Bool.not_true, Bool.not_false, ite_true, ite_false, and_self, true_and, and_true, or_self, true_or, or_true, false_or, or_false, decide_eq_true_eq, Int.reduceAdd, Int.reduceSub, Int.reduceMul, Int.reduceNeg, Int.reduceEq, Int.reduceLT, Int.reduceLE, Int.reduceNe, lcmp_z, lcmp_le, lcmp_ge, lcmp_lt, lcmp_gt, decide_eq_false c2, decide_eq_false c5, decide_eq_false c11, decide_eq_false c12]
      · simp (disch := omega) only [be_X7_weaver_1, be_X7_weaver_3, be_X7_weaver_5, be_X7_weaver_7, be_X7_weaver_9, be_X7_weaver_11, Option.bind_some, cond_true, cond_false, decide_true, decide_false, Bool.not_true, Bool.not_false, ite_true, ite_false, and_self, true_and, and_true, or_self, true_or, or_true, false_or, or_false, decide_eq_true_eq, Int.reduceAdd, Int.reduceSub, Int.reduceMul, Int.reduceNeg, Int.reduceEq, Int.reduceLT, Int.reduceLE, Int.reduceNe, lcmp_z, lcmp_le, lcmp_ge, lcmp_lt, lcmp_gt, decide_eq_false c2, decide_eq_false c5, decide_eq_false c11, decide_eq_false c12]
  · rw [if_neg ck] at i13
    refine Or.inr ⟨?_, ?_⟩
    · by_cases d : k < 0
      · simp (disch := omega) only [be_X6_weaver_m, be_X6_weaver_0, be_X6_weaver_3, Option.bind_some, cond_true, cond_false, decide_true, decide_false, Bool.not_true, Bool.not_false, ite_true, ite_false, and_self, true_and, and_true, or_self, true_or, or_true, false_or, or_false, decide_eq_true_eq, Int.reduceAdd, Int.reduceSub, Int.reduceMul, Int.reduceNeg, Int.reduceEq, Int.reduceLT, Int.reduceLE, Int.reduceNe, lcmp_z, lcmp_le, lcmp_ge, lcmp_lt, lcmp_gt, decide_eq_true, decide_eq_false, if_pos, if_neg]
      · simp (disch := omega) only [be_X6_weaver_m, be_X6_weaver_0, be_X6_weaver_1, be_X6_weaver_3, Option.bind_some, cond_true, cond_false, decide_true, decide_false, Bool.not_true, Bool.not_false, ite_true, ite_false, and_self, true_and, and_true, or_self, true_or, or_true, false_or, or_false, decide_eq_true_eq, Int.reduceAdd, Int.reduceSub, Int.reduceMul, Int.reduceNeg, Int.reduceEq, Int.reduceLT, Int.reduceLE, Int.reduceNe, lcmp_z, lcmp_le, lcmp_ge, lcmp_lt, lcmp_gt, decide_eq_true, decide_eq_false, if_pos, if_neg]
    · simp (disch := omega) only [be_X7_weaver_m, be_X7_weaver_0, be_X7_weaver_10, be_X7_weaver_11, be_X7_weaver_12, Option.bind_some, cond_true, cond_false, decide_true, decide_false, Bool.not_true, Bool.not_false, ite_true, ite_false, and_self, true_and, and_true, or_self, true_or, or_true, false_or, or_false, decide_eq_true_eq, Int.reduceAdd, Int.reduceSub, Int.reduceMul, Int.reduceNeg, Int.reduceEq, Int.reduceLT, Int.reduceLE, Int.reduceNe, lcmp_z, lcmp_le, lcmp_ge, lcmp_lt, lcmp_gt, i13]
theorem rw_in {M : am_M} {W j : Int} (h : M 17 3 = 63) (W0 : 0 ≤ W) (W1 : W < 40) (j0 : 0 ≤ j) (j1 : j < 3) : am_ev am_PP nX7_weaver 18 [17, W, j] [] M = am_ev am_PP nX7_weaver 18 [17, W, j + 1] [] (am_up M 63 (3 * W + j) (-1)) := by
  rw [be_X7_weaver_18]
  simp (disch := omega) only [be_X7_weaver_19, Option.bind_some, cond_true, cond_false, decide_true, decide_false, Bool.not_true, Bool.not_false, ite_true, ite_false, and_self, true_and, and_true, or_self, true_or, or_true, false_or, or_false, decide_eq_true_eq, Int.reduceAdd, Int.reduceSub, Int.reduceMul, Int.reduceNeg, Int.reduceEq, Int.reduceLT, Int.reduceLE, Int.reduceNe, lcmp_z, lcmp_le, lcmp_ge, lcmp_lt, lcmp_gt, decide_eq_true, decide_eq_false, if_pos, if_neg, gf_17, h, sa_63, am_w32_ok]
theorem rf_weaver {R : am_M} {W k a : Int} (hR : rs R) (hW : R 17 0 = W) (W0 : 0 ≤ W) (W1 : W < 40) (h17 : R 17 17 = 0) : am_ev am_PP nX7_weaver 13 [17, k, a] [] R = some (W, am_up (am_up (am_up (am_up (am_up (am_up (am_up (am_up (am_up (am_up R 309 W k) 565 W a) 821 W 0) 1077 W 0) 63 (3 * W + 0) (-1)) 63 (3 * W + 1) (-1)) 63 (3 * W + 2) (-1)) 62 (2 * W) (-1)) 62 (2 * W + 1) (-1)) 17 0 (W + 1)) := by
  obtain ⟨r1, r2, r3, r4, r5, r6, r7, r8, r9, r10, r12, r13, r14, r15, r16, r18, r19, r20, r21, r22, r23, r24, r25, r26, r27, r28, r30, r31, r32, r33, r34, r35, r36, r37, r38, r39, r40, r41, r44, r49, r50, r51, r52, r54⟩ := hR
  have e : am_ev am_PP nX7_weaver 13 [17, k, a] [] R = am_ev am_PP nX7_weaver 18 [17, W, 0] [] (am_up (am_up (am_up (am_up R 309 W k) 565 W a) 821 W 0) 1077 W 0) := by
    simp (disch := omega) only [be_X7_weaver_13, be_X7_weaver_15, be_X7_weaver_17, Option.bind_some, cond_true, cond_false, decide_true, decide_false, Bool.not_true, Bool.not_false, ite_true, ite_false, and_self, true_and, and_true, or_self, true_or, or_true, false_or, or_false, decide_eq_true_eq, Int.reduceAdd, Int.reduceSub, Int.reduceMul, Int.reduceNeg, Int.reduceEq, Int.reduceLT, Int.reduceLE, Int.reduceNe, lcmp_z, lcmp_le, lcmp_ge, lcmp_lt, lcmp_gt, decide_eq_true, decide_eq_false, if_pos, if_neg, am_up_eq, am_up_nl, am_up_ni, gf_17, h17, hW, r1, r2, r5, r7, sa_309, sa_565, sa_821, sa_1077]
  rw [e, rw_in (by simp (disch := omega) only [am_up_eq, am_up_nl, am_up_ni, r3]) W0 W1 (by omega) (by omega), rw_in (by simp (disch := omega) only [am_up_eq, am_up_nl, am_up_ni, r3]) W0 W1 (by omega) (by omega), rw_in (by simp (disch := omega) only [am_up_eq, am_up_nl, am_up_ni, r3]) W0 W1 (by omega) (by omega)]
  rw [show (0 : Int) + 1 = 1 from rfl, show (1 : Int) + 1 = 2 from rfl, show (2 : Int) + 1 = 3 from rfl, be_X7_weaver_18]
  simp (disch := omega) only [be_X7_weaver_20, Option.bind_some, cond_true, cond_false, decide_true, decide_false, Bool.not_true, Bool.not_false, ite_true, ite_false, and_self, true_and, and_true, or_self, true_or, or_true, false_or, or_false, decide_eq_true_eq, Int.reduceAdd, Int.reduceSub, Int.reduceMul, Int.reduceNeg, Int.reduceEq, Int.reduceLT, Int.reduceLE, Int.reduceNe, lcmp_z, lcmp_le, lcmp_ge, lcmp_lt, lcmp_gt, decide_eq_true, decide_eq_false, if_pos, if_neg, am_up_eq, am_up_nl, am_up_ni, gf_17, pf_17, hW, r4, sa_62, am_w32_ok]
/-- a ghost: the reference as if a run began -/
theorem ghost (Q : am_M) (W : Int) : ∃ S : am_M, ri S W ∧ (∀ L i, rcs W L i → S L i = Q L i) := by
  refine ⟨am_up (am_up (am_up (am_up (am_up (am_up (am_up (am_up (am_up (am_up (am_up Q 1589 W (if Q 309 W = 3 then 2 else 0)) 566 W (if Q 309 W = 3 then Q 565 W else 0)) 822 W 0) 1845 W 0) 2869 W 0) 3125 W 0) 71 W 0) 66 (4 * W) 0) 66 (4 * W + 1) 0) 66 (4 * W + 2) 0) 66 (4 * W + 3) 0, ?_, fun L i q => ?_⟩
  · have e9 : (am_up (am_up (am_up (am_up (am_up (am_up (am_up (am_up (am_up (am_up (am_up Q 1589 W (if Q 309 W = 3 then 2 else 0)) 566 W (if Q 309 W = 3 then Q 565 W else 0)) 822 W 0) 1845 W 0) 2869 W 0) 3125 W 0) 71 W 0) 66 (4 * W) 0) 66 (4 * W + 1) 0) 66 (4 * W + 2) 0) 66 (4 * W + 3) 0) 309 W = Q 309 W := by simp (disch := omega) only [am_up_eq, am_up_nl, am_up_ni]
    have e5 : (am_up (am_up (am_up (am_up (am_up (am_up (am_up (am_up (am_up (am_up (am_up Q 1589 W (if Q 309 W = 3 then 2 else 0)) 566 W (if Q 309 W = 3 then Q 565 W else 0)) 822 W 0) 1845 W 0) 2869 W 0) 3125 W 0) 71 W 0) 66 (4 * W) 0) 66 (4 * W + 1) 0) 66 (4 * W + 2) 0) 66 (4 * W + 3) 0) 565 W = Q 565 W := by simp (disch := omega) only [am_up_eq, am_up_nl, am_up_ni]
    unfold ri
    rw [e9, e5]
    refine ⟨by simp (disch := omega) only [am_up_eq, am_up_nl, am_up_ni], by simp (disch := omega) only [am_up_eq, am_up_nl, am_up_ni], by simp (disch := omega) only [am_up_eq, am_up_nl, am_up_ni], by simp (disch := omega) only [am_up_eq, am_up_nl, am_up_ni], by simp (disch := omega) only [am_up_eq, am_up_nl, am_up_ni], by simp (disch := omega) only [am_up_eq, am_up_nl, am_up_ni], by simp (disch := omega) only [am_up_eq, am_up_nl, am_up_ni], fun k k0 k1 => ?_⟩
    have hk : k = 0 ∨ k = 1 ∨ k = 2 ∨ k = 3 := by omega
    rcases hk with rfl | rfl | rfl | rfl
    · rw [Int.add_zero]; simp (disch := omega) only [am_up_eq, am_up_nl, am_up_ni]
    · simp (disch := omega) only [am_up_eq, am_up_nl, am_up_ni]
    · simp (disch := omega) only [am_up_eq, am_up_nl, am_up_ni]
    · simp (disch := omega) only [am_up_eq, am_up_nl, am_up_ni]
  · unfold rcs at q
    simp (disch := omega) only [am_up_or]
set_option maxHeartbeats 2000000 in
theorem become_all {C Q : am_M} {w k a : Int} (w0 : 0 ≤ w) (w1 : w < 40) (hC : cshape C w) (hr : ∃ n f, row C (20 + 256 * w) n f) (hg : goodk k a) (q9 : Q 309 w = k) (q5 : Q 565 w = a) (q21 : Q 821 w = 0) (q77 : Q 1077 w = 0) : ∃ C', am_evm am_PP nX5_become [(2, 15 + 256 * w), (0, k), (0, a)] C = some (0, C') ∧ (∀ L i, ¬ (wlab w L ∨ L = -2 ∨ (L = -1 ∧ wlab w i)) → C' L i = C L i) ∧ sw C' Q w ∧ nw C' Q w ∧ (∀ p, 0 ≤ p → p < 3 → C' (55 + 256 * w) p = 0) ∧ (∀ p, 0 ≤ p → p < 2 → C' (56 + 256 * w) p = 0) := by
  obtain ⟨S, s1, s2⟩ := ghost Q w
  have e9 : S 309 w = k := (s2 _ _ (by unfold rcs; omega)).trans q9
  have e5 : S 565 w = a := (s2 _ _ (by unfold rcs; omega)).trans q5
  have e21 : S 821 w = 0 := (s2 _ _ (by unfold rcs; omega)).trans q21
  have e77 : S 1077 w = 0 := (s2 _ _ (by unfold rcs; omega)).trans q77
  obtain ⟨k0, k1, a2, a5, a11, a12⟩ := hg
  have hb : ∀ L i, ¬ ((L = 15 + 256 * w ∧ (i = 6 ∨ i = 7)) ∨ L = 55 + 256 * w ∨ L = 56 + 256 * w ∨ (L = 20 + 256 * w ∧ i = 1) ∨ (L = 14 + 256 * w ∧ i = 4)) → (am_up (am_up (am_up (am_up (am_up (am_up (am_up (am_up (am_up C (15 + 256 * w) 6 k) (15 + 256 * w) 7 a) (55 + 256 * w) 0 0) (55 + 256 * w) 1 0) (55 + 256 * w) 2 0) (56 + 256 * w) 0 0) (56 + 256 * w) 1 0) (20 + 256 * w) 1 0) (14 + 256 * w) 4 0) L i = C L i := fun L i q => by
    simp (disch := omega) only [am_up_or]
  have hrow : ∀ f, row (am_up (am_up (am_up (am_up (am_up (am_up (am_up (am_up (am_up C (15 + 256 * w) 6 k) (15 + 256 * w) 7 a) (55 + 256 * w) 0 0) (55 + 256 * w) 1 0) (55 + 256 * w) 2 0) (56 + 256 * w) 0 0) (56 + 256 * w) 1 0) (20 + 256 * w) 1 0) (14 + 256 * w) 4 0) (20 + 256 * w) 0 f := fun f => by
    obtain ⟨n, f', g, g0, g1, h1, h2, h3, h4, h5, h6⟩ := hr
    refine ⟨g, g0, g1, ?_, ?_, by omega, Or.inl (by have := (rcap_b g0 g1).1; omega), fun g' p q => ?_, fun k p q => by omega⟩
    · rw [hb _ _ (by omega)]; exact h1
    · simp (disch := omega) only [am_up_eq, am_up_nl, am_up_ni]
    · rw [hb _ _ (by omega)]; exact h5 g' p q
  have hsw : sw (am_up (am_up (am_up (am_up (am_up (am_up (am_up (am_up (am_up C (15 + 256 * w) 6 k) (15 + 256 * w) 7 a) (55 + 256 * w) 0 0) (55 + 256 * w) 1 0) (55 + 256 * w) 2 0) (56 + 256 * w) 0 0) (56 + 256 * w) 1 0) (20 + 256 * w) 1 0) (14 + 256 * w) 4 0) S w := by
    unfold sw
    rw [e9, e5, e21]
    refine ⟨?_, by simp (disch := omega) only [am_up_eq, am_up_nl, am_up_ni], by simp (disch := omega) only [am_up_eq, am_up_nl, am_up_ni], k0, k1, a2, a5, a11, a12, fun _ => ⟨hrow _, by omega⟩, fun _ => ?_, 0, fun _ => 0, hrow _⟩
    · obtain ⟨c0, c1, c2, c3, c4, c5, d0, d1, d2, t0, t1, t2, t3⟩ := hC
      exact ⟨(hb _ _ (by omega)).trans c0, (hb _ _ (by omega)).trans c1, (hb _ _ (by omega)).trans c2, (hb _ _ (by omega)).trans c3, (hb _ _ (by omega)).trans c4, (hb _ _ (by omega)).trans c5, (hb _ _ (by omega)).trans d0, (hb _ _ (by omega)).trans d1, (hb _ _ (by omega)).trans d2, (hb _ _ (by omega)).trans t0, (hb _ _ (by omega)).trans t1, (hb _ _ (by omega)).trans t2, (hb _ _ (by omega)).trans t3⟩
    · unfold st13
      rw [e77]
      refine ⟨by omega, by omega, by simp (disch := omega) only [am_up_eq, am_up_nl, am_up_ni], fun i p q => by omega⟩
  obtain ⟨C', r1, r2, r3, r4, r5, r6, r7, r8⟩ := one_restart w0 w1 hsw s1
  have hp := (ws_port r3 r8).1
  refine ⟨C', ?_, fun L i q => ?_, ?_, ?_, fun p p0 p1 => ?_, fun p p0 p1 => ?_⟩
  · rw [become_ev w0 hC, r1]
    rfl
  · unfold wlab at q
    rw [r2 L i (by unfold twR twr twa; omega), hb L i (by omega)]
  · exact sw_congr w0 w1 (fun _ _ _ => rfl) (fun L i q => (s2 L i q).symm) (fun _ _ _ q => q) (fun _ => by
      obtain ⟨_, _, _, _, _, _, _, _, _, _, _, q⟩ := r3
      exact q) r3
  · refine ⟨r4, r5, by omega, by omega, fun k9 => ?_⟩
    rw [q9, ← e9] at k9
    exact (row_len (r7 k9 (fun _ => 0))).1
  · rw [r2 (55 + 256 * w) p (by unfold twR twr twa; omega)]
    have hk : p = 0 ∨ p = 1 ∨ p = 2 := by omega
    rcases hk with rfl | rfl | rfl <;> simp (disch := omega) only [am_up_eq, am_up_nl, am_up_ni]
  · rw [r2 (56 + 256 * w) p (by unfold twR twr twa; omega)]
    have hk : p = 0 ∨ p = 1 := by omega
    rcases hk with rfl | rfl <;> simp (disch := omega) only [am_up_eq, am_up_nl, am_up_ni]
set_option maxHeartbeats 2000000 in
theorem api_weaver (k a : Int) : API nX6_weaver nX7_weaver [(0, k), (0, a)] := by
  intro C R H
  obtain ⟨hR, hh, hn, ho⟩ := INV_hall H
  obtain ⟨g0, g1, g2, g3, g4, g5, g6, g7, g8, g9, g10, g11, g12, g13⟩ := id hh
  rcases weaver_heads C R k a with ⟨hg, e1, e2⟩ | ⟨e1, e2⟩
  · rcases INV_run H with ⟨q1, q2, N⟩ | ⟨q1, q2⟩
    · by_cases cf : R 17 0 = 40
      · refine ⟨-3, C, R, e1.trans ?_, e2.trans ?_, H, cf2_refl C, rfr_refl R⟩
        · clear hg
          simp (disch := omega) only [be_X6_weaver_4, be_X6_weaver_6, be_X6_weaver_7, Option.bind_some, cond_true, cond_false, decide_true, decide_false, Bool.not_true, Bool.not_false, ite_true, ite_false, and_self, true_and, and_true, or_self, true_or, or_true, false_or, or_false, decide_eq_true_eq, Int.reduceAdd, Int.reduceSub, Int.reduceMul, Int.reduceNeg, Int.reduceEq, Int.reduceLT, Int.reduceLE, Int.reduceNe, lcmp_z, lcmp_le, lcmp_ge, lcmp_lt, lcmp_gt, decide_eq_true, decide_eq_false, if_pos, if_neg, gf_16, q2, g7, cf]
        · clear hg
          simp (disch := omega) only [be_X7_weaver_13, be_X7_weaver_15, be_X7_weaver_16, Option.bind_some, cond_true, cond_false, decide_true, decide_false, Bool.not_true, Bool.not_false, ite_true, ite_false, and_self, true_and, and_true, or_self, true_or, or_true, false_or, or_false, decide_eq_true_eq, Int.reduceAdd, Int.reduceSub, Int.reduceMul, Int.reduceNeg, Int.reduceEq, Int.reduceLT, Int.reduceLE, Int.reduceNe, lcmp_z, lcmp_le, lcmp_ge, lcmp_lt, lcmp_gt, decide_eq_true, decide_eq_false, if_pos, if_neg, gf_17, q1, cf]
      · obtain ⟨W, hW⟩ : ∃ W, R 17 0 = W := ⟨_, rfl⟩
        have hkk := hg.1
        have hk1 := hg.2.1
        obtain ⟨t2, t3⟩ := g13 k hkk (by omega)
        have hmk : ∃ C1, am_ev am_PP nX6_weaver 4 [16, k, a] [] C = am_ev am_PP nX6_weaver 10 [16, k, a, 15 + 256 * W] [] C1 ∧ C1 50 W = 15 + 256 * W ∧ cshape C1 W ∧ (∃ n f, row C1 (20 + 256 * W) n f) ∧ ∀ L i, ¬ (wlab W L ∨ L = -2 ∨ (L = -1 ∧ wlab W i) ∨ (L = 50 ∧ i = W)) → C1 L i = C L i := by
          rw [hW] at g7 g9 g10 ho cf
          clear hg
          rcases ho.1 W (by omega) (by omega) with ⟨z, y⟩ | ⟨z, y, x⟩
          · obtain ⟨C1, m1, m2, m3, m4, m5⟩ := mk_weaver (k := k) (a := a) g9 (by omega) g0 g7 y
            refine ⟨C1, ?_, m2, m3, m4, m5⟩
            rw [← m1]
            simp (disch := omega) only [be_X6_weaver_4, be_X6_weaver_6, be_X6_weaver_8, Option.bind_some, cond_true, cond_false, decide_true, decide_false, Bool.not_true, Bool.not_false, ite_true, ite_false, and_self, true_and, and_true, or_self, true_or, or_true, false_or, or_false, decide_eq_true_eq, Int.reduceAdd, Int.reduceSub, Int.reduceMul, Int.reduceNeg, Int.reduceEq, Int.reduceLT, Int.reduceLE, Int.reduceNe, lcmp_z, lcmp_le, lcmp_ge, lcmp_lt, lcmp_gt, decide_eq_true, decide_eq_false, if_pos, if_neg, gf_16, q2, g7, g0, ra_50, z]
          · refine ⟨C, ?_, z, y, x, fun _ _ _ => rfl⟩
            simp (disch := omega) only [be_X6_weaver_4, be_X6_weaver_6, be_X6_weaver_8, Option.bind_some, cond_true, cond_false, decide_true, decide_false, Bool.not_true, Bool.not_false, ite_true, ite_false, and_self, true_and, and_true, or_self, true_or, or_true, false_or, or_false, decide_eq_true_eq, Int.reduceAdd, Int.reduceSub, Int.reduceMul, Int.reduceNeg, Int.reduceEq, Int.reduceLT, Int.reduceLE, Int.reduceNe, lcmp_z, lcmp_le, lcmp_ge, lcmp_lt, lcmp_gt, decide_eq_true, decide_eq_false, if_pos, if_neg, gf_16, q2, g7, g0, ra_50, z]
        obtain ⟨C1, m1, m2, m3, m4, m5⟩ := hmk
        have hrw := rf_weaver (k := k) (a := a) hR hW (by omega) (by omega) q1
        have u9 : (am_up (am_up (am_up (am_up (am_up (am_up (am_up (am_up (am_up (am_up R 309 W k) 565 W a) 821 W 0) 1077 W 0) 63 (3 * W + 0) (-1)) 63 (3 * W + 1) (-1)) 63 (3 * W + 2) (-1)) 62 (2 * W) (-1)) 62 (2 * W + 1) (-1)) 17 0 (W + 1)) 309 W = k := by simp (disch := omega) only [am_up_eq, am_up_nl, am_up_ni]
        have u5 : (am_up (am_up (am_up (am_up (am_up (am_up (am_up (am_up (am_up (am_up R 309 W k) 565 W a) 821 W 0) 1077 W 0) 63 (3 * W + 0) (-1)) 63 (3 * W + 1) (-1)) 63 (3 * W + 2) (-1)) 62 (2 * W) (-1)) 62 (2 * W + 1) (-1)) 17 0 (W + 1)) 565 W = a := by simp (disch := omega) only [am_up_eq, am_up_nl, am_up_ni]
        have u21 : (am_up (am_up (am_up (am_up (am_up (am_up (am_up (am_up (am_up (am_up R 309 W k) 565 W a) 821 W 0) 1077 W 0) 63 (3 * W + 0) (-1)) 63 (3 * W + 1) (-1)) 63 (3 * W + 2) (-1)) 62 (2 * W) (-1)) 62 (2 * W + 1) (-1)) 17 0 (W + 1)) 821 W = 0 := by simp (disch := omega) only [am_up_eq, am_up_nl, am_up_ni]
        have u77 : (am_up (am_up (am_up (am_up (am_up (am_up (am_up (am_up (am_up (am_up R 309 W k) 565 W a) 821 W 0) 1077 W 0) 63 (3 * W + 0) (-1)) 63 (3 * W + 1) (-1)) 63 (3 * W + 2) (-1)) 62 (2 * W) (-1)) 62 (2 * W + 1) (-1)) 17 0 (W + 1)) 1077 W = 0 := by simp (disch := omega) only [am_up_eq, am_up_nl, am_up_ni]
        obtain ⟨C2, b1, b2, b3, b4, b5, b6⟩ := become_all (Q := am_up (am_up (am_up (am_up (am_up (am_up (am_up (am_up (am_up (am_up R 309 W k) 565 W a) 821 W 0) 1077 W 0) 63 (3 * W + 0) (-1)) 63 (3 * W + 1) (-1)) 63 (3 * W + 2) (-1)) 62 (2 * W) (-1)) 62 (2 * W + 1) (-1)) 17 0 (W + 1)) (by omega) (by omega) m3 m4 hg u9 u5 u21 u77
        have eC : ∀ L i, ¬ (wlab W L ∨ L = -2 ∨ (L = -1 ∧ wlab W i) ∨ (L = 50 ∧ i = W)) → C2 L i = C L i := fun L i q => (b2 L i (fun z => q (by rcases z with z | z | z <;> simp only [z, true_or, or_true, and_self]))).trans (m5 L i q)
        have c6 : C2 16 6 = opc R := (eC _ _ (by unfold wlab; omega)).trans H.1
        have c4 : C2 16 4 = W := (eC _ _ (by unfold wlab; omega)).trans (g7.trans hW)
        have c2 : C2 2 k = k_in k := (eC _ _ (by unfold wlab; omega)).trans t2
        have c3 : C2 3 k = k_out k := (eC _ _ (by unfold wlab; omega)).trans t3
        have cn : C2 (15 + 256 * W) 0 = W := b3.1.1
        obtain ⟨o1, o2, o3⟩ := opc_b g9 g10
        have ki := kin_b k
        have ko := kout_b k
        have x1 : ∀ L i, ¬ (L = 16 ∧ (i = 4 ∨ i = 6)) → am_up (am_up C2 16 6 (opc R + (k_in k + k_out k))) 16 4 (W + 1) L i = C2 L i := fun L i q => by simp (disch := omega) only [am_up_or]
        obtain ⟨i1, i2, i3⟩ := INV_new (C' := am_up (am_up C2 16 6 (opc R + (k_in k + k_out k))) 16 4 (W + 1)) (R' := am_up (am_up (am_up (am_up (am_up (am_up (am_up (am_up (am_up (am_up R 309 W k) 565 W a) 821 W 0) 1077 W 0) 63 (3 * W + 0) (-1)) 63 (3 * W + 1) (-1)) 63 (3 * W + 2) (-1)) 62 (2 * W) (-1)) 62 (2 * W + 1) (-1)) 17 0 (W + 1)) H.1 N hW (by omega) (fun L i q => (x1 L i (fun z => q (Or.inr (Or.inr (Or.inr (Or.inr z)))))).trans (eC L i (fun z => q (z.elim Or.inl (fun z => Or.inr (z.elim Or.inl (fun z => Or.inr (z.elim Or.inl (fun z => Or.inr (Or.inl z)))))))))) (fun L i q => by unfold rtn at q; simp (disch := omega) only [am_up_or]) (by rw [x1 _ _ (by omega)]; exact (b2 _ _ (by unfold wlab; omega)).trans m2) (am_up_eq _ _ _ _) (am_up_eq _ _ _ _)
          (sw_congr (by omega) (by omega) (fun L i q => x1 _ _ (by unfold wst at q; omega)) (fun _ _ _ => rfl) (fun _ n f q => row_other (by omega) (by omega) (fun L i p => x1 _ _ (by unfold rt at p; omega)) (fun L p => x1 _ _ (by omega)) q) (fun _ => by
            obtain ⟨_, _, _, _, _, _, _, _, _, _, _, n, f, q⟩ := b3
            exact ⟨n, f, row_other (by omega) (by omega) (fun L i p => x1 _ _ (by unfold rt at p; omega)) (fun L p => x1 _ _ (by omega)) q⟩) b3)
          (fun p p0 p1 => ⟨by
            have hk : p = 0 ∨ p = 1 ∨ p = 2 := by omega
            rcases hk with rfl | rfl | rfl <;> simp (disch := omega) only [am_up_eq, am_up_nl, am_up_ni], (x1 _ _ (by omega)).trans (b5 p p0 p1)⟩)
          (fun p p0 p1 => ⟨by
            have hk : p = 0 ∨ p = 1 := by omega
            rcases hk with rfl | rfl
            · rw [show (2 * W + 0 : Int) = 2 * W from Int.add_zero _]; simp (disch := omega) only [am_up_eq, am_up_nl, am_up_ni]
            · simp (disch := omega) only [am_up_eq, am_up_nl, am_up_ni], (x1 _ _ (by omega)).trans (b6 p p0 p1)⟩)
          (by
            unfold nw
            rw [x1 _ 12 (by omega), x1 _ 13 (by omega), x1 _ 8 (by omega), x1 _ 1 (by omega)]
            exact b4)
          (by rw [u9, H.1]; simp (disch := omega) only [am_up_eq, am_up_nl, am_up_ni])
        refine ⟨W, _, _, e1.trans (m1.trans ?_), e2.trans hrw, i1, i2, i3⟩
        clear i1 i2 i3 hg
        simp (disch := omega) only [be_X6_weaver_10, Option.bind_some, cond_true, cond_false, decide_true, decide_false, Bool.not_true, Bool.not_false, ite_true, ite_false, and_self, true_and, and_true, or_self, true_or, or_true, false_or, or_false, decide_eq_true_eq, Int.reduceAdd, Int.reduceSub, Int.reduceMul, Int.reduceNeg, Int.reduceEq, Int.reduceLT, Int.reduceLE, Int.reduceNe, lcmp_z, lcmp_le, lcmp_ge, lcmp_lt, lcmp_gt, am_up_eq, am_up_nl, am_up_ni, gf_16, pf_16, gf_15, cls_15, pos_15, b1, c6, c4, c2, c3, cn, am_ald_2, am_ald_3, am_w32_ok]
    · refine ⟨-2, C, R, e1.trans ?_, e2.trans ?_, H, cf2_refl C, rfr_refl R⟩
      · simp (disch := omega) only [be_X6_weaver_4, be_X6_weaver_5, Option.bind_some, cond_true, cond_false, decide_true, decide_false, Bool.not_true, Bool.not_false, ite_true, ite_false, and_self, true_and, and_true, or_self, true_or, or_true, false_or, or_false, decide_eq_true_eq, Int.reduceAdd, Int.reduceSub, Int.reduceMul, Int.reduceNeg, Int.reduceEq, Int.reduceLT, Int.reduceLE, Int.reduceNe, lcmp_z, lcmp_le, lcmp_ge, lcmp_lt, lcmp_gt, gf_16, q2]
      · simp (disch := omega) only [be_X7_weaver_13, be_X7_weaver_14, Option.bind_some, cond_true, cond_false, decide_true, decide_false, Bool.not_true, Bool.not_false, ite_true, ite_false, and_self, true_and, and_true, or_self, true_or, or_true, false_or, or_false, decide_eq_true_eq, Int.reduceAdd, Int.reduceSub, Int.reduceMul, Int.reduceNeg, Int.reduceEq, Int.reduceLT, Int.reduceLE, Int.reduceNe, lcmp_z, lcmp_le, lcmp_ge, lcmp_lt, lcmp_gt, gf_17, q1]
  · exact ⟨-1, C, R, e1, e2, H, cf2_refl C, rfr_refl R⟩
