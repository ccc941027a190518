/-! an act: a pattern is read -/
theorem wl_congr {C C' R R' : am_M} {w : Int} (hC : ∀ L i, twa w L i → C' L i = C L i) (hR : ∀ L i, rcw w L i → R' L i = R L i) (h71 : R' 71 w = R 71 w) (hs : R 309 w = 13 → sr R w) (h : wl C R w) : wl C' R' w := by
  rcases h with h | ⟨hk, h⟩
  · exact Or.inl (wsn_congr hC hR h)
  · refine Or.inr ⟨(hR _ _ (by unfold rcw; omega)).trans hk, ?_⟩
    have hs := hs hk
    have k8 : C' (15 + 256 * w) 8 = C (15 + 256 * w) 8 := hC _ _ (by unfold twa; omega)
    have k9 : C' (15 + 256 * w) 9 = C (15 + 256 * w) 9 := hC _ _ (by unfold twa; omega)
    have k10 : C' (15 + 256 * w) 10 = C (15 + 256 * w) 10 := hC _ _ (by unfold twa; omega)
    have k15 : C' (15 + 256 * w) 15 = C (15 + 256 * w) 15 := hC _ _ (by unfold twa; omega)
    have k5 : C' (14 + 256 * w) 5 = C (14 + 256 * w) 5 := hC _ _ (by unfold twa; omega)
    have k60 : ∀ i, C' (60 + 256 * w) i = C (60 + 256 * w) i := fun i => hC _ _ (by unfold twa; omega)
    have e1589 : R' 1589 w = R 1589 w := hR _ _ (by unfold rcw; omega)
    have e1077 : R' 1077 w = R 1077 w := hR _ _ (by unfold rcw; omega)
    have e64 : ∀ i, R' 64 i = R 64 i := fun i => hR _ _ (by unfold rcw; omega)
    have e320 : ∀ i, R' 320 i = R 320 i := fun i => hR _ _ (by unfold rcw; omega)
    have e576 : ∀ i, R' 576 i = R 576 i := fun i => hR _ _ (by unfold rcw; omega)
    have e66 : ∀ i, 0 ≤ i → i ≤ 3 → R' 66 (4 * w + i) = R 66 (4 * w + i) := fun i a b => hR _ _ (by unfold rcw; omega)
    unfold wl13 at h ⊢
    rw [h71, k8, k15, e1589, e1077, k5, e64]
    rcases h with h | h | h | ⟨h1, h2, h3, h4, h5, h6, h7⟩
    · exact Or.inl h
    · exact Or.inr (Or.inl h)
    · exact Or.inr (Or.inr (Or.inl h))
    · refine Or.inr (Or.inr (Or.inr ⟨h1, h2, h3, h4, fun k a b => ?_, h6, ?_⟩))
      · rw [k60, e66 k a b]; exact h5 k a b
      · have v := hs.2.2 _ h2 h3
        unfold scn at h7 ⊢
        rw [k8, k9, k10, k15, e320, e576]
        rcases h7 with h | ⟨a1, a2, a3, a4⟩ | h
        · exact Or.inl h
        · refine Or.inr (Or.inl ⟨a1, a2, a3, ?_⟩)
          unfold sv at v
          dsimp only at a4 ⊢
          rw [e66 _ (by omega) (by omega)]; exact a4
        · exact Or.inr (Or.inr h)
theorem sw_sr {C R : am_M} {w : Int} (hs : sw C R w) (hk : R 309 w = 13) : sr R w := by
  obtain ⟨_, _, _, _, _, _, _, _, _, _, a13, _⟩ := hs
  exact st13_sr (a13 hk)
set_option maxHeartbeats 8000000 in
theorem act_got {C R : am_M} {h V : Int → Int → Int} {t : Int → Int} {w : Int} (H : RR C R h V t) (w0 : 0 ≤ w) (w1 : w < R 17 0) (hac : R 17 42 < 42000) (hn : C (15 + 256 * w) 8 = 0) (ho : 0 < R 1597 (R 63 (3 * w + C (15 + 256 * w) 9))) : actd C R w := by
  obtain ⟨hs0, R1, e1, e2, e3, e4, e5, e6, e7, e8⟩ := act_look H w0 w1 hac (by omega) (by omega)
  obtain ⟨y1, y2, y3, y4, y5⟩ := rtl_hall e2
  obtain ⟨hR, w2, hsw, hpr, ⟨x1, x2, x3, x4, x5, x6, x7, x8⟩, h50, h8, z1, z2, z3, z4, z5, z6⟩ := RR_w e8 w0 (by omega)
  obtain ⟨pr1, pr2, pr3⟩ := ws_port hsw (wl_ws e7)
  obtain ⟨p0, p1, p2, p9⟩ := pr2 hn
  obtain ⟨b0, b1, b2, b3⟩ := RR_in e8 w0 (by omega) p0 p1 p2
  have hr46 := e4 hn
  have hb63 : R 63 (3 * w + C (15 + 256 * w) 9) = R1 63 (3 * w + C (15 + 256 * w) 9) := (e2 _ _ (by unfold rtl; omega)).symm
  rw [hb63] at ho
  rw [← e2 1597 _ (by unfold rtl; omega)] at ho
  revert b0 b1 b2 b3 ho
  generalize hb : R1 63 (3 * w + C (15 + 256 * w) 9) = b
  intro ho b0 b1 b2 b3
  obtain ⟨b60, ⟨hbcl, hrb, q1, q2, q3, q4⟩, f0, f1, t0, t1⟩ := RR_b e8 b0 b1
  obtain ⟨a1, a2, a3, a4, a5, a6, a7, a8, a9⟩ := id hrb
  have hst0 : R1 1333 w = 0 := (e2 _ _ (by unfold rtl; omega)).trans hs0
  -- the reference
  have hR2 : rs (am_up R1 17 42 (R1 17 42 + 1)) := rs_fr (T := fun L i => L = 17 ∧ i = 42) hR (fr2_up ⟨rfl, rfl⟩ (fr2_refl _ _)) (fun i => by omega)
  have hrb2 : rb (am_up R1 17 42 (R1 17 42 + 1)) b (h b) (V b) (t b) := rb_congr (fun L q => by simp (disch := omega) only [am_up_eq, am_up_nl, am_up_ni]) (by simp (disch := omega) only [am_up_eq, am_up_nl, am_up_ni]; omega) (fun k _ _ => by simp (disch := omega) only [am_up_eq, am_up_nl, am_up_ni]) (fun k _ _ => by simp (disch := omega) only [am_up_eq, am_up_nl, am_up_ni]) hrb
  have g46 : am_up R1 17 42 (R1 17 42 + 1) 17 46 = C (15 + 256 * w) 9 := by simp (disch := omega) only [am_up_eq, am_up_nl, am_up_ni]; exact hr46
  have hdr := dr_ev (w := w) (b := b) hR2 w0 w2 b0 b60 (by simp (disch := omega) only [am_up_eq, am_up_nl, am_up_ni]; omega) (by rw [g46]; exact p0) (by rw [g46]; omega) (by rw [g46]; simp (disch := omega) only [am_up_eq, am_up_nl, am_up_ni]; exact hb) (by simp (disch := omega) only [am_up_eq, am_up_nl, am_up_ni]; exact ho) (by simp (disch := omega) only [am_up_eq, am_up_nl, am_up_ni]; omega) (by
      have := (rb_take hrb2 (by simp (disch := omega) only [am_up_eq, am_up_nl, am_up_ni]; exact ho)).1
      exact this) (by
      have := (rb_take hrb2 (by simp (disch := omega) only [am_up_eq, am_up_nl, am_up_ni]; exact ho)).2.1
      simp (disch := omega) only [am_up_eq, am_up_nl, am_up_ni] at this ⊢; omega)
  obtain ⟨k1, k2, k3, k4⟩ := rb_take hrb2 (by simp (disch := omega) only [am_up_eq, am_up_nl, am_up_ni]; exact ho)
  rw [k3] at hdr
  have fR3 : fr2 (rta w b) R1 (am_up (am_up (am_up R1 17 42 (R1 17 42 + 1)) 1597 b (am_up R1 17 42 (R1 17 42 + 1) 1597 b - 1)) 3133 b (am_up R1 17 42 (R1 17 42 + 1) 70 (am_up R1 17 42 (R1 17 42 + 1) 3133 b))) := by
    (repeat' first | exact fr2_refl _ _ | refine fr2_up ?_ ?_) <;> (unfold rta; omega)
  have o3 : (am_up (am_up (am_up R1 17 42 (R1 17 42 + 1)) 1597 b (am_up R1 17 42 (R1 17 42 + 1) 1597 b - 1)) 3133 b (am_up R1 17 42 (R1 17 42 + 1) 70 (am_up R1 17 42 (R1 17 42 + 1) 3133 b))) 1597 b = R1 1597 b - 1 := by simp (disch := omega) only [am_up_eq, am_up_nl, am_up_ni]
  have m3 : (am_up (am_up (am_up R1 17 42 (R1 17 42 + 1)) 1597 b (am_up R1 17 42 (R1 17 42 + 1) 1597 b - 1)) 3133 b (am_up R1 17 42 (R1 17 42 + 1) 70 (am_up R1 17 42 (R1 17 42 + 1) 3133 b))) 17 42 = R1 17 42 + 1 := by simp (disch := omega) only [am_up_eq, am_up_nl, am_up_ni]
  have oth3 : ∀ L i, ¬ ((L = 17 ∧ i = 42) ∨ ((L = 1597 ∨ L = 3133) ∧ i = b)) → (am_up (am_up (am_up R1 17 42 (R1 17 42 + 1)) 1597 b (am_up R1 17 42 (R1 17 42 + 1) 1597 b - 1)) 3133 b (am_up R1 17 42 (R1 17 42 + 1) 70 (am_up R1 17 42 (R1 17 42 + 1) 3133 b))) L i = R1 L i := fun L i q => by simp (disch := omega) only [am_up_or]
  revert hdr k4 fR3 o3 m3 oth3
  generalize am_up (am_up (am_up R1 17 42 (R1 17 42 + 1)) 1597 b (am_up R1 17 42 (R1 17 42 + 1) 1597 b - 1)) 3133 b (am_up R1 17 42 (R1 17 42 + 1) 70 (am_up R1 17 42 (R1 17 42 + 1) 3133 b)) = R3
  intro hdr k4 fR3 o3 m3 oth3
  have hR3 : rs R3 := rs_fr hR fR3 (fun i => by unfold rta rtw; omega)
  -- the class
  obtain ⟨hc, hck, hca, _, _, _, _, _, _, _, _, har⟩ := id hsw
  have hbcl1 : bcl (am_up C (15 + 256 * w) 12 (R1 1845 w + 1)) b (R1 61 b) (R1 317 b) (R1 1085 b) (R1 1341 b) (R1 2365 b) (R1 1597 b) (R1 1853 b) (R1 65 b) (R1 2109 b) (V b) (t b) := bcl_ext b0 b60 hbcl (fun L i q => by unfold bt at q; simp (disch := omega) only [am_up_eq, am_up_nl, am_up_ni]) (fun L q => by simp (disch := omega) only [am_up_eq, am_up_nl, am_up_ni]) (fun _ _ _ _ => rfl) (fun _ _ _ => rfl)
  obtain ⟨C2, v1, v2, v3⟩ := bcl_take b0 b60 hbcl1 ho
  have kC2 : ∀ L i, ¬ (bt b L ∨ L = -2 ∨ (L = -1 ∧ bt b i)) → C2 L i = am_up C (15 + 256 * w) 12 (R1 1845 w + 1) L i := fun L i q => v2 L i (fun a => q (Or.inl a)) (fun a => q (Or.inr (Or.inl a))) (fun a c => q (Or.inr (Or.inr ⟨a, c⟩)))
  have kCw : ∀ L i, ¬ (bt b L ∨ L = -2 ∨ (L = -1 ∧ bt b i) ∨ (L = 15 + 256 * w ∧ i = 12)) → C2 L i = C L i := fun L i q => by
    unfold bt at q
    rw [kC2 L i (by unfold bt; omega)]; simp (disch := omega) only [am_up_or]
  have row2 : ∀ n f, row C (20 + 256 * w) n f → row C2 (20 + 256 * w) n f := fun n f q => row_other w0 w2 (fun L i p => kCw _ _ (by unfold rt at p; unfold bt; omega)) (fun L p => kCw _ _ (by unfold rt at p; unfold bt; omega)) q
  have hsw2 : sw C2 R3 w := sw_congr w0 w2 (fun L i q => kCw _ _ (by unfold wst at q; unfold bt; omega)) (fun L i q => oth3 _ _ (by unfold rcs at q; omega)) (fun _ n f q => row2 n f q) (fun _ => by obtain ⟨n, f, q⟩ := har; exact ⟨n, f, row2 n f q⟩) hsw
  have hwl2 : wl C2 R3 w := wl_congr (fun L i q => kCw _ _ (by unfold twa at q; unfold bt; omega)) (fun L i q => oth3 _ _ (by unfold rcw at q; omega)) (oth3 _ _ (by omega)) (sw_sr hsw) e7
  have u1845 : R3 1845 w = R1 1845 w := oth3 _ _ (by omega)
  have u309 : R3 309 w = R1 309 w := oth3 _ _ (by omega)
  have u2101 : R3 2101 w = R1 2101 w := oth3 _ _ (by omega)
  have u1333 : R3 1333 w = R1 1333 w := oth3 _ _ (by omega)
  have bw : R1 309 w = 9 → R1 63 (3 * w) = b := fun k9 => by rw [← hb, p9 k9, Int.add_zero]
  obtain ⟨C3, R4, g1, g2, g3, g4, g5, g6, g7, g8, g9, g10⟩ := got_all (v := V b (t b)) (f := V b) hR3 w0 w2 hsw2 hwl2 (by rw [kCw _ _ (by unfold bt; omega)]; exact hn) (by rw [oth3 _ _ (by omega), kCw _ _ (by unfold bt; omega)]; exact hr46) (by rw [kC2 _ _ (by unfold bt; omega), u1845]; simp (disch := omega) only [am_up_eq, am_up_nl, am_up_ni]) (by omega) (by omega) (fun k9 => by
      rw [u1845]
      have := (x8 (by omega)).1
      rw [bw (by omega)] at this
      exact row2 _ _ this)
  obtain ⟨⟨x, Cm⟩, ga, gb⟩ := Option.bind_eq_some_iff.mp g1
  dsimp only at gb
  -- all together
  have fC : fr2 (cta w b) C (am_up C3 16 8 (C 16 8 + 1)) := by
    refine fr2_up (by unfold cta; omega) (fr2_trans ?_ (fr2_mono (fun L i q => Or.inl (Or.inl q)) g3))
    refine fun L i q => kCw L i (fun a => q ?_)
    rcases a with a | a | a | a
    · exact Or.inr (Or.inl a)
    · exact Or.inr (Or.inr (Or.inl a))
    · exact Or.inr (Or.inr (Or.inr (Or.inl a)))
    · exact Or.inl (Or.inr ⟨a.1, by rw [a.2]; decide, by rw [a.2]; decide⟩)
  have fR : fr2 (rta w b) R1 R4 := fr2_trans fR3 (fr2_mono (fun L i q => Or.inl q) g6)
  have k16 : C3 16 8 = C 16 8 := by rw [g3 _ _ (by unfold twr twa; omega)]; exact kCw _ _ (by unfold bt; omega)
  have r42 : R4 17 42 = R1 17 42 + 1 := by rw [g6 _ _ (by unfold rtw; omega)]; exact m3
  have r29 : R4 17 29 = R1 17 29 := by rw [g6 _ _ (by unfold rtw; omega)]; exact oth3 _ _ (by omega)
  have c69 : ∀ i, R4 69 i = R1 69 i := fun i => by rw [g6 _ _ (by unfold rtw; omega)]; exact oth3 _ _ (by omega)
  have c70 : ∀ i, R4 70 i = R1 70 i := fun i => by rw [g6 _ _ (by unfold rtw; omega)]; exact oth3 _ _ (by omega)
  have oth4 : ∀ L i, ¬ ((L = 17 ∧ i = 42) ∨ ((L = 1597 ∨ L = 3133) ∧ i = b) ∨ rtw w L i) → R4 L i = R1 L i := fun L i q => by
    unfold rtw at q
    rw [g6 _ _ (by unfold rtw; omega)]; exact oth3 _ _ (by omega)
  have h44 : hinj R1 h := by
    obtain ⟨_, _, _, _, _, _, _, _, _, _, _, _, _, _, _, _, _, _, r14⟩ := e8
    exact r14
  refine ⟨C3, R4, h, V, (fun b' => if b' = b then t b + 1 else t b'), ?_, ?_, k16, ?_, by omega, ?_, ?_, ?_, ?_, rfr_trans (rtl_rfr e2) (rfr_of fR)⟩
  · obtain ⟨c0, c1, c2, c3, c4, c5, d0, d1, d2, s0, s1, s2, s3⟩ := hc
    have hfm : C (10 + 256 * b) 2 = 15 + 256 * R1 61 b := hbcl.2.2.1
    have hld : C (10 + 256 * b) 9 = R1 1597 b := (bcl_len hbcl).2.1
    have hcr := cl_canBeRead (C := C) b0 f0 hfm
    rw [if_pos (Or.inl (by omega))] at hcr
    have nb : (10 + 256 * b = 0) = False := eq_false (by omega)
    have nl : ¬ R1 1597 b ≤ 0 := by omega
    simp (disch := omega) only [be_X5_act_m, be_X5_act_0, be_X5_act_1, Option.bind_some, cond_true, cond_false, decide_true, decide_false, Bool.not_true, Bool.not_false, ite_true, ite_false, and_self, true_and, and_true, or_self, true_or, or_true, false_or, or_false, decide_eq_true_eq, Int.reduceAdd, Int.reduceSub, Int.reduceMul, Int.reduceNeg, Int.reduceEq, Int.reduceLT, Int.reduceLE, Int.reduceNe, lcmp_z, lcmp_le, lcmp_ge, lcmp_lt, lcmp_gt, am_up_eq, am_up_nl, am_up_ni, gf_15, pf_15, cls_15, pos_15, gf_10, pf_10, cls_10, pos_10, gf_14, pf_14, cls_14, pos_14, c0, c1, c2, c3, c4, c5, d0, d1, d2, s0, s1, s2, s3, ra_55, hn, b3]
    simp (disch := omega) only [be_X5_readOff_m, be_X5_readOff_0, be_X5_readOff_1, be_X5_readOff_3, be_X5_readOff_4, be_X5_readOff_11, Option.bind_some, cond_true, cond_false, decide_true, decide_false, Bool.not_true, Bool.not_false, ite_true, ite_false, and_self, true_and, and_true, or_self, true_or, or_true, false_or, or_false, decide_eq_true_eq, Int.reduceAdd, Int.reduceSub, Int.reduceMul, Int.reduceNeg, Int.reduceEq, Int.reduceLT, Int.reduceLE, Int.reduceNe, lcmp_z, lcmp_le, lcmp_ge, lcmp_lt, lcmp_gt, gf_15, pf_15, cls_15, pos_15, gf_10, pf_10, cls_10, pos_10, gf_14, pf_14, cls_14, pos_14, nb, hcr, hld, decide_eq_false nl, x1, am_w32_ok, v1, ga]
    simp (disch := omega) only [be_X5_act_5, Option.bind_some, cond_true, cond_false, decide_true, decide_false, Bool.not_true, Bool.not_false, ite_true, ite_false, and_self, true_and, and_true, or_self, true_or, or_true, false_or, or_false, decide_eq_true_eq, Int.reduceAdd, Int.reduceSub, Int.reduceMul, Int.reduceNeg, Int.reduceEq, Int.reduceLT, Int.reduceLE, Int.reduceNe, lcmp_z, lcmp_le, lcmp_ge, lcmp_lt, lcmp_gt, gf_15, pf_15, cls_15, pos_15, gf_10, pf_10, cls_10, pos_10, gf_14, pf_14, cls_14, pos_14, gb]
  · rw [(da_ev hR e1 z1 (by omega)).1 (by omega), hdr, g2]
    rfl
  · refine RR_step (w := w) (b := b) e8 w0 (by omega) (by omega) b1 fC fR (fun b' k _ _ _ _ _ => c69 _) (fun b' k _ _ _ _ _ => c70 _) (by omega) (by omega) (by omega) (by omega) (by simp (disch := omega) only [am_up_eq, am_up_nl, am_up_ni]; omega) (fun _ _ => rfl) (fun _ _ => rfl) (fun _ _ _ => rfl) (fun b' b'0 q => ?_) (fun _ => by omega) (fun k9 n f q => ?_) (fun k9 => ?_) ?_ (fun _ => ?_) ?_
    · have hne : b' ≠ b := by
        rcases q with q | q
        · exact q
        · intro q2; rw [q2] at q; omega
      rw [if_neg hne]
    · exact row_other w0 w2 (fun L i p => by unfold rt at p; simp (disch := omega) only [am_up_eq, am_up_nl, am_up_ni]; exact g4 (by omega) _ _ (by unfold twa; omega)) (fun L p => by unfold rt at p; simp (disch := omega) only [am_up_eq, am_up_nl, am_up_ni]; exact g4 (by omega) _ _ (by unfold twa; omega)) (row2 n f q)
    · exact ⟨_, _, row_other w0 w2 (fun L i p => by unfold rt at p; simp (disch := omega) only [am_up_eq, am_up_nl, am_up_ni]) (fun L p => by simp (disch := omega) only [am_up_eq, am_up_nl, am_up_ni]) (g5 (by omega))⟩
    · unfold wr
      rw [oth4 63 _ (by unfold rtw; omega)]
      simp (disch := omega) only [am_up_eq, am_up_nl, am_up_ni]
      rw [g3 _ 12 (by unfold twr twa; omega), g3 _ 13 (by unfold twr twa; omega), kC2 _ 12 (by unfold bt; omega), kCw _ 13 (by unfold bt; omega), am_up_eq]
      refine ⟨by omega, by omega, by omega, by omega, by omega, by omega, Or.inr (Or.inr ⟨by omega, ?_, ?_⟩), fun k9 => ?_⟩
      · simp (disch := omega) only [am_up_eq, am_up_nl, am_up_ni]
        rw [g3 _ 14 (by unfold twr twa; omega), kCw _ 14 (by unfold bt; omega)]
        rcases x7 with q | q | q
        · omega
        · omega
        · exact q.2.1
      · have hsw3 : sw C3 R4 w := sw_congr w0 w2 (fun L i q => g3 _ _ (by unfold wst at q; unfold twr twa; omega)) (fun L i q => g6 _ _ (by unfold rcs at q; unfold rtw; omega)) (fun k9 n f q => row_other w0 w2 (fun L i p => g4 (by omega) _ _ (by unfold rt at p; unfold twa; omega)) (fun L p => g4 (by omega) _ _ (by unfold rt at p; unfold twa; omega)) q) (fun k9 => ⟨_, _, g5 k9⟩) hsw2
        exact ws_congr hsw3 (fun L i q => by unfold twa at q; simp (disch := omega) only [am_up_eq, am_up_nl, am_up_ni]) (fun _ _ _ => rfl) rfl g10
      · have k9' : R1 309 w = 9 := by rw [← oth4 309 w (by unfold rtw; omega)]; exact k9
        have hx := x8 k9'
        rw [bw k9'] at hx ⊢
        rw [if_pos rfl]
        refine ⟨?_, by omega⟩
        have g5' := g5 (by omega)
        rw [g7, u1845] at *
        refine row_ext (rok_w w0 w2) (row_other (C' := am_up C3 16 8 (C 16 8 + 1)) w0 w2 (fun L i p => by unfold rt at p; simp (disch := omega) only [am_up_eq, am_up_nl, am_up_ni]) (fun L p => by simp (disch := omega) only [am_up_eq, am_up_nl, am_up_ni]) g5') (fun _ _ _ => rfl) (fun _ _ => rfl) (fun k c1 c2 c3 => ?_)
        by_cases ck : k = R1 1845 w
        · rw [if_pos ck, ck, hx.2]
        · rw [if_neg ck]
    · rw [if_pos rfl]
      unfold br
      have ev : ∀ L, (L = 61 ∨ L = 317 ∨ L = 1085 ∨ L = 1341 ∨ L = 2365 ∨ L = 1853 ∨ L = 65 ∨ L = 2109) → R4 L b = R1 L b := fun L q => oth4 L b (by unfold rtw; omega)
      rw [ev 61 (by omega), ev 317 (by omega), ev 1085 (by omega), ev 1341 (by omega), ev 2365 (by omega), ev 1853 (by omega), ev 65 (by omega), ev 2109 (by omega), show R4 1597 b = R1 1597 b - 1 by rw [g6 _ _ (by unfold rtw; omega)]; exact o3]
      refine ⟨bcl_ext b0 b60 v3 (fun L i q => ?_) (fun L q => ?_) (fun _ _ _ _ => rfl) (fun _ _ _ => rfl), ?_, ⟨q1.1, by omega⟩, q2, by omega, fun q => ?_⟩
      · unfold bt at q; simp (disch := omega) only [am_up_eq, am_up_nl, am_up_ni]; exact g3 _ _ (by unfold twr twa; omega)
      · unfold bt at q; simp (disch := omega) only [am_up_eq, am_up_nl, am_up_ni]; exact g3 _ _ (by unfold twr twa; omega)
      · refine rb_congr (fun L q => g6 _ _ (by unfold rtw; omega)) (by rw [g6 _ _ (by unfold rtw; omega)]; omega) (fun k _ _ => g6 _ _ (by unfold rtw; omega)) (fun k _ _ => g6 _ _ (by unfold rtw; omega)) k4
      · have := q4 (by rw [b2]; omega)
        omega
    · exact hinj_of h44 (oth4 _ _ (by unfold rtw; omega)) (fun b => oth4 _ _ (by unfold rtw; omega))
  · rw [oth4 _ _ (by unfold rtw; omega)]; exact y2
  · rw [oth4 _ _ (by unfold rtw; omega)]; exact y3
  · rw [oth4 _ _ (by unfold rtw; omega)]; exact y4
  · exact fun L i q => by
      have := cfr_of fC w0 (by omega) L i q
      rwa [am_up_or _ _ _ _ _ _ (by unfold FR at q; omega)] at this
