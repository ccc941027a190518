/-! an act: a pattern is written -/
set_option maxHeartbeats 8000000 in
theorem act_gave {C R : am_M} {h V : Int → Int → Int} {t : Int → Int} {w : Int} (H : RR C R h V t) (w0 : 0 ≤ w) (w1 : w < R 17 0) (hac : R 17 42 < 42000) (hn : C (15 + 256 * w) 8 = 1) (ho : R 1597 (R 62 (2 * w + C (15 + 256 * w) 9)) < R 1341 (R 62 (2 * w + C (15 + 256 * w) 9)) ∨ 2 < R 1333 (R 317 (R 62 (2 * w + C (15 + 256 * w) 9)))) : actd C R w := by
  obtain ⟨hs0, R1, e1, e2, e3, e4, e5, e6, e7, e8⟩ := act_look H w0 w1 hac (by omega) (by omega)
  obtain ⟨y1, y2, y3, y4, y5⟩ := rtl_hall e2
  obtain ⟨hR, w2, hsw, hpr, ⟨x1, x2, x3, x4, x5, x6, x7, x8⟩, h50, h8, z1, z2, z3, z4, z5, z6⟩ := RR_w e8 w0 (by omega)
  obtain ⟨pr1, pr2, pr3⟩ := ws_port hsw (wl_ws e7)
  obtain ⟨p0, p1, p2⟩ := pr3 hn
  obtain ⟨b0, b1, b2, b3⟩ := RR_out e8 w0 (by omega) p0 p1 p2
  obtain ⟨hr46, hr47⟩ := e5 hn
  clear pr1 pr2 pr3 e4 e5 e6
  have hb62 : R 62 (2 * w + C (15 + 256 * w) 9) = R1 62 (2 * w + C (15 + 256 * w) 9) := (e2 _ _ (by unfold rtl; omega)).symm
  rw [hb62] at ho
  rw [← e2 1597 _ (by unfold rtl; omega), ← e2 1341 _ (by unfold rtl; omega), ← e2 317 _ (by unfold rtl; omega), ← e2 1333 _ (by unfold rtl; omega)] at ho
  revert ho b0 b1 b2 b3
  generalize hb : R1 62 (2 * w + C (15 + 256 * w) 9) = b
  intro ho b0 b1 b2 b3
  obtain ⟨b60, ⟨hbcl, hrb, q1, q2, q3, q4⟩, f0, f1, t0, t1⟩ := RR_b e8 b0 b1
  obtain ⟨a1, a2, a3, a4, a5, a6, a7, a8, a9⟩ := id hrb
  have hst0 : R1 1333 w = 0 := (e2 _ _ (by unfold rtl; omega)).trans hs0
  have h44 : hinj R1 h := by
    obtain ⟨_, _, _, _, _, _, _, _, _, _, _, _, _, _, _, _, _, _, r14⟩ := e8
    exact r14
  have hlast : -1 ≤ R1 2877 b ∧ R1 2877 b < R1 17 29 := by
    by_cases q : R1 2109 b = 0
    · have := a5 q; omega
    · have := (a6 (by omega)).2
      have z := a7 (R1 2109 b - 1) (by omega) (by omega)
      omega
  have nlt0 : R1 2109 b < 2000000000 := by omega
  have wlt : ¬ 2 < R1 1333 (R1 317 b) → R1 1597 b < R1 1341 b := fun c => ho.resolve_right c
  have wlt2 : ¬ 2 < R1 1333 (R1 317 b) → R1 1597 b < 1000 := fun c => by
    have := wlt c
    omega
  -- the reference
  have hR2 : rs (am_up R1 17 42 (R1 17 42 + 1)) := rs_fr (T := fun L i => L = 17 ∧ i = 42) hR (fr2_up ⟨rfl, rfl⟩ (fr2_refl _ _)) (fun i => by omega)
  have u2 : ∀ L i, ¬ (L = 17 ∧ i = 42) → am_up R1 17 42 (R1 17 42 + 1) L i = R1 L i := fun L i q => by simp (disch := omega) only [am_up_or]
  have g46 : am_up R1 17 42 (R1 17 42 + 1) 17 46 = C (15 + 256 * w) 9 := by rw [u2 _ _ (by omega)]; exact hr46
  obtain ⟨R4, k1, k29, k65, k69, k2877, k2109, ka, kb, kc, kd, k69', k70, kf⟩ := dw_ev (w := w) (b := b) hR2 w0 w2 b0 b60 (by rw [u2 _ _ (by omega)]; omega) (by rw [g46]; exact p0) (by rw [g46]; omega) (by rw [g46, u2 _ _ (by omega)]; exact hb) (by rw [u2 _ _ (by omega)]; omega) (by rw [u2 _ _ (by omega)]; omega) (by rw [u2 _ _ (by omega)]; omega) (by rw [u2 _ _ (by omega), u2 _ _ (by omega)]; omega) (by rw [u2 _ _ (by omega)]; omega) (by rw [u2 _ _ (by omega)]; omega) (by rw [u2 _ _ (by omega)]; omega) (by rw [u2 _ _ (by omega)]; omega) (by rw [u2 _ _ (by omega)]; omega) (by rw [u2 _ _ (by omega)]; omega)
  rw [u2 17 29 (by omega)] at k29 k69 k2877 ka kb kd k69' k70
  rw [u2 65 b (by omega), u2 17 47 (by omega)] at k65
  rw [u2 17 47 (by omega)] at k69
  rw [u2 2109 b (by omega)] at k2109
  rw [u2 2877 b (by omega)] at ka kb k70
  rw [u2 2621 b (by omega)] at kb
  rw [u2 317 b (by omega), u2 1333 _ (by omega), u2 1597 b (by omega), u2 1853 b (by omega), u2 3133 b (by omega)] at kc
  rw [u2 317 b (by omega), u2 1333 _ (by omega), u2 1597 b (by omega), u2 1853 b (by omega), u2 3133 b (by omega)] at kd
  have oth4 : ∀ L i, ¬ ((L = 17 ∧ (i = 29 ∨ i = 42)) ∨ L = 69 ∨ L = 70 ∨ ((L = 65 ∨ L = 2877 ∨ L = 2109 ∨ L = 2621 ∨ L = 1597 ∨ L = 1853 ∨ L = 3133) ∧ i = b)) → R4 L i = R1 L i := fun L i q => by
    rw [kf L i (by omega)]; exact u2 L i (by omega)
  have k42 : R4 17 42 = R1 17 42 + 1 := by rw [kf _ _ (by omega)]; exact am_up_eq _ _ _ _
  have hR4 : rs R4 := rs_fr (T := fun L i => (L = 17 ∧ (i = 29 ∨ i = 42)) ∨ L = 69 ∨ L = 70 ∨ ((L = 65 ∨ L = 2877 ∨ L = 2109 ∨ L = 2621 ∨ L = 1597 ∨ L = 1853 ∨ L = 3133) ∧ i = b)) hR oth4 (fun i => by omega)
  -- the class
  obtain ⟨hc, hck, hca, -, -, -, -, -, -, -, -, har⟩ := id hsw
  have hbcl1 : bcl (am_up C (15 + 256 * w) 13 (R1 2101 w + 1)) b (R1 61 b) (R1 317 b) (R1 1085 b) (R1 1341 b) (R1 2365 b) (R1 1597 b) (R1 1853 b) (R1 65 b) (R1 2109 b) (V b) (t b) := bcl_ext b0 b60 hbcl (fun L i q => by unfold bt at q; simp (disch := omega) only [am_up_eq, am_up_nl, am_up_ni]) (fun L q => by simp (disch := omega) only [am_up_eq, am_up_nl, am_up_ni]) (fun _ _ _ _ => rfl) (fun _ _ _ => rfl)
  have hto := RR_w e8 t0 t1
  obtain ⟨ov1, ov2⟩ := st_over hto.2.2.1 hto.2.2.2.2.1.2.2.2.2.2.2.1
  have n1 : ∀ i, i ≠ 13 → am_up C (15 + 256 * w) 13 (R1 2101 w + 1) (15 + 256 * R1 317 b) i = C (15 + 256 * R1 317 b) i := fun i q => by simp (disch := omega) only [am_up_or]
  have nlt : R1 2109 b < 2000000000 := nlt0
  have hput : ∃ C2 o' mo', am_evm am_PP nX0_put [(2, 10 + 256 * b), (1, C (15 + 256 * w) 10)] (am_up C (15 + 256 * w) 13 (R1 2101 w + 1)) = some (0, C2) ∧ fr (bt b) (am_up C (15 + 256 * w) 13 (R1 2101 w + 1)) C2 ∧ bcl C2 b (R1 61 b) (R1 317 b) (R1 1085 b) (R1 1341 b) (R1 2365 b) o' mo' (am_w64 (am_w64 (31 * R1 65 b) + C (15 + 256 * w) 10)) (R1 2109 b + 1) (fun k => if k = R1 2109 b then C (15 + 256 * w) 10 else V b k) (t b) ∧ R4 1597 b = o' ∧ R4 1853 b = mo' ∧ ((R4 1597 b = R1 1597 b ∧ R4 3133 b = R1 3133 b ∧ 2 < R1 1333 (R1 317 b)) ∨ (t b + R1 1597 b = R1 2109 b ∧ R4 1597 b = R1 1597 b + 1 ∧ R4 3133 b = (if R1 1597 b = 0 then R1 17 29 else R1 3133 b) ∧ R1 1597 b < R1 1341 b)) := by
    by_cases c : 2 < R1 1333 (R1 317 b)
    · obtain ⟨C2, m1, m2, m3⟩ := bcl_put1 (v := C (15 + 256 * w) 10) b0 b60 t0 hbcl1 nlt a3 a4 (by rw [n1 8 (by decide), ov1]; exact c)
      obtain ⟨l1, l2, l3⟩ := kc c
      exact ⟨C2, _, _, m1, m2, m3, l1, l2, Or.inl ⟨l1, l3, c⟩⟩
    · obtain ⟨C2, m1, m2, m3⟩ := bcl_put0 (v := C (15 + 256 * w) 10) b0 b60 t0 hbcl1 nlt a3 (q4 (Int.not_lt.mp c)) (wlt2 c) (by rw [n1 8 (by decide), ov1]; exact c)
      obtain ⟨l1, l2, l3⟩ := kd c
      exact ⟨C2, _, _, m1, m2, m3, l1, l2, Or.inr ⟨q4 (Int.not_lt.mp c), l1, l3, wlt c⟩⟩
  obtain ⟨C2, o', mo', v1, v2, v3, v4, v5, v6⟩ := hput
  clear kc kd
  have hrb4 : rb R4 b (fun k => if k = R1 2109 b then R1 17 29 else h b k) (fun k => if k = R1 2109 b then C (15 + 256 * w) 10 else V b k) (t b) := by
    rw [← hr47]
    exact rb_put hrb (fun k k' c1 c2 c3 c4 c5 => (h44 b b k k' b0 b1 b0 b1 c1 c2 c3 c4 c5).2) (by omega) k29 k69 k2877 k2109 ka kb (by
      rcases v6 with ⟨j1, j2, j3⟩ | j
      · exact Or.inl ⟨j1, j2⟩
      · exact Or.inr ⟨j.1, j.2.1, j.2.2.1⟩) k69' k70
  have fo : o' ≤ R1 1341 b := by
    clear ka kb a5 a6 a9 x8 wlt wlt2 ho q4
    rcases v6 with ⟨j1, j2, j3⟩ | ⟨j1, j2, j3, j4⟩ <;> omega
  have fq : R1 1333 (R1 317 b) ≤ 2 → t b + o' = R1 2109 b + 1 := by
    clear ka kb a5 a6 a9 x8 wlt wlt2 ho q4
    intro q
    rcases v6 with ⟨j1, j2, j3⟩ | ⟨j1, j2, j3, j4⟩ <;> omega
  have hln : ∀ b' k, 0 ≤ b' → b' < R1 17 11 → b' ≠ b → 0 ≤ k → k < R1 2109 b' → 0 ≤ h b' k → h b' k ≠ R1 2877 b := by
    clear ka kb a9 x8 wlt wlt2 ho q4 v6
    intro b' k c1 c2 c3 c4 c5 c6
    by_cases q : R1 2109 b = 0
    · have := a5 q; omega
    · rw [(a6 (by omega)).2]
      intro q5
      have := (h44 b' b k (R1 2109 b - 1) c1 c2 b0 b1 c4 c5 (by omega) (by omega) q5).1
      omega
  have hfm : C (10 + 256 * b) 3 = 15 + 256 * R1 317 b := hbcl.2.2.2.1
  have hld : C (10 + 256 * b) 9 = R1 1597 b := (bcl_len hbcl).2.1
  have hwn : C (10 + 256 * b) 5 = R1 1341 b := hbcl.2.2.2.2.2.1
  have hcr := cl_canBeWritten (C := C) b0 t0 hfm
  rw [if_pos (by rw [hld, hwn, ov1]; exact ho)] at hcr
  clear ka kb a5 a6 a9 x8 wlt wlt2 q4 v6 ho ov1 ov2 hfm hld hwn hlast
  have kC2 : ∀ L i, ¬ (bt b L ∨ L = -2 ∨ (L = -1 ∧ bt b i)) → C2 L i = am_up C (15 + 256 * w) 13 (R1 2101 w + 1) L i := fun L i q => v2 L i (fun a => q (Or.inl a)) (fun a => q (Or.inr (Or.inl a))) (fun a c => q (Or.inr (Or.inr ⟨a, c⟩)))
  have kCw : ∀ L i, ¬ (bt b L ∨ L = -2 ∨ (L = -1 ∧ bt b i) ∨ (L = 15 + 256 * w ∧ i = 13)) → C2 L i = C L i := fun L i q => by
    unfold bt at q
    rw [kC2 L i (by unfold bt; omega)]; simp (disch := omega) only [am_up_or]
  have row2 : ∀ n f, row C (20 + 256 * w) n f → row C2 (20 + 256 * w) n f := fun n f q => row_other w0 w2 (fun L i p => kCw _ _ (by unfold rt at p; unfold bt; omega)) (fun L p => kCw _ _ (by unfold rt at p; unfold bt; omega)) q
  have hsw2 : sw C2 R4 w := sw_congr w0 w2 (fun L i q => kCw _ _ (by unfold wst at q; unfold bt; omega)) (fun L i q => oth4 _ _ (by unfold rcs at q; omega)) (fun _ n f q => row2 n f q) (fun _ => by obtain ⟨n, f, q⟩ := har; exact ⟨n, f, row2 n f q⟩) hsw
  have hwl2 : wl C2 R4 w := wl_congr (fun L i q => kCw _ _ (by unfold twa at q; unfold bt; omega)) (fun L i q => oth4 _ _ (by unfold rcw at q; omega)) (oth4 _ _ (by omega)) (sw_sr hsw) e7
  have u1845 : R4 1845 w = R1 1845 w := oth4 _ _ (by omega)
  have u309 : R4 309 w = R1 309 w := oth4 _ _ (by omega)
  have u2101 : R4 2101 w = R1 2101 w := oth4 _ _ (by omega)
  have u1333 : R4 1333 w = R1 1333 w := oth4 _ _ (by omega)
  have n9 : R1 309 w ≠ 9 := fun q => by rw [q, show k_out 9 = 0 from rfl] at p1; omega
  obtain ⟨C3, R5, g1, g2, g3, g6, g7, g8, g9, g10⟩ := gave_all hR4 w0 w2 hsw2 hwl2 (by rw [kCw _ _ (by unfold bt; omega)]; exact hn) (by rw [kCw _ _ (by unfold bt; omega), u1845]; exact x1) (by omega) (by omega)
  obtain ⟨⟨x, Cm⟩, ga, gb⟩ := Option.bind_eq_some_iff.mp g1
  dsimp only at gb
  -- all together
  have fC : fr2 (cta w b) C (am_up C3 16 8 (C 16 8 + 1)) := by
    refine fr2_up (by unfold cta; omega) (fr2_trans ?_ (fr2_mono (fun L i q => Or.inl (Or.inl (twa_twr q))) g3))
    refine fun L i q => kCw L i (fun a => q ?_)
    rcases a with a | a | a | a
    · exact Or.inr (Or.inl a)
    · exact Or.inr (Or.inr (Or.inl a))
    · exact Or.inr (Or.inr (Or.inr (Or.inl a)))
    · exact Or.inl (Or.inr ⟨a.1, by rw [a.2]; decide, by rw [a.2]; decide⟩)
  have fR : fr2 (rta w b) R1 R5 := fr2_trans (fun L i q => oth4 L i (fun a => q (Or.inr a))) (fr2_mono (fun L i q => Or.inl q) g6)
  have k16 : C3 16 8 = C 16 8 := by rw [g3 _ _ (by unfold twa; omega)]; exact kCw _ _ (by unfold bt; omega)
  have r42 : R5 17 42 = R1 17 42 + 1 := by rw [g6 _ _ (by unfold rtw; omega)]; exact k42
  have r29 : R5 17 29 = R1 17 29 + 1 := by rw [g6 _ _ (by unfold rtw; omega)]; exact k29
  have r2109 : ∀ b', R5 2109 b' = R4 2109 b' := fun b' => g6 _ _ (by unfold rtw; omega)
  have oth5 : ∀ L i, ¬ ((L = 17 ∧ (i = 29 ∨ i = 42)) ∨ L = 69 ∨ L = 70 ∨ ((L = 65 ∨ L = 2877 ∨ L = 2109 ∨ L = 2621 ∨ L = 1597 ∨ L = 1853 ∨ L = 3133) ∧ i = b) ∨ rtw w L i) → R5 L i = R1 L i := fun L i q => by
    rw [g6 _ _ (fun a => q (Or.inr (Or.inr (Or.inr (Or.inr a)))))]
    refine oth4 _ _ (fun a => q ?_)
    rcases a with a | a | a | a
    · exact Or.inl a
    · exact Or.inr (Or.inl a)
    · exact Or.inr (Or.inr (Or.inl a))
    · exact Or.inr (Or.inr (Or.inr (Or.inl a)))
  have hold : ∀ b' k, 0 ≤ b' → b' < R1 17 11 → 0 ≤ k → k < R1 2109 b' → 0 ≤ h b' k ∧ h b' k < R1 17 29 := fun b' k c1 c2 c3 c4 => by
    obtain ⟨_, ⟨_, j, _⟩, _⟩ := RR_b e8 c1 c2
    obtain ⟨_, _, _, _, _, _, j7, _⟩ := j
    exact ⟨(j7 k c3 c4).1, (j7 k c3 c4).2.1⟩
  refine ⟨C3, R5, (fun b' => if b' = b then (fun k => if k = R1 2109 b then R1 17 29 else h b k) else h b'), (fun b' => if b' = b then (fun k => if k = R1 2109 b then C (15 + 256 * w) 10 else V b k) else V b'), t, ?_, ?_, k16, ?_, by omega, ?_, ?_, ?_, ?_, rfr_trans (rtl_rfr e2) (rfr_of fR)⟩
  · obtain ⟨c0, c1, c2, c3, c4, c5, d0, d1, d2, s0, s1, s2, s3⟩ := hc
    have nb : (10 + 256 * b = 0) = False := eq_false (by omega)
    simp (disch := omega) only [be_X5_act_m, be_X5_act_0, be_X5_act_2, Option.bind_some, cond_true, cond_false, decide_true, decide_false, Bool.not_true, Bool.not_false, ite_true, ite_false, and_self, true_and, and_true, or_self, true_or, or_true, false_or, or_false, decide_eq_true_eq, Int.reduceAdd, Int.reduceSub, Int.reduceMul, Int.reduceNeg, Int.reduceEq, Int.reduceLT, Int.reduceLE, Int.reduceNe, lcmp_z, lcmp_le, lcmp_ge, lcmp_lt, lcmp_gt, am_up_eq, am_up_nl, am_up_ni, gf_15, pf_15, cls_15, pos_15, gf_10, pf_10, cls_10, pos_10, gf_14, pf_14, cls_14, pos_14, c0, c1, c2, c3, c4, c5, d0, d1, d2, s0, s1, s2, s3, ra_56, hn, b3]
    simp (disch := omega) only [be_X5_writeTo_m, be_X5_writeTo_0, be_X5_writeTo_1, be_X5_writeTo_3, Option.bind_some, cond_true, cond_false, decide_true, decide_false, Bool.not_true, Bool.not_false, ite_true, ite_false, and_self, true_and, and_true, or_self, true_or, or_true, false_or, or_false, decide_eq_true_eq, Int.reduceAdd, Int.reduceSub, Int.reduceMul, Int.reduceNeg, Int.reduceEq, Int.reduceLT, Int.reduceLE, Int.reduceNe, lcmp_z, lcmp_le, lcmp_ge, lcmp_lt, lcmp_gt, am_up_eq, am_up_nl, am_up_ni, gf_15, pf_15, cls_15, pos_15, gf_10, pf_10, cls_10, pos_10, gf_14, pf_14, cls_14, pos_14, nb, hcr, x2, am_w32_ok, v1, ga]
    simp (disch := omega) only [be_X5_act_5, Option.bind_some, cond_true, cond_false, decide_true, decide_false, Bool.not_true, Bool.not_false, ite_true, ite_false, and_self, true_and, and_true, or_self, true_or, or_true, false_or, or_false, decide_eq_true_eq, Int.reduceAdd, Int.reduceSub, Int.reduceMul, Int.reduceNeg, Int.reduceEq, Int.reduceLT, Int.reduceLE, Int.reduceNe, lcmp_z, lcmp_le, lcmp_ge, lcmp_lt, lcmp_gt, gf_15, pf_15, cls_15, pos_15, gf_10, pf_10, cls_10, pos_10, gf_14, pf_14, cls_14, pos_14, gb]
  · rw [(da_ev hR e1 z1 (by omega)).2.1 (by omega), k1, g2]
    rfl
  · refine RR_step (w := w) (b := b) e8 w0 (by omega) (by omega) b1 fC fR (fun b' k c1 c2 c3 c4 c5 => ?_) (fun b' k c1 c2 c3 c4 c5 => ?_) (by omega) (by omega) (by omega) (by omega) (by simp (disch := omega) only [am_up_eq, am_up_nl, am_up_ni]; omega) (fun b' q => if_neg q) (fun b' q => if_neg q) (fun k c1 c2 => ?_) (fun _ _ _ => rfl) (fun _ => by omega) (fun k9 n f q => ?_) (fun k9 => absurd k9 n9) ?_ (fun _ => ?_) ?_
    · rw [g6 _ _ (by unfold rtw; omega)]
      have := hold b' k c1 c2 c4 c5
      exact (k69' _ (by omega)).trans (u2 _ _ (by omega))
    · have := hold b' k c1 c2 c4 (by omega)
      rw [g6 _ _ (by unfold rtw; omega)]
      exact (k70 _ (by omega) (hln b' k c1 c2 c3 c4 (by omega) (by omega))).trans (u2 _ _ (by omega))
    · rw [if_pos rfl, if_neg (by omega)]
    · exact row_other w0 w2 (fun L i p => by unfold rt at p; simp (disch := omega) only [am_up_eq, am_up_nl, am_up_ni]; exact g3 _ _ (by unfold twa; omega)) (fun L p => by unfold rt at p; simp (disch := omega) only [am_up_eq, am_up_nl, am_up_ni]; exact g3 _ _ (by unfold twa; omega)) (row2 n f q)
    · unfold wr
      simp (disch := omega) only [am_up_eq, am_up_nl, am_up_ni]
      rw [g3 _ 12 (by unfold twa; omega), g3 _ 13 (by unfold twa; omega), kCw _ 12 (by unfold bt; omega), kC2 _ 13 (by unfold bt; omega), am_up_eq]
      refine ⟨by omega, by omega, by omega, by omega, by omega, by omega, Or.inr (Or.inr ⟨by omega, ?_, ?_⟩), fun k9 => absurd ?_ n9⟩
      · simp (disch := omega) only [am_up_eq, am_up_nl, am_up_ni]
        rw [g3 _ 14 (by unfold twa; omega), kCw _ 14 (by unfold bt; omega)]
        rcases x7 with q | q | q
        · omega
        · omega
        · exact q.2.1
      · have hsw3 : sw C3 R5 w := sw_congr w0 w2 (fun L i q => g3 _ _ (by unfold wst at q; unfold twa; omega)) (fun L i q => g6 _ _ (by unfold rcs at q; unfold rtw; omega)) (fun k9 n f q => row_other w0 w2 (fun L i p => g3 _ _ (by unfold rt at p; unfold twa; omega)) (fun L p => g3 _ _ (by unfold rt at p; unfold twa; omega)) q) (fun k9 => absurd (u309.symm.trans k9) n9) hsw2
        exact ws_congr hsw3 (fun L i q => by unfold twa at q; simp (disch := omega) only [am_up_eq, am_up_nl, am_up_ni]) (fun _ _ _ => rfl) rfl g10
      · rw [← oth5 309 w (by unfold rtw; omega)]; exact k9
    · rw [if_pos rfl, if_pos rfl]
      unfold br
      have ev : ∀ L, (L = 61 ∨ L = 317 ∨ L = 1085 ∨ L = 1341 ∨ L = 2365) → R5 L b = R1 L b := fun L q => oth5 L b (by unfold rtw; omega)
      have ew : ∀ L, (L = 1597 ∨ L = 1853 ∨ L = 65 ∨ L = 2109) → R5 L b = R4 L b := fun L q => g6 L b (by unfold rtw; omega)
      rw [ev 61 (by omega), ev 317 (by omega), ev 1085 (by omega), ev 1341 (by omega), ev 2365 (by omega), ew 1853 (by omega), ew 65 (by omega), ew 2109 (by omega), ew 1597 (by omega), k65, hr47, k2109, v4, v5]
      refine ⟨bcl_ext b0 b60 v3 (fun L i q => ?_) (fun L q => ?_) (fun _ _ _ _ => rfl) (fun _ _ _ => rfl), ?_, ⟨q1.1, fo⟩, q2, by omega, fun q => ?_⟩
      · unfold bt at q; simp (disch := omega) only [am_up_eq, am_up_nl, am_up_ni]; exact g3 _ _ (by unfold twa; omega)
      · unfold bt at q; simp (disch := omega) only [am_up_eq, am_up_nl, am_up_ni]; exact g3 _ _ (by unfold twa; omega)
      · exact rb_congr (fun L q => g6 _ _ (by unfold rtw; omega)) (by rw [g6 _ _ (by unfold rtw; omega)]; omega) (fun k _ _ => g6 _ _ (by unfold rtw; omega)) (fun k _ _ => g6 _ _ (by unfold rtw; omega)) hrb4
      · by_cases ew' : R1 317 b = w
        · exact fq (by rw [ew', hst0]; decide)
        · rw [oth5 1333 _ (by unfold rtw; omega)] at q; exact fq q
    · intro b1' b2' k k' c1 c2 c3 c4 c5 c6 c7 c8 c9
      rw [oth5 17 11 (by unfold rtw; omega)] at c2 c4
      rw [r2109] at c6 c8
      have s1 : ∀ b', b' ≠ b → R4 2109 b' = R1 2109 b' := fun b' q => oth4 _ _ (by omega)
      have val : ∀ b' k, 0 ≤ b' → b' < R1 17 11 → 0 ≤ k → k < R4 2109 b' → ((b' = b ∧ k = R1 2109 b ∧ (if b' = b then (fun k => if k = R1 2109 b then R1 17 29 else h b k) else h b') k = R1 17 29) ∨ (k < R1 2109 b' ∧ (if b' = b then (fun k => if k = R1 2109 b then R1 17 29 else h b k) else h b') k = h b' k ∧ h b' k < R1 17 29)) := by
        intro b' k j1 j2 j3 j4
        by_cases j5 : b' = b
        · subst j5
          by_cases j6 : k = R1 2109 b'
          · exact Or.inl ⟨rfl, j6, by rw [if_pos rfl, if_pos j6]⟩
          · exact Or.inr ⟨by omega, by rw [if_pos rfl, if_neg j6], (hold b' k j1 j2 j3 (by omega)).2⟩
        · rw [s1 b' j5] at j4
          exact Or.inr ⟨j4, by rw [if_neg j5], (hold b' k j1 j2 j3 j4).2⟩
      dsimp only at c9
      rcases val b1' k c1 c2 c5 c6 with ⟨i1, i2, i3⟩ | ⟨i1, i2, i3⟩
      · rcases val b2' k' c3 c4 c7 c8 with ⟨l1, l2, l3⟩ | ⟨l1, l2, l3⟩
        · omega
        · rw [i3, l2] at c9; omega
      · rcases val b2' k' c3 c4 c7 c8 with ⟨l1, l2, l3⟩ | ⟨l1, l2, l3⟩
        · rw [i2, l3] at c9; omega
        · rw [i2, l2] at c9
          exact h44 b1' b2' k k' c1 c2 c3 c4 c5 i1 c7 l1 c9
  · rw [oth5 _ _ (by unfold rtw; omega)]; exact y2
  · rw [oth5 _ _ (by unfold rtw; omega)]; exact y3
  · rw [oth5 _ _ (by unfold rtw; omega)]; exact y4
  · exact fun L i q => by
      have := cfr_of fC w0 (by omega) L i q
      rwa [am_up_or _ _ _ _ _ _ (by unfold FR at q; omega)] at this
