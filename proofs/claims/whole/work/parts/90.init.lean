/-! the two objects are made -/
theorem nz_50 (M : am_M) (hf : M (-1) 50 = 0) : am_newa 3 40 M 50 = some (am_alloc M 50) := am_newa_ok (by decide) (by decide +kernel) (by decide +kernel) (by decide +kernel) hf
theorem nz_51 (M : am_M) (hf : M (-1) 51 = 0) : am_newa 4 60 M 51 = some (am_alloc M 51) := am_newa_ok (by decide) (by decide +kernel) (by decide +kernel) (by decide +kernel) hf
theorem nz_52 (M : am_M) (hf : M (-1) 52 = 0) : am_newa 0 100 M 52 = some (am_alloc M 52) := am_newa_ok (by decide) (by decide +kernel) (by decide +kernel) (by decide +kernel) hf
theorem nz_53 (M : am_M) (hf : M (-1) 53 = 0) : am_newa 0 40 M 53 = some (am_alloc M 53) := am_newa_ok (by decide) (by decide +kernel) (by decide +kernel) (by decide +kernel) hf
theorem nz_54 (M : am_M) (hf : M (-1) 54 = 0) : am_newa 1 40 M 54 = some (am_alloc M 54) := am_newa_ok (by decide) (by decide +kernel) (by decide +kernel) (by decide +kernel) hf
theorem nz_310 (M : am_M) (hf : M (-1) 310 = 0) : am_newa 1 40 M 310 = some (am_alloc M 310) := am_newa_ok (by decide) (by decide +kernel) (by decide +kernel) (by decide +kernel) hf
theorem nz_309 (M : am_M) (hf : M (-1) 309 = 0) : am_newa 0 40 M 309 = some (am_alloc M 309) := am_newa_ok (by decide) (by decide +kernel) (by decide +kernel) (by decide +kernel) hf
theorem nz_565 (M : am_M) (hf : M (-1) 565 = 0) : am_newa 0 40 M 565 = some (am_alloc M 565) := am_newa_ok (by decide) (by decide +kernel) (by decide +kernel) (by decide +kernel) hf
theorem nz_63 (M : am_M) (hf : M (-1) 63 = 0) : am_newa 0 120 M 63 = some (am_alloc M 63) := am_newa_ok (by decide) (by decide +kernel) (by decide +kernel) (by decide +kernel) hf
theorem nz_62 (M : am_M) (hf : M (-1) 62 = 0) : am_newa 0 80 M 62 = some (am_alloc M 62) := am_newa_ok (by decide) (by decide +kernel) (by decide +kernel) (by decide +kernel) hf
theorem nz_821 (M : am_M) (hf : M (-1) 821 = 0) : am_newa 0 40 M 821 = some (am_alloc M 821) := am_newa_ok (by decide) (by decide +kernel) (by decide +kernel) (by decide +kernel) hf
theorem nz_68 (M : am_M) (hf : M (-1) 68 = 0) : am_newa 1 8000 M 68 = some (am_alloc M 68) := am_newa_ok (by decide) (by decide +kernel) (by decide +kernel) (by decide +kernel) hf
theorem nz_1077 (M : am_M) (hf : M (-1) 1077 = 0) : am_newa 0 40 M 1077 = some (am_alloc M 1077) := am_newa_ok (by decide) (by decide +kernel) (by decide +kernel) (by decide +kernel) hf
theorem nz_64 (M : am_M) (hf : M (-1) 64 = 0) : am_newa 0 480 M 64 = some (am_alloc M 64) := am_newa_ok (by decide) (by decide +kernel) (by decide +kernel) (by decide +kernel) hf
theorem nz_320 (M : am_M) (hf : M (-1) 320 = 0) : am_newa 0 480 M 320 = some (am_alloc M 320) := am_newa_ok (by decide) (by decide +kernel) (by decide +kernel) (by decide +kernel) hf
theorem nz_576 (M : am_M) (hf : M (-1) 576 = 0) : am_newa 0 480 M 576 = some (am_alloc M 576) := am_newa_ok (by decide) (by decide +kernel) (by decide +kernel) (by decide +kernel) hf
theorem nz_61 (M : am_M) (hf : M (-1) 61 = 0) : am_newa 0 60 M 61 = some (am_alloc M 61) := am_newa_ok (by decide) (by decide +kernel) (by decide +kernel) (by decide +kernel) hf
theorem nz_317 (M : am_M) (hf : M (-1) 317 = 0) : am_newa 0 60 M 317 = some (am_alloc M 317) := am_newa_ok (by decide) (by decide +kernel) (by decide +kernel) (by decide +kernel) hf
theorem nz_573 (M : am_M) (hf : M (-1) 573 = 0) : am_newa 0 60 M 573 = some (am_alloc M 573) := am_newa_ok (by decide) (by decide +kernel) (by decide +kernel) (by decide +kernel) hf
theorem nz_829 (M : am_M) (hf : M (-1) 829 = 0) : am_newa 0 60 M 829 = some (am_alloc M 829) := am_newa_ok (by decide) (by decide +kernel) (by decide +kernel) (by decide +kernel) hf
theorem nz_1085 (M : am_M) (hf : M (-1) 1085 = 0) : am_newa 0 60 M 1085 = some (am_alloc M 1085) := am_newa_ok (by decide) (by decide +kernel) (by decide +kernel) (by decide +kernel) hf
theorem nz_1341 (M : am_M) (hf : M (-1) 1341 = 0) : am_newa 0 60 M 1341 = some (am_alloc M 1341) := am_newa_ok (by decide) (by decide +kernel) (by decide +kernel) (by decide +kernel) hf
theorem nz_1597 (M : am_M) (hf : M (-1) 1597 = 0) : am_newa 0 60 M 1597 = some (am_alloc M 1597) := am_newa_ok (by decide) (by decide +kernel) (by decide +kernel) (by decide +kernel) hf
theorem nz_1853 (M : am_M) (hf : M (-1) 1853 = 0) : am_newa 0 60 M 1853 = some (am_alloc M 1853) := am_newa_ok (by decide) (by decide +kernel) (by decide +kernel) (by decide +kernel) hf
theorem nz_2109 (M : am_M) (hf : M (-1) 2109 = 0) : am_newa 0 60 M 2109 = some (am_alloc M 2109) := am_newa_ok (by decide) (by decide +kernel) (by decide +kernel) (by decide +kernel) hf
theorem nz_2365 (M : am_M) (hf : M (-1) 2365 = 0) : am_newa 0 60 M 2365 = some (am_alloc M 2365) := am_newa_ok (by decide) (by decide +kernel) (by decide +kernel) (by decide +kernel) hf
theorem nz_65 (M : am_M) (hf : M (-1) 65 = 0) : am_newa 1 60 M 65 = some (am_alloc M 65) := am_newa_ok (by decide) (by decide +kernel) (by decide +kernel) (by decide +kernel) hf
theorem nz_2621 (M : am_M) (hf : M (-1) 2621 = 0) : am_newa 0 60 M 2621 = some (am_alloc M 2621) := am_newa_ok (by decide) (by decide +kernel) (by decide +kernel) (by decide +kernel) hf
theorem nz_2877 (M : am_M) (hf : M (-1) 2877 = 0) : am_newa 0 60 M 2877 = some (am_alloc M 2877) := am_newa_ok (by decide) (by decide +kernel) (by decide +kernel) (by decide +kernel) hf
theorem nz_3133 (M : am_M) (hf : M (-1) 3133 = 0) : am_newa 0 60 M 3133 = some (am_alloc M 3133) := am_newa_ok (by decide) (by decide +kernel) (by decide +kernel) (by decide +kernel) hf
theorem nz_69 (M : am_M) (hf : M (-1) 69 = 0) : am_newa 1 44000 M 69 = some (am_alloc M 69) := am_newa_ok (by decide) (by decide +kernel) (by decide +kernel) (by decide +kernel) hf
theorem nz_70 (M : am_M) (hf : M (-1) 70 = 0) : am_newa 0 44000 M 70 = some (am_alloc M 70) := am_newa_ok (by decide) (by decide +kernel) (by decide +kernel) (by decide +kernel) hf
theorem nz_1333 (M : am_M) (hf : M (-1) 1333 = 0) : am_newa 0 40 M 1333 = some (am_alloc M 1333) := am_newa_ok (by decide) (by decide +kernel) (by decide +kernel) (by decide +kernel) hf
theorem nz_1589 (M : am_M) (hf : M (-1) 1589 = 0) : am_newa 0 40 M 1589 = some (am_alloc M 1589) := am_newa_ok (by decide) (by decide +kernel) (by decide +kernel) (by decide +kernel) hf
theorem nz_566 (M : am_M) (hf : M (-1) 566 = 0) : am_newa 1 40 M 566 = some (am_alloc M 566) := am_newa_ok (by decide) (by decide +kernel) (by decide +kernel) (by decide +kernel) hf
theorem nz_822 (M : am_M) (hf : M (-1) 822 = 0) : am_newa 1 40 M 822 = some (am_alloc M 822) := am_newa_ok (by decide) (by decide +kernel) (by decide +kernel) (by decide +kernel) hf
theorem nz_1845 (M : am_M) (hf : M (-1) 1845 = 0) : am_newa 0 40 M 1845 = some (am_alloc M 1845) := am_newa_ok (by decide) (by decide +kernel) (by decide +kernel) (by decide +kernel) hf
theorem nz_2101 (M : am_M) (hf : M (-1) 2101 = 0) : am_newa 0 40 M 2101 = some (am_alloc M 2101) := am_newa_ok (by decide) (by decide +kernel) (by decide +kernel) (by decide +kernel) hf
theorem nz_2357 (M : am_M) (hf : M (-1) 2357 = 0) : am_newa 0 40 M 2357 = some (am_alloc M 2357) := am_newa_ok (by decide) (by decide +kernel) (by decide +kernel) (by decide +kernel) hf
theorem nz_2613 (M : am_M) (hf : M (-1) 2613 = 0) : am_newa 0 40 M 2613 = some (am_alloc M 2613) := am_newa_ok (by decide) (by decide +kernel) (by decide +kernel) (by decide +kernel) hf
theorem nz_66 (M : am_M) (hf : M (-1) 66 = 0) : am_newa 1 160 M 66 = some (am_alloc M 66) := am_newa_ok (by decide) (by decide +kernel) (by decide +kernel) (by decide +kernel) hf
theorem nz_67 (M : am_M) (hf : M (-1) 67 = 0) : am_newa 1 1200 M 67 = some (am_alloc M 67) := am_newa_ok (by decide) (by decide +kernel) (by decide +kernel) (by decide +kernel) hf
theorem nz_2869 (M : am_M) (hf : M (-1) 2869 = 0) : am_newa 0 40 M 2869 = some (am_alloc M 2869) := am_newa_ok (by decide) (by decide +kernel) (by decide +kernel) (by decide +kernel) hf
theorem nz_3125 (M : am_M) (hf : M (-1) 3125 = 0) : am_newa 0 40 M 3125 = some (am_alloc M 3125) := am_newa_ok (by decide) (by decide +kernel) (by decide +kernel) (by decide +kernel) hf
theorem nz_308 (M : am_M) (hf : M (-1) 308 = 0) : am_newa 0 100 M 308 = some (am_alloc M 308) := am_newa_ok (by decide) (by decide +kernel) (by decide +kernel) (by decide +kernel) hf
theorem nz_71 (M : am_M) (hf : M (-1) 71 = 0) : am_newa 2 40 M 71 = some (am_alloc M 71) := am_newa_ok (by decide) (by decide +kernel) (by decide +kernel) (by decide +kernel) hf
theorem nz_1078 (M : am_M) (hf : M (-1) 1078 = 0) : am_newa 1 40 M 1078 = some (am_alloc M 1078) := am_newa_ok (by decide) (by decide +kernel) (by decide +kernel) (by decide +kernel) hf
theorem nz_1334 (M : am_M) (hf : M (-1) 1334 = 0) : am_newa 1 40 M 1334 = some (am_alloc M 1334) := am_newa_ok (by decide) (by decide +kernel) (by decide +kernel) (by decide +kernel) hf
theorem nz_3381 (M : am_M) (hf : M (-1) 3381 = 0) : am_newa 0 40 M 3381 = some (am_alloc M 3381) := am_newa_ok (by decide) (by decide +kernel) (by decide +kernel) (by decide +kernel) hf
theorem nz_1590 (M : am_M) (hf : M (-1) 1590 = 0) : am_newa 1 40 M 1590 = some (am_alloc M 1590) := am_newa_ok (by decide) (by decide +kernel) (by decide +kernel) (by decide +kernel) hf
theorem nz_12 (M : am_M) (hf : M (-1) 12 = 0) : am_newo 2 M 12 = some (am_alloc M 12) := am_newo_ok (by decide) (by decide +kernel) (by decide +kernel) hf
theorem nz_16 (M : am_M) (hf : M (-1) 16 = 0) : am_newo 6 M 16 = some (am_alloc M 16) := am_newo_ok (by decide) (by decide +kernel) (by decide +kernel) hf
theorem nz_17 (M : am_M) (hf : M (-1) 17 = 0) : am_newo 7 M 17 = some (am_alloc M 17) := am_newo_ok (by decide) (by decide +kernel) (by decide +kernel) hf
def is6 (L : Int) : Prop := L = 50 ∨ L = 51 ∨ L = 52 ∨ L = 53 ∨ L = 54 ∨ L = 310 ∨ L = 12
theorem x6_init {M : am_M} (hf : ∀ L, is6 L → M (-1) L = 0) : ∃ M', am_evm am_PP nX6_init [(2, 16)] M = some (0, M') ∧ (M' 16 0 = 50 ∧ M' 16 1 = 51 ∧ M' 16 2 = 52 ∧ M' 16 3 = 12 ∧ M' 12 0 = 53 ∧ M' 12 1 = 54 ∧ M' 12 2 = 310) ∧ (∀ i, 4 ≤ i → M' 16 i = M 16 i) ∧ (∀ i, M' 50 i = 0) ∧ (∀ i, M' 51 i = 0) ∧ (∀ L i, 0 ≤ L → ¬ is6 L → L ≠ 16 → M' L i = M L i) ∧ (∀ L, ¬ is6 L → M' (-1) L = M (-1) L) := by
  have f50 := hf 50 (by unfold is6; omega)
  have f51 := hf 51 (by unfold is6; omega)
  have f52 := hf 52 (by unfold is6; omega)
  have f53 := hf 53 (by unfold is6; omega)
  have f54 := hf 54 (by unfold is6; omega)
  have f310 := hf 310 (by unfold is6; omega)
  have f12 := hf 12 (by unfold is6; omega)
  simp (disch := first | omega | (simp (disch := omega) only [am_up_nl, am_alloc_mn, f50, f51, f52, f53, f54, f310, f12])) only [be_X6_init_m, be_X6_init_0, be_X2_init_m, be_X2_init_0, Option.bind_some, cond_true, cond_false, decide_true, decide_false, Bool.not_true, Bool.not_false, ite_true, ite_false, and_self, true_and, and_true, or_self, true_or, or_true, false_or, or_false, decide_eq_true_eq, Int.reduceAdd, Int.reduceSub, Int.reduceMul, Int.reduceNeg, Int.reduceEq, Int.reduceLT, Int.reduceLE, Int.reduceNe, lcmp_z, lcmp_le, lcmp_ge, lcmp_lt, lcmp_gt, if_neg, pf_16, pf_12, nz_50, nz_51, nz_52, nz_53, nz_54, nz_310, nz_12]
  refine ⟨_, rfl, ⟨?_, ?_, ?_, ?_, ?_, ?_, ?_⟩, fun i q => ?_, fun i => ?_, fun i => ?_, fun L i p q r => ?_, fun L q => ?_⟩
  · simp (disch := omega) only [am_up_eq, am_up_nl, am_up_ni, am_alloc_nl, am_alloc_z]
  · simp (disch := omega) only [am_up_eq, am_up_nl, am_up_ni, am_alloc_nl, am_alloc_z]
  · simp (disch := omega) only [am_up_eq, am_up_nl, am_up_ni, am_alloc_nl, am_alloc_z]
  · simp (disch := omega) only [am_up_eq, am_up_nl, am_up_ni, am_alloc_nl, am_alloc_z]
  · simp (disch := omega) only [am_up_eq, am_up_nl, am_up_ni, am_alloc_nl, am_alloc_z]
  · simp (disch := omega) only [am_up_eq, am_up_nl, am_up_ni, am_alloc_nl, am_alloc_z]
  · simp (disch := omega) only [am_up_eq, am_up_nl, am_up_ni, am_alloc_nl, am_alloc_z]
  · simp (disch := omega) only [am_up_eq, am_up_nl, am_up_ni, am_alloc_nl, am_alloc_z]
  · simp (disch := omega) only [am_up_eq, am_up_nl, am_up_ni, am_alloc_nl, am_alloc_z]
  · simp (disch := omega) only [am_up_eq, am_up_nl, am_up_ni, am_alloc_nl, am_alloc_z]
  · unfold is6 at q
    simp (disch := omega) only [am_up_or, am_alloc_nl]
  · unfold is6 at q
    simp (disch := omega) only [am_up_nl, am_alloc_mn]
def l7 : List Int := [309, 565, 63, 62, 821, 68, 1077, 64, 320, 576, 61, 317, 573, 829, 1085, 1341, 1597, 1853, 2109, 2365, 65, 2621, 2877, 3133, 69, 70, 1333, 1589, 566, 822, 1845, 2101, 2357, 2613, 66, 67, 2869, 3125, 308, 71, 1078, 1334, 3381, 1590]
def N7 (M : am_M) : am_M := am_up (am_alloc (am_up (am_alloc (am_up (am_alloc (am_up (am_alloc (am_up (am_alloc (am_up (am_alloc (am_up (am_alloc (am_up (am_alloc (am_up (am_alloc (am_up (am_alloc (am_up (am_alloc (am_up (am_alloc (am_up (am_alloc (am_up (am_alloc (am_up (am_alloc (am_up (am_alloc (am_up (am_alloc (am_up (am_alloc (am_up (am_alloc (am_up (am_alloc (am_up (am_alloc (am_up (am_alloc (am_up (am_alloc (am_up (am_alloc (am_up (am_alloc (am_up (am_alloc (am_up (am_alloc (am_up (am_alloc (am_up (am_alloc (am_up (am_alloc (am_up (am_alloc (am_up (am_alloc (am_up (am_alloc (am_up (am_alloc (am_up (am_alloc (am_up (am_alloc (am_up (am_alloc (am_up (am_alloc (am_up (am_alloc (am_up (am_alloc (am_up (am_alloc (am_up (am_alloc (am_up (am_alloc (am_up (am_alloc (M) 309) 17 1 309) 565) 17 2 565) 63) 17 3 63) 62) 17 4 62) 821) 17 5 821) 68) 17 6 68) 1077) 17 7 1077) 64) 17 8 64) 320) 17 9 320) 576) 17 10 576) 61) 17 12 61) 317) 17 13 317) 573) 17 14 573) 829) 17 15 829) 1085) 17 16 1085) 1341) 17 18 1341) 1597) 17 19 1597) 1853) 17 20 1853) 2109) 17 21 2109) 2365) 17 22 2365) 65) 17 23 65) 2621) 17 24 2621) 2877) 17 25 2877) 3133) 17 26 3133) 69) 17 27 69) 70) 17 28 70) 1333) 17 30 1333) 1589) 17 31 1589) 566) 17 32 566) 822) 17 33 822) 1845) 17 34 1845) 2101) 17 35 2101) 2357) 17 36 2357) 2613) 17 37 2613) 66) 17 38 66) 67) 17 39 67) 2869) 17 40 2869) 3125) 17 41 3125) 308) 17 44 308) 71) 17 49 71) 1078) 17 50 1078) 1334) 17 51 1334) 3381) 17 52 3381) 1590) 17 54 1590
set_option maxHeartbeats 8000000 in
set_option maxRecDepth 4000 in
theorem x7_ev {M : am_M} (hf : ∀ L, L ∈ l7 → M (-1) L = 0) : am_evm am_PP nX7_init [(2, 17)] M = some (0, N7 M) := by
  have f309 := hf 309 (by decide)
  have f565 := hf 565 (by decide)
  have f63 := hf 63 (by decide)
  have f62 := hf 62 (by decide)
  have f821 := hf 821 (by decide)
  have f68 := hf 68 (by decide)
  have f1077 := hf 1077 (by decide)
  have f64 := hf 64 (by decide)
  have f320 := hf 320 (by decide)
  have f576 := hf 576 (by decide)
  have f61 := hf 61 (by decide)
  have f317 := hf 317 (by decide)
  have f573 := hf 573 (by decide)
  have f829 := hf 829 (by decide)
  have f1085 := hf 1085 (by decide)
  have f1341 := hf 1341 (by decide)
  have f1597 := hf 1597 (by decide)
  have f1853 := hf 1853 (by decide)
  have f2109 := hf 2109 (by decide)
  have f2365 := hf 2365 (by decide)
  have f65 := hf 65 (by decide)
  have f2621 := hf 2621 (by decide)
  have f2877 := hf 2877 (by decide)
  have f3133 := hf 3133 (by decide)
  have f69 := hf 69 (by decide)
  have f70 := hf 70 (by decide)
  have f1333 := hf 1333 (by decide)
  have f1589 := hf 1589 (by decide)
  have f566 := hf 566 (by decide)
  have f822 := hf 822 (by decide)
  have f1845 := hf 1845 (by decide)
  have f2101 := hf 2101 (by decide)
  have f2357 := hf 2357 (by decide)
  have f2613 := hf 2613 (by decide)
  have f66 := hf 66 (by decide)
  have f67 := hf 67 (by decide)
  have f2869 := hf 2869 (by decide)
  have f3125 := hf 3125 (by decide)
  have f308 := hf 308 (by decide)
  have f71 := hf 71 (by decide)
  have f1078 := hf 1078 (by decide)
  have f1334 := hf 1334 (by decide)
  have f3381 := hf 3381 (by decide)
  have f1590 := hf 1590 (by decide)
  clear hf
  unfold N7
  rw [be_X7_init_m, be_X7_init_0, if_neg (by decide), nz_309, Option.bind_some, pf_17, Option.bind_some, nz_565, Option.bind_some, pf_17, Option.bind_some, nz_63, Option.bind_some, pf_17, Option.bind_some, nz_62, Option.bind_some, pf_17, Option.bind_some, nz_821, Option.bind_some, pf_17, Option.bind_some, nz_68, Option.bind_some, pf_17, Option.bind_some, nz_1077, Option.bind_some, pf_17, Option.bind_some, nz_64, Option.bind_some, pf_17, Option.bind_some, nz_320, Option.bind_some, pf_17, Option.bind_some, nz_576, Option.bind_some, pf_17, Option.bind_some, nz_61, Option.bind_some, pf_17, Option.bind_some, nz_317, Option.bind_some, pf_17, Option.bind_some, nz_573, Option.bind_some, pf_17, Option.bind_some, nz_829, Option.bind_some, pf_17, Option.bind_some, nz_1085, Option.bind_some, pf_17, Option.bind_some, nz_1341, Option.bind_some, pf_17, Option.bind_some, nz_1597, Option.bind_some, pf_17, Option.bind_some, nz_1853, Option.bind_some, pf_17, Option.bind_some, nz_2109, Option.bind_some, pf_17, Option.bind_some, nz_2365, Option.bind_some, pf_17, Option.bind_some, nz_65, Option.bind_some, pf_17, Option.bind_some, nz_2621, Option.bind_some, pf_17, Option.bind_some, nz_2877, Option.bind_some, pf_17, Option.bind_some, nz_3133, Option.bind_some, pf_17, Option.bind_some, nz_69, Option.bind_some, pf_17, Option.bind_some, nz_70, Option.bind_some, pf_17, Option.bind_some, nz_1333, Option.bind_some, pf_17, Option.bind_some, nz_1589, Option.bind_some, pf_17, Option.bind_some, nz_566, Option.bind_some, pf_17, Option.bind_some, nz_822, Option.bind_some, pf_17, Option.bind_some, nz_1845, Option.bind_some, pf_17, Option.bind_some, nz_2101, Option.bind_some, pf_17, Option.bind_some, nz_2357, Option.bind_some, pf_17, Option.bind_some, nz_2613, Option.bind_some, pf_17, Option.bind_some, nz_66, Option.bind_some, pf_17, Option.bind_some, nz_67, Option.bind_some, pf_17, Option.bind_some, nz_2869, Option.bind_some, pf_17, Option.bind_some, nz_3125, Option.bind_some, pf_17, Option.bind_some, nz_308, Option.bind_some, pf_17, Option.bind_some, nz_71, Option.bind_some, pf_17, Option.bind_some, nz_1078, Option.bind_some, pf_17, Option.bind_some, nz_1334, Option.bind_some, pf_17, Option.bind_some, nz_3381, Option.bind_some, pf_17, Option.bind_some, nz_1590, Option.bind_some, pf_17, Option.bind_some]
  all_goals (simp (disch := decide) only [am_up_nl, am_alloc_mn, f309, f565, f63, f62, f821, f68, f1077, f64, f320, f576, f61, f317, f573, f829, f1085, f1341, f1597, f1853, f2109, f2365, f65, f2621, f2877, f3133, f69, f70, f1333, f1589, f566, f822, f1845, f2101, f2357, f2613, f66, f67, f2869, f3125, f308, f71, f1078, f1334, f3381, f1590])
set_option maxHeartbeats 8000000 in
set_option maxRecDepth 4000 in
theorem x7_rs (M : am_M) : rs (N7 M) := by
  unfold rs N7
  simp (disch := decide) only [am_up_eq, am_up_nl, am_up_ni, am_alloc_nl, am_alloc_z, and_self]
set_option maxHeartbeats 8000000 in
set_option maxRecDepth 4000 in
theorem x7_init {M : am_M} (hf : ∀ L, L ∈ l7 → M (-1) L = 0) : ∃ M', am_evm am_PP nX7_init [(2, 17)] M = some (0, M') ∧ rs M' ∧ (∀ i, i = 0 ∨ i = 11 ∨ i = 17 → M' 17 i = M 17 i) ∧ (∀ L i, ¬ FR L → L ≠ -1 → L ≠ -2 → M' L i = M L i) ∧ (∀ L, L ∉ l7 → M' (-1) L = M (-1) L) := by
  refine ⟨N7 M, x7_ev hf, x7_rs M, fun i q => ?_, fun L i p q r => ?_, fun L q => ?_⟩
  · unfold N7
    rcases q with q | q | q <;> subst q <;> simp (disch := decide) only [am_up_eq, am_up_nl, am_up_ni, am_alloc_nl, am_alloc_z]
  · unfold FR at p
    unfold N7
    simp (disch := omega) only [am_up_nl, am_alloc_nl]
  · have q : ∀ X, X ∈ l7 → L ≠ X := fun X hx e => q (e ▸ hx)
    unfold l7 at q
    simp only [List.forall_mem_cons, List.not_mem_nil, false_implies, implies_true, and_true] at q
    unfold N7
    simp (disch := omega) only [am_up_nl, am_alloc_mn]
