/-! reads and writes at known labels, as rules for simp -/
theorem am_up_eq (M : am_M) (L i v : Int) : am_up M L i v L i = v := if_pos ⟨rfl, rfl⟩
theorem am_up_nl (M : am_M) (L i v L' i' : Int) (h : L' ≠ L) : am_up M L i v L' i' = M L' i' := if_neg fun q => h q.1
theorem am_up_ni (M : am_M) (L i v L' i' : Int) (h : i' ≠ i) : am_up M L i v L' i' = M L' i' := if_neg fun q => h q.2
theorem am_up_at (M : am_M) (L i v L' i' : Int) (h : L' = L) (h2 : i' = i) : am_up M L i v L' i' = v := if_pos ⟨h, h2⟩
theorem am_alloc_nl (M : am_M) (L L' i : Int) (h1 : L' ≠ -1) (h2 : L' ≠ -2) (h3 : L' ≠ L) : am_alloc M L L' i = M L' i := by
  unfold am_alloc; rw [if_neg h1, if_neg h2, if_neg h3]
theorem am_alloc_z (M : am_M) (L i : Int) (h : 0 < L) : am_alloc M L L i = 0 := by
  unfold am_alloc; rw [if_neg (by omega), if_neg (by omega), if_pos rfl]
theorem am_alloc_m (M : am_M) (L : Int) : am_alloc M L (-1) L = 1 := by
  unfold am_alloc; rw [if_pos rfl, if_pos rfl]
theorem am_alloc_mn (M : am_M) (L L' : Int) (h : L' ≠ L) : am_alloc M L (-1) L' = M (-1) L' := by
  unfold am_alloc; rw [if_pos rfl, if_neg h]
theorem am_vok0 (v : Int) : am_vok 0 v := ⟨Or.inl (by decide), Or.inl (by decide), Or.inl (by decide)⟩
theorem am_vok1 (v : Int) : am_vok 1 v := ⟨Or.inl (by decide), Or.inl (by decide), Or.inl (by decide)⟩
theorem cls_10 (w : Int) : am_cls (10 + 256 * w) = 0 := (am_cls_add 10 w).trans (by decide +kernel)
theorem pos_10 (w : Int) (h : 0 ≤ w) : (0 < 10 + 256 * w) = True := eq_true (by omega)
theorem gf_10 (k w : Int) (M : am_M) (h : 0 ≤ w) : am_gf 0 k M (10 + 256 * w) = some (M (10 + 256 * w) k) := am_gf_ok (by omega) (cls_10 w)
theorem pf_10 (k w v : Int) (M : am_M) (h : 0 ≤ w) : am_pf 0 k 0 M (10 + 256 * w) v = some (am_up M (10 + 256 * w) k v) := am_pf_ok (by omega) (cls_10 w) (Or.inl (by decide))
theorem cls_11 (w : Int) : am_cls (11 + 256 * w) = 1 := (am_cls_add 11 w).trans (by decide +kernel)
theorem pos_11 (w : Int) (h : 0 ≤ w) : (0 < 11 + 256 * w) = True := eq_true (by omega)
theorem gf_11 (k w : Int) (M : am_M) (h : 0 ≤ w) : am_gf 1 k M (11 + 256 * w) = some (M (11 + 256 * w) k) := am_gf_ok (by omega) (cls_11 w)
theorem pf_11 (k w v : Int) (M : am_M) (h : 0 ≤ w) : am_pf 1 k 0 M (11 + 256 * w) v = some (am_up M (11 + 256 * w) k v) := am_pf_ok (by omega) (cls_11 w) (Or.inl (by decide))
theorem cls_20 (w : Int) : am_cls (20 + 256 * w) = 3 := (am_cls_add 20 w).trans (by decide +kernel)
theorem pos_20 (w : Int) (h : 0 ≤ w) : (0 < 20 + 256 * w) = True := eq_true (by omega)
theorem gf_20 (k w : Int) (M : am_M) (h : 0 ≤ w) : am_gf 3 k M (20 + 256 * w) = some (M (20 + 256 * w) k) := am_gf_ok (by omega) (cls_20 w)
theorem pf_20 (k w v : Int) (M : am_M) (h : 0 ≤ w) : am_pf 3 k 0 M (20 + 256 * w) v = some (am_up M (20 + 256 * w) k v) := am_pf_ok (by omega) (cls_20 w) (Or.inl (by decide))
theorem cls_30 (w : Int) : am_cls (30 + 256 * w) = 3 := (am_cls_add 30 w).trans (by decide +kernel)
theorem pos_30 (w : Int) (h : 0 ≤ w) : (0 < 30 + 256 * w) = True := eq_true (by omega)
theorem gf_30 (k w : Int) (M : am_M) (h : 0 ≤ w) : am_gf 3 k M (30 + 256 * w) = some (M (30 + 256 * w) k) := am_gf_ok (by omega) (cls_30 w)
theorem pf_30 (k w v : Int) (M : am_M) (h : 0 ≤ w) : am_pf 3 k 0 M (30 + 256 * w) v = some (am_up M (30 + 256 * w) k v) := am_pf_ok (by omega) (cls_30 w) (Or.inl (by decide))
theorem cls_14 (w : Int) : am_cls (14 + 256 * w) = 4 := (am_cls_add 14 w).trans (by decide +kernel)
theorem pos_14 (w : Int) (h : 0 ≤ w) : (0 < 14 + 256 * w) = True := eq_true (by omega)
theorem gf_14 (k w : Int) (M : am_M) (h : 0 ≤ w) : am_gf 4 k M (14 + 256 * w) = some (M (14 + 256 * w) k) := am_gf_ok (by omega) (cls_14 w)
theorem pf_14 (k w v : Int) (M : am_M) (h : 0 ≤ w) : am_pf 4 k 0 M (14 + 256 * w) v = some (am_up M (14 + 256 * w) k v) := am_pf_ok (by omega) (cls_14 w) (Or.inl (by decide))
theorem cls_15 (w : Int) : am_cls (15 + 256 * w) = 5 := (am_cls_add 15 w).trans (by decide +kernel)
theorem pos_15 (w : Int) (h : 0 ≤ w) : (0 < 15 + 256 * w) = True := eq_true (by omega)
theorem gf_15 (k w : Int) (M : am_M) (h : 0 ≤ w) : am_gf 5 k M (15 + 256 * w) = some (M (15 + 256 * w) k) := am_gf_ok (by omega) (cls_15 w)
theorem pf_15 (k w v : Int) (M : am_M) (h : 0 ≤ w) : am_pf 5 k 0 M (15 + 256 * w) v = some (am_up M (15 + 256 * w) k v) := am_pf_ok (by omega) (cls_15 w) (Or.inl (by decide))
theorem cls_12 : am_cls 12 = 2 := by decide +kernel
theorem gf_12 (k : Int) (M : am_M) : am_gf 2 k M 12 = some (M 12 k) := am_gf_ok (by decide) cls_12
theorem pf_12 (k v : Int) (M : am_M) : am_pf 2 k 0 M 12 v = some (am_up M 12 k v) := am_pf_ok (by decide) cls_12 (Or.inl (by decide))
theorem pb0_12 (k : Int) (M : am_M) : am_pf 2 k 4 M 12 0 = some (am_up M 12 k 0) := am_pf_ok (by decide) cls_12 (Or.inr (Or.inl rfl))
theorem pb1_12 (k : Int) (M : am_M) : am_pf 2 k 4 M 12 1 = some (am_up M 12 k 1) := am_pf_ok (by decide) cls_12 (Or.inr (Or.inr rfl))
theorem pb_12 (k v : Int) (M : am_M) (h : v = 0 ∨ v = 1) : am_pf 2 k 4 M 12 v = some (am_up M 12 k v) := am_pf_ok (by decide) cls_12 (Or.inr h)
theorem cls_16 : am_cls 16 = 6 := by decide +kernel
theorem gf_16 (k : Int) (M : am_M) : am_gf 6 k M 16 = some (M 16 k) := am_gf_ok (by decide) cls_16
theorem pf_16 (k v : Int) (M : am_M) : am_pf 6 k 0 M 16 v = some (am_up M 16 k v) := am_pf_ok (by decide) cls_16 (Or.inl (by decide))
theorem pb0_16 (k : Int) (M : am_M) : am_pf 6 k 4 M 16 0 = some (am_up M 16 k 0) := am_pf_ok (by decide) cls_16 (Or.inr (Or.inl rfl))
theorem pb1_16 (k : Int) (M : am_M) : am_pf 6 k 4 M 16 1 = some (am_up M 16 k 1) := am_pf_ok (by decide) cls_16 (Or.inr (Or.inr rfl))
theorem pb_16 (k v : Int) (M : am_M) (h : v = 0 ∨ v = 1) : am_pf 6 k 4 M 16 v = some (am_up M 16 k v) := am_pf_ok (by decide) cls_16 (Or.inr h)
theorem cls_17 : am_cls 17 = 7 := by decide +kernel
theorem gf_17 (k : Int) (M : am_M) : am_gf 7 k M 17 = some (M 17 k) := am_gf_ok (by decide) cls_17
theorem pf_17 (k v : Int) (M : am_M) : am_pf 7 k 0 M 17 v = some (am_up M 17 k v) := am_pf_ok (by decide) cls_17 (Or.inl (by decide))
theorem pb0_17 (k : Int) (M : am_M) : am_pf 7 k 4 M 17 0 = some (am_up M 17 k 0) := am_pf_ok (by decide) cls_17 (Or.inr (Or.inl rfl))
theorem pb1_17 (k : Int) (M : am_M) : am_pf 7 k 4 M 17 1 = some (am_up M 17 k 1) := am_pf_ok (by decide) cls_17 (Or.inr (Or.inr rfl))
theorem pb_17 (k v : Int) (M : am_M) (h : v = 0 ∨ v = 1) : am_pf 7 k 4 M 17 v = some (am_up M 17 k v) := am_pf_ok (by decide) cls_17 (Or.inr h)
theorem aty_55 (w : Int) : am_aty (55 + 256 * w) = 4 := (am_aty_add 55 w).trans (by decide +kernel)
theorem siz_55 (w : Int) : am_siz (55 + 256 * w) = 3 := (am_siz_add 55 w).trans (by decide +kernel)
theorem ra_55 (w i : Int) (M : am_M) (h : 0 ≤ w) (h1 : 0 ≤ i) (h2 : i < 3) : am_ald 4 M (55 + 256 * w) i = some (M (55 + 256 * w) i) := am_ald_ok (n := 3) (by omega) (by omega) (aty_55 w) (siz_55 w) h1 (by omega)
theorem al_55 (w : Int) (M : am_M) (h : 0 ≤ w) : am_alen M (55 + 256 * w) = some 3 := am_alen_ok (n := 3) (by omega) (by omega) (by rw [aty_55]; decide) (siz_55 w)
theorem sa0_55 (w i : Int) (M : am_M) (h : 0 ≤ w) (h1 : 0 ≤ i) (h2 : i < 3) : am_ast 4 M (55 + 256 * w) i 0 = some (am_up M (55 + 256 * w) i 0) := am_ast_ok (n := 3) (by omega) (by omega) (aty_55 w) (siz_55 w) h1 (by omega) (by decide)
theorem sa_55 (w i b : Int) (M : am_M) (h : 0 ≤ w) (h1 : 0 ≤ i) (h2 : i < 3) (hb : 0 ≤ b) : am_ast 4 M (55 + 256 * w) i (10 + 256 * b) = some (am_up M (55 + 256 * w) i (10 + 256 * b)) := am_ast_ok (n := 3) (by omega) (by omega) (aty_55 w) (siz_55 w) h1 (by omega) ⟨Or.inl (by decide), Or.inl (by decide), Or.inr (Or.inr ⟨by omega, cls_10 b⟩)⟩
theorem aty_56 (w : Int) : am_aty (56 + 256 * w) = 4 := (am_aty_add 56 w).trans (by decide +kernel)
theorem siz_56 (w : Int) : am_siz (56 + 256 * w) = 2 := (am_siz_add 56 w).trans (by decide +kernel)
theorem ra_56 (w i : Int) (M : am_M) (h : 0 ≤ w) (h1 : 0 ≤ i) (h2 : i < 2) : am_ald 4 M (56 + 256 * w) i = some (M (56 + 256 * w) i) := am_ald_ok (n := 2) (by omega) (by omega) (aty_56 w) (siz_56 w) h1 (by omega)
theorem al_56 (w : Int) (M : am_M) (h : 0 ≤ w) : am_alen M (56 + 256 * w) = some 2 := am_alen_ok (n := 2) (by omega) (by omega) (by rw [aty_56]; decide) (siz_56 w)
theorem sa0_56 (w i : Int) (M : am_M) (h : 0 ≤ w) (h1 : 0 ≤ i) (h2 : i < 2) : am_ast 4 M (56 + 256 * w) i 0 = some (am_up M (56 + 256 * w) i 0) := am_ast_ok (n := 2) (by omega) (by omega) (aty_56 w) (siz_56 w) h1 (by omega) (by decide)
theorem sa_56 (w i b : Int) (M : am_M) (h : 0 ≤ w) (h1 : 0 ≤ i) (h2 : i < 2) (hb : 0 ≤ b) : am_ast 4 M (56 + 256 * w) i (10 + 256 * b) = some (am_up M (56 + 256 * w) i (10 + 256 * b)) := am_ast_ok (n := 2) (by omega) (by omega) (aty_56 w) (siz_56 w) h1 (by omega) ⟨Or.inl (by decide), Or.inl (by decide), Or.inr (Or.inr ⟨by omega, cls_10 b⟩)⟩
theorem aty_57 (w : Int) : am_aty (57 + 256 * w) = 1 := (am_aty_add 57 w).trans (by decide +kernel)
theorem siz_57 (w : Int) : am_siz (57 + 256 * w) = 30 := (am_siz_add 57 w).trans (by decide +kernel)
theorem ra_57 (w i : Int) (M : am_M) (h : 0 ≤ w) (h1 : 0 ≤ i) (h2 : i < 30) : am_ald 1 M (57 + 256 * w) i = some (M (57 + 256 * w) i) := am_ald_ok (n := 30) (by omega) (by omega) (aty_57 w) (siz_57 w) h1 (by omega)
theorem al_57 (w : Int) (M : am_M) (h : 0 ≤ w) : am_alen M (57 + 256 * w) = some 30 := am_alen_ok (n := 30) (by omega) (by omega) (by rw [aty_57]; decide) (siz_57 w)
theorem sa_57 (w i v : Int) (M : am_M) (h : 0 ≤ w) (h1 : 0 ≤ i) (h2 : i < 30) : am_ast 1 M (57 + 256 * w) i v = some (am_up M (57 + 256 * w) i v) := am_ast_ok (n := 30) (by omega) (by omega) (aty_57 w) (siz_57 w) h1 (by omega) (am_vok1 v)
theorem aty_58 (w : Int) : am_aty (58 + 256 * w) = 2 := (am_aty_add 58 w).trans (by decide +kernel)
theorem siz_58 (w : Int) : am_siz (58 + 256 * w) = 2 := (am_siz_add 58 w).trans (by decide +kernel)
theorem ra_58 (w i : Int) (M : am_M) (h : 0 ≤ w) (h1 : 0 ≤ i) (h2 : i < 2) : am_ald 2 M (58 + 256 * w) i = some (M (58 + 256 * w) i) := am_ald_ok (n := 2) (by omega) (by omega) (aty_58 w) (siz_58 w) h1 (by omega)
theorem al_58 (w : Int) (M : am_M) (h : 0 ≤ w) : am_alen M (58 + 256 * w) = some 2 := am_alen_ok (n := 2) (by omega) (by omega) (by rw [aty_58]; decide) (siz_58 w)
theorem sa0_58 (w i : Int) (M : am_M) (h : 0 ≤ w) (h1 : 0 ≤ i) (h2 : i < 2) : am_ast 2 M (58 + 256 * w) i 0 = some (am_up M (58 + 256 * w) i 0) := am_ast_ok (n := 2) (by omega) (by omega) (aty_58 w) (siz_58 w) h1 (by omega) (by decide)
theorem sa1_58 (w i : Int) (M : am_M) (h : 0 ≤ w) (h1 : 0 ≤ i) (h2 : i < 2) : am_ast 2 M (58 + 256 * w) i 1 = some (am_up M (58 + 256 * w) i 1) := am_ast_ok (n := 2) (by omega) (by omega) (aty_58 w) (siz_58 w) h1 (by omega) (by decide)
theorem aty_72 (w : Int) : am_aty (72 + 256 * w) = 2 := (am_aty_add 72 w).trans (by decide +kernel)
theorem siz_72 (w : Int) : am_siz (72 + 256 * w) = 2 := (am_siz_add 72 w).trans (by decide +kernel)
theorem ra_72 (w i : Int) (M : am_M) (h : 0 ≤ w) (h1 : 0 ≤ i) (h2 : i < 2) : am_ald 2 M (72 + 256 * w) i = some (M (72 + 256 * w) i) := am_ald_ok (n := 2) (by omega) (by omega) (aty_72 w) (siz_72 w) h1 (by omega)
theorem al_72 (w : Int) (M : am_M) (h : 0 ≤ w) : am_alen M (72 + 256 * w) = some 2 := am_alen_ok (n := 2) (by omega) (by omega) (by rw [aty_72]; decide) (siz_72 w)
theorem sa0_72 (w i : Int) (M : am_M) (h : 0 ≤ w) (h1 : 0 ≤ i) (h2 : i < 2) : am_ast 2 M (72 + 256 * w) i 0 = some (am_up M (72 + 256 * w) i 0) := am_ast_ok (n := 2) (by omega) (by omega) (aty_72 w) (siz_72 w) h1 (by omega) (by decide)
theorem sa1_72 (w i : Int) (M : am_M) (h : 0 ≤ w) (h1 : 0 ≤ i) (h2 : i < 2) : am_ast 2 M (72 + 256 * w) i 1 = some (am_up M (72 + 256 * w) i 1) := am_ast_ok (n := 2) (by omega) (by omega) (aty_72 w) (siz_72 w) h1 (by omega) (by decide)
theorem aty_59 (w : Int) : am_aty (59 + 256 * w) = 0 := (am_aty_add 59 w).trans (by decide +kernel)
theorem siz_59 (w : Int) : am_siz (59 + 256 * w) = 12 := (am_siz_add 59 w).trans (by decide +kernel)
theorem ra_59 (w i : Int) (M : am_M) (h : 0 ≤ w) (h1 : 0 ≤ i) (h2 : i < 12) : am_ald 0 M (59 + 256 * w) i = some (M (59 + 256 * w) i) := am_ald_ok (n := 12) (by omega) (by omega) (aty_59 w) (siz_59 w) h1 (by omega)
theorem al_59 (w : Int) (M : am_M) (h : 0 ≤ w) : am_alen M (59 + 256 * w) = some 12 := am_alen_ok (n := 12) (by omega) (by omega) (by rw [aty_59]; decide) (siz_59 w)
theorem sa_59 (w i v : Int) (M : am_M) (h : 0 ≤ w) (h1 : 0 ≤ i) (h2 : i < 12) : am_ast 0 M (59 + 256 * w) i v = some (am_up M (59 + 256 * w) i v) := am_ast_ok (n := 12) (by omega) (by omega) (aty_59 w) (siz_59 w) h1 (by omega) (am_vok0 v)
theorem aty_73 (w : Int) : am_aty (73 + 256 * w) = 0 := (am_aty_add 73 w).trans (by decide +kernel)
theorem siz_73 (w : Int) : am_siz (73 + 256 * w) = 12 := (am_siz_add 73 w).trans (by decide +kernel)
theorem ra_73 (w i : Int) (M : am_M) (h : 0 ≤ w) (h1 : 0 ≤ i) (h2 : i < 12) : am_ald 0 M (73 + 256 * w) i = some (M (73 + 256 * w) i) := am_ald_ok (n := 12) (by omega) (by omega) (aty_73 w) (siz_73 w) h1 (by omega)
theorem al_73 (w : Int) (M : am_M) (h : 0 ≤ w) : am_alen M (73 + 256 * w) = some 12 := am_alen_ok (n := 12) (by omega) (by omega) (by rw [aty_73]; decide) (siz_73 w)
theorem sa_73 (w i v : Int) (M : am_M) (h : 0 ≤ w) (h1 : 0 ≤ i) (h2 : i < 12) : am_ast 0 M (73 + 256 * w) i v = some (am_up M (73 + 256 * w) i v) := am_ast_ok (n := 12) (by omega) (by omega) (aty_73 w) (siz_73 w) h1 (by omega) (am_vok0 v)
theorem aty_74 (w : Int) : am_aty (74 + 256 * w) = 0 := (am_aty_add 74 w).trans (by decide +kernel)
theorem siz_74 (w : Int) : am_siz (74 + 256 * w) = 12 := (am_siz_add 74 w).trans (by decide +kernel)
theorem ra_74 (w i : Int) (M : am_M) (h : 0 ≤ w) (h1 : 0 ≤ i) (h2 : i < 12) : am_ald 0 M (74 + 256 * w) i = some (M (74 + 256 * w) i) := am_ald_ok (n := 12) (by omega) (by omega) (aty_74 w) (siz_74 w) h1 (by omega)
theorem al_74 (w : Int) (M : am_M) (h : 0 ≤ w) : am_alen M (74 + 256 * w) = some 12 := am_alen_ok (n := 12) (by omega) (by omega) (by rw [aty_74]; decide) (siz_74 w)
theorem sa_74 (w i v : Int) (M : am_M) (h : 0 ≤ w) (h1 : 0 ≤ i) (h2 : i < 12) : am_ast 0 M (74 + 256 * w) i v = some (am_up M (74 + 256 * w) i v) := am_ast_ok (n := 12) (by omega) (by omega) (aty_74 w) (siz_74 w) h1 (by omega) (am_vok0 v)
theorem aty_60 (w : Int) : am_aty (60 + 256 * w) = 1 := (am_aty_add 60 w).trans (by decide +kernel)
theorem siz_60 (w : Int) : am_siz (60 + 256 * w) = 4 := (am_siz_add 60 w).trans (by decide +kernel)
theorem ra_60 (w i : Int) (M : am_M) (h : 0 ≤ w) (h1 : 0 ≤ i) (h2 : i < 4) : am_ald 1 M (60 + 256 * w) i = some (M (60 + 256 * w) i) := am_ald_ok (n := 4) (by omega) (by omega) (aty_60 w) (siz_60 w) h1 (by omega)
theorem al_60 (w : Int) (M : am_M) (h : 0 ≤ w) : am_alen M (60 + 256 * w) = some 4 := am_alen_ok (n := 4) (by omega) (by omega) (by rw [aty_60]; decide) (siz_60 w)
theorem sa_60 (w i v : Int) (M : am_M) (h : 0 ≤ w) (h1 : 0 ≤ i) (h2 : i < 4) : am_ast 1 M (60 + 256 * w) i v = some (am_up M (60 + 256 * w) i v) := am_ast_ok (n := 4) (by omega) (by omega) (aty_60 w) (siz_60 w) h1 (by omega) (am_vok1 v)
theorem ra_50 (i : Int) (M : am_M) (h1 : 0 ≤ i) (h2 : i < 40) : am_ald 3 M 50 i = some (M 50 i) := am_ald_ok (n := 40) (by decide) (by decide) (by decide +kernel) (by decide +kernel) h1 (by omega)
theorem sa_50 (i b : Int) (M : am_M) (h1 : 0 ≤ i) (h2 : i < 40) (hb : 0 ≤ b) : am_ast 3 M 50 i (15 + 256 * b) = some (am_up M 50 i (15 + 256 * b)) := am_ast_ok (n := 40) (by decide) (by decide) (by decide +kernel) (by decide +kernel) h1 (by omega) ⟨Or.inl (by decide), Or.inr (Or.inr ⟨by omega, cls_15 b⟩), Or.inl (by decide)⟩
theorem ra_51 (i : Int) (M : am_M) (h1 : 0 ≤ i) (h2 : i < 60) : am_ald 4 M 51 i = some (M 51 i) := am_ald_ok (n := 60) (by decide) (by decide) (by decide +kernel) (by decide +kernel) h1 (by omega)
theorem sa_51 (i b : Int) (M : am_M) (h1 : 0 ≤ i) (h2 : i < 60) (hb : 0 ≤ b) : am_ast 4 M 51 i (10 + 256 * b) = some (am_up M 51 i (10 + 256 * b)) := am_ast_ok (n := 60) (by decide) (by decide) (by decide +kernel) (by decide +kernel) h1 (by omega) ⟨Or.inl (by decide), Or.inl (by decide), Or.inr (Or.inr ⟨by omega, cls_10 b⟩)⟩
theorem ra_52 (i : Int) (M : am_M) (h1 : 0 ≤ i) (h2 : i < 100) : am_ald 0 M 52 i = some (M 52 i) := am_ald_ok (n := 100) (by decide) (by decide) (by decide +kernel) (by decide +kernel) h1 (by omega)
theorem sa_52 (i v : Int) (M : am_M) (h1 : 0 ≤ i) (h2 : i < 100) : am_ast 0 M 52 i v = some (am_up M 52 i v) := am_ast_ok (n := 100) (by decide) (by decide) (by decide +kernel) (by decide +kernel) h1 (by omega) (am_vok0 v)
theorem ra_53 (i : Int) (M : am_M) (h1 : 0 ≤ i) (h2 : i < 40) : am_ald 0 M 53 i = some (M 53 i) := am_ald_ok (n := 40) (by decide) (by decide) (by decide +kernel) (by decide +kernel) h1 (by omega)
theorem sa_53 (i v : Int) (M : am_M) (h1 : 0 ≤ i) (h2 : i < 40) : am_ast 0 M 53 i v = some (am_up M 53 i v) := am_ast_ok (n := 40) (by decide) (by decide) (by decide +kernel) (by decide +kernel) h1 (by omega) (am_vok0 v)
theorem ra_54 (i : Int) (M : am_M) (h1 : 0 ≤ i) (h2 : i < 40) : am_ald 1 M 54 i = some (M 54 i) := am_ald_ok (n := 40) (by decide) (by decide) (by decide +kernel) (by decide +kernel) h1 (by omega)
theorem sa_54 (i v : Int) (M : am_M) (h1 : 0 ≤ i) (h2 : i < 40) : am_ast 1 M 54 i v = some (am_up M 54 i v) := am_ast_ok (n := 40) (by decide) (by decide) (by decide +kernel) (by decide +kernel) h1 (by omega) (am_vok1 v)
theorem ra_310 (i : Int) (M : am_M) (h1 : 0 ≤ i) (h2 : i < 40) : am_ald 1 M 310 i = some (M 310 i) := am_ald_ok (n := 40) (by decide) (by decide) (by decide +kernel) (by decide +kernel) h1 (by omega)
theorem sa_310 (i v : Int) (M : am_M) (h1 : 0 ≤ i) (h2 : i < 40) : am_ast 1 M 310 i v = some (am_up M 310 i v) := am_ast_ok (n := 40) (by decide) (by decide) (by decide +kernel) (by decide +kernel) h1 (by omega) (am_vok1 v)
theorem ra_309 (i : Int) (M : am_M) (h1 : 0 ≤ i) (h2 : i < 40) : am_ald 0 M 309 i = some (M 309 i) := am_ald_ok (n := 40) (by decide) (by decide) (by decide +kernel) (by decide +kernel) h1 (by omega)
theorem sa_309 (i v : Int) (M : am_M) (h1 : 0 ≤ i) (h2 : i < 40) : am_ast 0 M 309 i v = some (am_up M 309 i v) := am_ast_ok (n := 40) (by decide) (by decide) (by decide +kernel) (by decide +kernel) h1 (by omega) (am_vok0 v)
theorem ra_565 (i : Int) (M : am_M) (h1 : 0 ≤ i) (h2 : i < 40) : am_ald 0 M 565 i = some (M 565 i) := am_ald_ok (n := 40) (by decide) (by decide) (by decide +kernel) (by decide +kernel) h1 (by omega)
theorem sa_565 (i v : Int) (M : am_M) (h1 : 0 ≤ i) (h2 : i < 40) : am_ast 0 M 565 i v = some (am_up M 565 i v) := am_ast_ok (n := 40) (by decide) (by decide) (by decide +kernel) (by decide +kernel) h1 (by omega) (am_vok0 v)
theorem ra_63 (i : Int) (M : am_M) (h1 : 0 ≤ i) (h2 : i < 120) : am_ald 0 M 63 i = some (M 63 i) := am_ald_ok (n := 120) (by decide) (by decide) (by decide +kernel) (by decide +kernel) h1 (by omega)
theorem sa_63 (i v : Int) (M : am_M) (h1 : 0 ≤ i) (h2 : i < 120) : am_ast 0 M 63 i v = some (am_up M 63 i v) := am_ast_ok (n := 120) (by decide) (by decide) (by decide +kernel) (by decide +kernel) h1 (by omega) (am_vok0 v)
theorem ra_62 (i : Int) (M : am_M) (h1 : 0 ≤ i) (h2 : i < 80) : am_ald 0 M 62 i = some (M 62 i) := am_ald_ok (n := 80) (by decide) (by decide) (by decide +kernel) (by decide +kernel) h1 (by omega)
theorem sa_62 (i v : Int) (M : am_M) (h1 : 0 ≤ i) (h2 : i < 80) : am_ast 0 M 62 i v = some (am_up M 62 i v) := am_ast_ok (n := 80) (by decide) (by decide) (by decide +kernel) (by decide +kernel) h1 (by omega) (am_vok0 v)
theorem ra_821 (i : Int) (M : am_M) (h1 : 0 ≤ i) (h2 : i < 40) : am_ald 0 M 821 i = some (M 821 i) := am_ald_ok (n := 40) (by decide) (by decide) (by decide +kernel) (by decide +kernel) h1 (by omega)
theorem sa_821 (i v : Int) (M : am_M) (h1 : 0 ≤ i) (h2 : i < 40) : am_ast 0 M 821 i v = some (am_up M 821 i v) := am_ast_ok (n := 40) (by decide) (by decide) (by decide +kernel) (by decide +kernel) h1 (by omega) (am_vok0 v)
theorem ra_68 (i : Int) (M : am_M) (h1 : 0 ≤ i) (h2 : i < 8000) : am_ald 1 M 68 i = some (M 68 i) := am_ald_ok (n := 8000) (by decide) (by decide) (by decide +kernel) (by decide +kernel) h1 (by omega)
theorem sa_68 (i v : Int) (M : am_M) (h1 : 0 ≤ i) (h2 : i < 8000) : am_ast 1 M 68 i v = some (am_up M 68 i v) := am_ast_ok (n := 8000) (by decide) (by decide) (by decide +kernel) (by decide +kernel) h1 (by omega) (am_vok1 v)
theorem ra_1077 (i : Int) (M : am_M) (h1 : 0 ≤ i) (h2 : i < 40) : am_ald 0 M 1077 i = some (M 1077 i) := am_ald_ok (n := 40) (by decide) (by decide) (by decide +kernel) (by decide +kernel) h1 (by omega)
theorem sa_1077 (i v : Int) (M : am_M) (h1 : 0 ≤ i) (h2 : i < 40) : am_ast 0 M 1077 i v = some (am_up M 1077 i v) := am_ast_ok (n := 40) (by decide) (by decide) (by decide +kernel) (by decide +kernel) h1 (by omega) (am_vok0 v)
theorem ra_64 (i : Int) (M : am_M) (h1 : 0 ≤ i) (h2 : i < 480) : am_ald 0 M 64 i = some (M 64 i) := am_ald_ok (n := 480) (by decide) (by decide) (by decide +kernel) (by decide +kernel) h1 (by omega)
theorem sa_64 (i v : Int) (M : am_M) (h1 : 0 ≤ i) (h2 : i < 480) : am_ast 0 M 64 i v = some (am_up M 64 i v) := am_ast_ok (n := 480) (by decide) (by decide) (by decide +kernel) (by decide +kernel) h1 (by omega) (am_vok0 v)
theorem ra_320 (i : Int) (M : am_M) (h1 : 0 ≤ i) (h2 : i < 480) : am_ald 0 M 320 i = some (M 320 i) := am_ald_ok (n := 480) (by decide) (by decide) (by decide +kernel) (by decide +kernel) h1 (by omega)
theorem sa_320 (i v : Int) (M : am_M) (h1 : 0 ≤ i) (h2 : i < 480) : am_ast 0 M 320 i v = some (am_up M 320 i v) := am_ast_ok (n := 480) (by decide) (by decide) (by decide +kernel) (by decide +kernel) h1 (by omega) (am_vok0 v)
theorem ra_576 (i : Int) (M : am_M) (h1 : 0 ≤ i) (h2 : i < 480) : am_ald 0 M 576 i = some (M 576 i) := am_ald_ok (n := 480) (by decide) (by decide) (by decide +kernel) (by decide +kernel) h1 (by omega)
theorem sa_576 (i v : Int) (M : am_M) (h1 : 0 ≤ i) (h2 : i < 480) : am_ast 0 M 576 i v = some (am_up M 576 i v) := am_ast_ok (n := 480) (by decide) (by decide) (by decide +kernel) (by decide +kernel) h1 (by omega) (am_vok0 v)
theorem ra_61 (i : Int) (M : am_M) (h1 : 0 ≤ i) (h2 : i < 60) : am_ald 0 M 61 i = some (M 61 i) := am_ald_ok (n := 60) (by decide) (by decide) (by decide +kernel) (by decide +kernel) h1 (by omega)
theorem sa_61 (i v : Int) (M : am_M) (h1 : 0 ≤ i) (h2 : i < 60) : am_ast 0 M 61 i v = some (am_up M 61 i v) := am_ast_ok (n := 60) (by decide) (by decide) (by decide +kernel) (by decide +kernel) h1 (by omega) (am_vok0 v)
theorem ra_317 (i : Int) (M : am_M) (h1 : 0 ≤ i) (h2 : i < 60) : am_ald 0 M 317 i = some (M 317 i) := am_ald_ok (n := 60) (by decide) (by decide) (by decide +kernel) (by decide +kernel) h1 (by omega)
theorem sa_317 (i v : Int) (M : am_M) (h1 : 0 ≤ i) (h2 : i < 60) : am_ast 0 M 317 i v = some (am_up M 317 i v) := am_ast_ok (n := 60) (by decide) (by decide) (by decide +kernel) (by decide +kernel) h1 (by omega) (am_vok0 v)
theorem ra_573 (i : Int) (M : am_M) (h1 : 0 ≤ i) (h2 : i < 60) : am_ald 0 M 573 i = some (M 573 i) := am_ald_ok (n := 60) (by decide) (by decide) (by decide +kernel) (by decide +kernel) h1 (by omega)
theorem sa_573 (i v : Int) (M : am_M) (h1 : 0 ≤ i) (h2 : i < 60) : am_ast 0 M 573 i v = some (am_up M 573 i v) := am_ast_ok (n := 60) (by decide) (by decide) (by decide +kernel) (by decide +kernel) h1 (by omega) (am_vok0 v)
theorem ra_829 (i : Int) (M : am_M) (h1 : 0 ≤ i) (h2 : i < 60) : am_ald 0 M 829 i = some (M 829 i) := am_ald_ok (n := 60) (by decide) (by decide) (by decide +kernel) (by decide +kernel) h1 (by omega)
theorem sa_829 (i v : Int) (M : am_M) (h1 : 0 ≤ i) (h2 : i < 60) : am_ast 0 M 829 i v = some (am_up M 829 i v) := am_ast_ok (n := 60) (by decide) (by decide) (by decide +kernel) (by decide +kernel) h1 (by omega) (am_vok0 v)
theorem ra_1085 (i : Int) (M : am_M) (h1 : 0 ≤ i) (h2 : i < 60) : am_ald 0 M 1085 i = some (M 1085 i) := am_ald_ok (n := 60) (by decide) (by decide) (by decide +kernel) (by decide +kernel) h1 (by omega)
theorem sa_1085 (i v : Int) (M : am_M) (h1 : 0 ≤ i) (h2 : i < 60) : am_ast 0 M 1085 i v = some (am_up M 1085 i v) := am_ast_ok (n := 60) (by decide) (by decide) (by decide +kernel) (by decide +kernel) h1 (by omega) (am_vok0 v)
theorem ra_1341 (i : Int) (M : am_M) (h1 : 0 ≤ i) (h2 : i < 60) : am_ald 0 M 1341 i = some (M 1341 i) := am_ald_ok (n := 60) (by decide) (by decide) (by decide +kernel) (by decide +kernel) h1 (by omega)
theorem sa_1341 (i v : Int) (M : am_M) (h1 : 0 ≤ i) (h2 : i < 60) : am_ast 0 M 1341 i v = some (am_up M 1341 i v) := am_ast_ok (n := 60) (by decide) (by decide) (by decide +kernel) (by decide +kernel) h1 (by omega) (am_vok0 v)
theorem ra_1597 (i : Int) (M : am_M) (h1 : 0 ≤ i) (h2 : i < 60) : am_ald 0 M 1597 i = some (M 1597 i) := am_ald_ok (n := 60) (by decide) (by decide) (by decide +kernel) (by decide +kernel) h1 (by omega)
theorem sa_1597 (i v : Int) (M : am_M) (h1 : 0 ≤ i) (h2 : i < 60) : am_ast 0 M 1597 i v = some (am_up M 1597 i v) := am_ast_ok (n := 60) (by decide) (by decide) (by decide +kernel) (by decide +kernel) h1 (by omega) (am_vok0 v)
theorem ra_1853 (i : Int) (M : am_M) (h1 : 0 ≤ i) (h2 : i < 60) : am_ald 0 M 1853 i = some (M 1853 i) := am_ald_ok (n := 60) (by decide) (by decide) (by decide +kernel) (by decide +kernel) h1 (by omega)
theorem sa_1853 (i v : Int) (M : am_M) (h1 : 0 ≤ i) (h2 : i < 60) : am_ast 0 M 1853 i v = some (am_up M 1853 i v) := am_ast_ok (n := 60) (by decide) (by decide) (by decide +kernel) (by decide +kernel) h1 (by omega) (am_vok0 v)
theorem ra_2109 (i : Int) (M : am_M) (h1 : 0 ≤ i) (h2 : i < 60) : am_ald 0 M 2109 i = some (M 2109 i) := am_ald_ok (n := 60) (by decide) (by decide) (by decide +kernel) (by decide +kernel) h1 (by omega)
theorem sa_2109 (i v : Int) (M : am_M) (h1 : 0 ≤ i) (h2 : i < 60) : am_ast 0 M 2109 i v = some (am_up M 2109 i v) := am_ast_ok (n := 60) (by decide) (by decide) (by decide +kernel) (by decide +kernel) h1 (by omega) (am_vok0 v)
theorem ra_2365 (i : Int) (M : am_M) (h1 : 0 ≤ i) (h2 : i < 60) : am_ald 0 M 2365 i = some (M 2365 i) := am_ald_ok (n := 60) (by decide) (by decide) (by decide +kernel) (by decide +kernel) h1 (by omega)
theorem sa_2365 (i v : Int) (M : am_M) (h1 : 0 ≤ i) (h2 : i < 60) : am_ast 0 M 2365 i v = some (am_up M 2365 i v) := am_ast_ok (n := 60) (by decide) (by decide) (by decide +kernel) (by decide +kernel) h1 (by omega) (am_vok0 v)
theorem ra_65 (i : Int) (M : am_M) (h1 : 0 ≤ i) (h2 : i < 60) : am_ald 1 M 65 i = some (M 65 i) := am_ald_ok (n := 60) (by decide) (by decide) (by decide +kernel) (by decide +kernel) h1 (by omega)
theorem sa_65 (i v : Int) (M : am_M) (h1 : 0 ≤ i) (h2 : i < 60) : am_ast 1 M 65 i v = some (am_up M 65 i v) := am_ast_ok (n := 60) (by decide) (by decide) (by decide +kernel) (by decide +kernel) h1 (by omega) (am_vok1 v)
theorem ra_2621 (i : Int) (M : am_M) (h1 : 0 ≤ i) (h2 : i < 60) : am_ald 0 M 2621 i = some (M 2621 i) := am_ald_ok (n := 60) (by decide) (by decide) (by decide +kernel) (by decide +kernel) h1 (by omega)
theorem sa_2621 (i v : Int) (M : am_M) (h1 : 0 ≤ i) (h2 : i < 60) : am_ast 0 M 2621 i v = some (am_up M 2621 i v) := am_ast_ok (n := 60) (by decide) (by decide) (by decide +kernel) (by decide +kernel) h1 (by omega) (am_vok0 v)
theorem ra_2877 (i : Int) (M : am_M) (h1 : 0 ≤ i) (h2 : i < 60) : am_ald 0 M 2877 i = some (M 2877 i) := am_ald_ok (n := 60) (by decide) (by decide) (by decide +kernel) (by decide +kernel) h1 (by omega)
theorem sa_2877 (i v : Int) (M : am_M) (h1 : 0 ≤ i) (h2 : i < 60) : am_ast 0 M 2877 i v = some (am_up M 2877 i v) := am_ast_ok (n := 60) (by decide) (by decide) (by decide +kernel) (by decide +kernel) h1 (by omega) (am_vok0 v)
theorem ra_3133 (i : Int) (M : am_M) (h1 : 0 ≤ i) (h2 : i < 60) : am_ald 0 M 3133 i = some (M 3133 i) := am_ald_ok (n := 60) (by decide) (by decide) (by decide +kernel) (by decide +kernel) h1 (by omega)
theorem sa_3133 (i v : Int) (M : am_M) (h1 : 0 ≤ i) (h2 : i < 60) : am_ast 0 M 3133 i v = some (am_up M 3133 i v) := am_ast_ok (n := 60) (by decide) (by decide) (by decide +kernel) (by decide +kernel) h1 (by omega) (am_vok0 v)
theorem ra_69 (i : Int) (M : am_M) (h1 : 0 ≤ i) (h2 : i < 44000) : am_ald 1 M 69 i = some (M 69 i) := am_ald_ok (n := 44000) (by decide) (by decide) (by decide +kernel) (by decide +kernel) h1 (by omega)
theorem sa_69 (i v : Int) (M : am_M) (h1 : 0 ≤ i) (h2 : i < 44000) : am_ast 1 M 69 i v = some (am_up M 69 i v) := am_ast_ok (n := 44000) (by decide) (by decide) (by decide +kernel) (by decide +kernel) h1 (by omega) (am_vok1 v)
theorem ra_70 (i : Int) (M : am_M) (h1 : 0 ≤ i) (h2 : i < 44000) : am_ald 0 M 70 i = some (M 70 i) := am_ald_ok (n := 44000) (by decide) (by decide) (by decide +kernel) (by decide +kernel) h1 (by omega)
theorem sa_70 (i v : Int) (M : am_M) (h1 : 0 ≤ i) (h2 : i < 44000) : am_ast 0 M 70 i v = some (am_up M 70 i v) := am_ast_ok (n := 44000) (by decide) (by decide) (by decide +kernel) (by decide +kernel) h1 (by omega) (am_vok0 v)
theorem ra_1333 (i : Int) (M : am_M) (h1 : 0 ≤ i) (h2 : i < 40) : am_ald 0 M 1333 i = some (M 1333 i) := am_ald_ok (n := 40) (by decide) (by decide) (by decide +kernel) (by decide +kernel) h1 (by omega)
theorem sa_1333 (i v : Int) (M : am_M) (h1 : 0 ≤ i) (h2 : i < 40) : am_ast 0 M 1333 i v = some (am_up M 1333 i v) := am_ast_ok (n := 40) (by decide) (by decide) (by decide +kernel) (by decide +kernel) h1 (by omega) (am_vok0 v)
theorem ra_1589 (i : Int) (M : am_M) (h1 : 0 ≤ i) (h2 : i < 40) : am_ald 0 M 1589 i = some (M 1589 i) := am_ald_ok (n := 40) (by decide) (by decide) (by decide +kernel) (by decide +kernel) h1 (by omega)
theorem sa_1589 (i v : Int) (M : am_M) (h1 : 0 ≤ i) (h2 : i < 40) : am_ast 0 M 1589 i v = some (am_up M 1589 i v) := am_ast_ok (n := 40) (by decide) (by decide) (by decide +kernel) (by decide +kernel) h1 (by omega) (am_vok0 v)
theorem ra_566 (i : Int) (M : am_M) (h1 : 0 ≤ i) (h2 : i < 40) : am_ald 1 M 566 i = some (M 566 i) := am_ald_ok (n := 40) (by decide) (by decide) (by decide +kernel) (by decide +kernel) h1 (by omega)
theorem sa_566 (i v : Int) (M : am_M) (h1 : 0 ≤ i) (h2 : i < 40) : am_ast 1 M 566 i v = some (am_up M 566 i v) := am_ast_ok (n := 40) (by decide) (by decide) (by decide +kernel) (by decide +kernel) h1 (by omega) (am_vok1 v)
theorem ra_822 (i : Int) (M : am_M) (h1 : 0 ≤ i) (h2 : i < 40) : am_ald 1 M 822 i = some (M 822 i) := am_ald_ok (n := 40) (by decide) (by decide) (by decide +kernel) (by decide +kernel) h1 (by omega)
theorem sa_822 (i v : Int) (M : am_M) (h1 : 0 ≤ i) (h2 : i < 40) : am_ast 1 M 822 i v = some (am_up M 822 i v) := am_ast_ok (n := 40) (by decide) (by decide) (by decide +kernel) (by decide +kernel) h1 (by omega) (am_vok1 v)
theorem ra_1845 (i : Int) (M : am_M) (h1 : 0 ≤ i) (h2 : i < 40) : am_ald 0 M 1845 i = some (M 1845 i) := am_ald_ok (n := 40) (by decide) (by decide) (by decide +kernel) (by decide +kernel) h1 (by omega)
theorem sa_1845 (i v : Int) (M : am_M) (h1 : 0 ≤ i) (h2 : i < 40) : am_ast 0 M 1845 i v = some (am_up M 1845 i v) := am_ast_ok (n := 40) (by decide) (by decide) (by decide +kernel) (by decide +kernel) h1 (by omega) (am_vok0 v)
theorem ra_2101 (i : Int) (M : am_M) (h1 : 0 ≤ i) (h2 : i < 40) : am_ald 0 M 2101 i = some (M 2101 i) := am_ald_ok (n := 40) (by decide) (by decide) (by decide +kernel) (by decide +kernel) h1 (by omega)
theorem sa_2101 (i v : Int) (M : am_M) (h1 : 0 ≤ i) (h2 : i < 40) : am_ast 0 M 2101 i v = some (am_up M 2101 i v) := am_ast_ok (n := 40) (by decide) (by decide) (by decide +kernel) (by decide +kernel) h1 (by omega) (am_vok0 v)
theorem ra_2357 (i : Int) (M : am_M) (h1 : 0 ≤ i) (h2 : i < 40) : am_ald 0 M 2357 i = some (M 2357 i) := am_ald_ok (n := 40) (by decide) (by decide) (by decide +kernel) (by decide +kernel) h1 (by omega)
theorem sa_2357 (i v : Int) (M : am_M) (h1 : 0 ≤ i) (h2 : i < 40) : am_ast 0 M 2357 i v = some (am_up M 2357 i v) := am_ast_ok (n := 40) (by decide) (by decide) (by decide +kernel) (by decide +kernel) h1 (by omega) (am_vok0 v)
theorem ra_2613 (i : Int) (M : am_M) (h1 : 0 ≤ i) (h2 : i < 40) : am_ald 0 M 2613 i = some (M 2613 i) := am_ald_ok (n := 40) (by decide) (by decide) (by decide +kernel) (by decide +kernel) h1 (by omega)
theorem sa_2613 (i v : Int) (M : am_M) (h1 : 0 ≤ i) (h2 : i < 40) : am_ast 0 M 2613 i v = some (am_up M 2613 i v) := am_ast_ok (n := 40) (by decide) (by decide) (by decide +kernel) (by decide +kernel) h1 (by omega) (am_vok0 v)
theorem ra_66 (i : Int) (M : am_M) (h1 : 0 ≤ i) (h2 : i < 160) : am_ald 1 M 66 i = some (M 66 i) := am_ald_ok (n := 160) (by decide) (by decide) (by decide +kernel) (by decide +kernel) h1 (by omega)
theorem sa_66 (i v : Int) (M : am_M) (h1 : 0 ≤ i) (h2 : i < 160) : am_ast 1 M 66 i v = some (am_up M 66 i v) := am_ast_ok (n := 160) (by decide) (by decide) (by decide +kernel) (by decide +kernel) h1 (by omega) (am_vok1 v)
theorem ra_67 (i : Int) (M : am_M) (h1 : 0 ≤ i) (h2 : i < 1200) : am_ald 1 M 67 i = some (M 67 i) := am_ald_ok (n := 1200) (by decide) (by decide) (by decide +kernel) (by decide +kernel) h1 (by omega)
theorem sa_67 (i v : Int) (M : am_M) (h1 : 0 ≤ i) (h2 : i < 1200) : am_ast 1 M 67 i v = some (am_up M 67 i v) := am_ast_ok (n := 1200) (by decide) (by decide) (by decide +kernel) (by decide +kernel) h1 (by omega) (am_vok1 v)
theorem ra_2869 (i : Int) (M : am_M) (h1 : 0 ≤ i) (h2 : i < 40) : am_ald 0 M 2869 i = some (M 2869 i) := am_ald_ok (n := 40) (by decide) (by decide) (by decide +kernel) (by decide +kernel) h1 (by omega)
theorem sa_2869 (i v : Int) (M : am_M) (h1 : 0 ≤ i) (h2 : i < 40) : am_ast 0 M 2869 i v = some (am_up M 2869 i v) := am_ast_ok (n := 40) (by decide) (by decide) (by decide +kernel) (by decide +kernel) h1 (by omega) (am_vok0 v)
theorem ra_3125 (i : Int) (M : am_M) (h1 : 0 ≤ i) (h2 : i < 40) : am_ald 0 M 3125 i = some (M 3125 i) := am_ald_ok (n := 40) (by decide) (by decide) (by decide +kernel) (by decide +kernel) h1 (by omega)
theorem sa_3125 (i v : Int) (M : am_M) (h1 : 0 ≤ i) (h2 : i < 40) : am_ast 0 M 3125 i v = some (am_up M 3125 i v) := am_ast_ok (n := 40) (by decide) (by decide) (by decide +kernel) (by decide +kernel) h1 (by omega) (am_vok0 v)
theorem ra_308 (i : Int) (M : am_M) (h1 : 0 ≤ i) (h2 : i < 100) : am_ald 0 M 308 i = some (M 308 i) := am_ald_ok (n := 100) (by decide) (by decide) (by decide +kernel) (by decide +kernel) h1 (by omega)
theorem sa_308 (i v : Int) (M : am_M) (h1 : 0 ≤ i) (h2 : i < 100) : am_ast 0 M 308 i v = some (am_up M 308 i v) := am_ast_ok (n := 100) (by decide) (by decide) (by decide +kernel) (by decide +kernel) h1 (by omega) (am_vok0 v)
theorem ra_71 (i : Int) (M : am_M) (h1 : 0 ≤ i) (h2 : i < 40) : am_ald 2 M 71 i = some (M 71 i) := am_ald_ok (n := 40) (by decide) (by decide) (by decide +kernel) (by decide +kernel) h1 (by omega)
theorem sa_71 (i v : Int) (M : am_M) (h1 : 0 ≤ i) (h2 : i < 40) (hv : v = 0 ∨ v = 1) : am_ast 2 M 71 i v = some (am_up M 71 i v) := am_ast_ok (n := 40) (by decide) (by decide) (by decide +kernel) (by decide +kernel) h1 (by omega) ⟨Or.inr hv, Or.inl (by decide), Or.inl (by decide)⟩
theorem ra_1078 (i : Int) (M : am_M) (h1 : 0 ≤ i) (h2 : i < 40) : am_ald 1 M 1078 i = some (M 1078 i) := am_ald_ok (n := 40) (by decide) (by decide) (by decide +kernel) (by decide +kernel) h1 (by omega)
theorem sa_1078 (i v : Int) (M : am_M) (h1 : 0 ≤ i) (h2 : i < 40) : am_ast 1 M 1078 i v = some (am_up M 1078 i v) := am_ast_ok (n := 40) (by decide) (by decide) (by decide +kernel) (by decide +kernel) h1 (by omega) (am_vok1 v)
theorem ra_1334 (i : Int) (M : am_M) (h1 : 0 ≤ i) (h2 : i < 40) : am_ald 1 M 1334 i = some (M 1334 i) := am_ald_ok (n := 40) (by decide) (by decide) (by decide +kernel) (by decide +kernel) h1 (by omega)
theorem sa_1334 (i v : Int) (M : am_M) (h1 : 0 ≤ i) (h2 : i < 40) : am_ast 1 M 1334 i v = some (am_up M 1334 i v) := am_ast_ok (n := 40) (by decide) (by decide) (by decide +kernel) (by decide +kernel) h1 (by omega) (am_vok1 v)
theorem ra_3381 (i : Int) (M : am_M) (h1 : 0 ≤ i) (h2 : i < 40) : am_ald 0 M 3381 i = some (M 3381 i) := am_ald_ok (n := 40) (by decide) (by decide) (by decide +kernel) (by decide +kernel) h1 (by omega)
theorem sa_3381 (i v : Int) (M : am_M) (h1 : 0 ≤ i) (h2 : i < 40) : am_ast 0 M 3381 i v = some (am_up M 3381 i v) := am_ast_ok (n := 40) (by decide) (by decide) (by decide +kernel) (by decide +kernel) h1 (by omega) (am_vok0 v)
theorem ra_1590 (i : Int) (M : am_M) (h1 : 0 ≤ i) (h2 : i < 40) : am_ald 1 M 1590 i = some (M 1590 i) := am_ald_ok (n := 40) (by decide) (by decide) (by decide +kernel) (by decide +kernel) h1 (by omega)
theorem sa_1590 (i v : Int) (M : am_M) (h1 : 0 ≤ i) (h2 : i < 40) : am_ast 1 M 1590 i v = some (am_up M 1590 i v) := am_ast_ok (n := 40) (by decide) (by decide) (by decide +kernel) (by decide +kernel) h1 (by omega) (am_vok1 v)
theorem ra_2 (i : Int) (M : am_M) (h1 : 0 ≤ i) (h2 : i < 14) : am_ald 0 M 2 i = some (M 2 i) := am_ald_old (n := 14) (by decide) (by decide) (by decide +kernel) (by decide +kernel) h1 (by omega)
theorem ra_3 (i : Int) (M : am_M) (h1 : 0 ≤ i) (h2 : i < 14) : am_ald 0 M 3 i = some (M 3 i) := am_ald_old (n := 14) (by decide) (by decide) (by decide +kernel) (by decide +kernel) h1 (by omega)
theorem am_w32_ok (x : Int) (h1 : -2147483648 ≤ x) (h2 : x ≤ 2147483647) : am_w32 x = x := by
  unfold am_w32; rw [Int.bmod_eq_of_le] <;> omega
theorem am_w64_ok (x : Int) (h1 : -9223372036854775808 ≤ x) (h2 : x ≤ 9223372036854775807) : am_w64 x = x := by
  unfold am_w64; rw [Int.bmod_eq_of_le] <;> omega
theorem lb_div (k w : Int) (h1 : 0 ≤ k) (h2 : k < 256) : (k + 256 * w) / 256 = w := by omega
theorem lcmp_z (x y : Int) : (am_lcmp x y = 0) = (x = y) := by
  unfold am_lcmp; apply propext; constructor
  · intro h; split at h
    · omega
    · split at h <;> omega
  · intro h; rw [if_neg (by omega), if_pos h]
theorem lcmp_le (x y : Int) : (am_lcmp x y ≤ 0) = (x ≤ y) := by
  unfold am_lcmp; apply propext; constructor
  · intro h; split at h
    · omega
    · split at h <;> omega
  · intro h; by_cases q : x < y
    · rw [if_pos q]; omega
    · rw [if_neg q, if_pos (by omega)]; omega
theorem lcmp_ge (x y : Int) : (0 ≤ am_lcmp x y) = (y ≤ x) := by
  unfold am_lcmp; apply propext; constructor
  · intro h; split at h
    · omega
    · split at h <;> omega
  · intro h; rw [if_neg (by omega)]; split <;> omega
theorem lcmp_lt (x y : Int) : (am_lcmp x y < 0) = (x < y) := by
  have h := lcmp_ge x y
  apply propext; rw [← Int.not_le, h, Int.not_le]
theorem lcmp_gt (x y : Int) : (0 < am_lcmp x y) = (y < x) := by
  have h := lcmp_le x y
  apply propext; rw [← Int.not_le, h, Int.not_le]
