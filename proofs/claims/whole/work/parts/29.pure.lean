/-! the pure part begins: reads and writes at known labels -/
theorem am_kt_add (k i : Int) : am_kt (k + 256 * i) = am_kt k := by
  unfold am_kt
  rw [Int.add_mul_emod_self_left]
theorem am_cls_add (k i : Int) : am_cls (k + 256 * i) = am_cls k := by unfold am_cls; rw [am_kt_add]
theorem am_aty_add (k i : Int) : am_aty (k + 256 * i) = am_aty k := by unfold am_aty; rw [am_kt_add]
theorem am_siz_add (k i : Int) : am_siz (k + 256 * i) = am_siz k := by unfold am_siz; rw [am_kt_add]
theorem am_nb_add (k i : Int) : am_nb (k + 256 * i) = am_nb k := by unfold am_nb; rw [am_kt_add]
theorem am_gf_ok {c : Nat} {k L : Int} {M : am_M} (h0 : 0 < L) (hc : am_cls L = c) : am_gf c k M L = some (M L k) := if_pos ⟨h0, hc⟩
theorem am_pf_ok {c : Nat} {k z L v : Int} {M : am_M} (h0 : 0 < L) (hc : am_cls L = c) (hz : z ≠ 4 ∨ v = 0 ∨ v = 1) : am_pf c k z M L v = some (am_up M L k v) := if_pos ⟨h0, hc, hz⟩
theorem am_ald_ok {t n : Nat} {L i : Int} {M : am_M} (h0 : 0 < L) (h1 : L ≠ 1) (ht : am_aty L = t) (hn : am_siz L = n) (hi : 0 ≤ i) (hl : i < n) : am_ald t M L i = some (M L i) := by
  unfold am_ald
  rw [if_pos ⟨h0, Or.inl ht, hi, by rw [am_len_siz h1, hn]; exact hl⟩]
theorem am_ald_old {n : Nat} {L i : Int} {M : am_M} (h0 : 0 < L) (h1 : L ≠ 1) (ht : am_aty L = 5) (hn : am_siz L = n) (hi : 0 ≤ i) (hl : i < n) : am_ald 0 M L i = some (M L i) := by
  unfold am_ald
  rw [if_pos ⟨h0, Or.inr ⟨rfl, ht⟩, hi, by rw [am_len_siz h1, hn]; exact hl⟩]
theorem am_ald_scr {i : Int} {M : am_M} (hi : 0 ≤ i) (hl : i < M 1 (-1)) : am_ald 0 M 1 i = some (M 1 i) := by
  unfold am_ald
  rw [if_pos ⟨by decide, Or.inr ⟨rfl, by decide +kernel⟩, hi, by unfold am_len; rw [if_pos rfl]; exact hl⟩]
theorem am_ast_ok {t n : Nat} {L i v : Int} {M : am_M} (h0 : 0 < L) (h1 : L ≠ 1) (ht : am_aty L = t) (hn : am_siz L = n) (hi : 0 ≤ i) (hl : i < n) (hv : am_vok t v) : am_ast t M L i v = some (am_up M L i v) := by
  unfold am_ast
  rw [if_pos ⟨h0, ht, hi, by rw [am_len_siz h1, hn]; exact hl, hv⟩]
theorem am_alen_ok {n : Nat} {L : Int} {M : am_M} (h0 : 0 < L) (h1 : L ≠ 1) (ht : am_aty L ≤ 5) (hn : am_siz L = n) : am_alen M L = some (n : Int) := by
  unfold am_alen
  rw [if_pos ⟨h0, ht⟩, am_len_siz h1, hn]
theorem am_newo_ok {c : Nat} {L : Int} {M : am_M} (h0 : 0 < L) (hb : L / 256 < am_nb L) (hc : am_cls L = c) (hf : M (-1) L = 0) : am_newo c M L = some (am_alloc M L) := if_pos ⟨h0, hb, hc, hf⟩
theorem am_newa_ok {t : Nat} {n L : Int} {M : am_M} (h0 : 0 < L) (hb : L / 256 < am_nb L) (hc : am_aty L = t) (hn : n = am_siz L) (hf : M (-1) L = 0) : am_newa t n M L = some (am_alloc M L) := if_pos ⟨h0, hb, hc, hn, hf⟩
/-- the first method of the reference: whether a weaver is over -/
theorem rf_isOver {M : am_M} {w : Int} (h : M 17 30 = 1333) (h0 : 0 ≤ w) (h1 : w < 40) : am_evm am_PP nX7_isOver [(2, 17), (0, w)] M = some (if 2 < M 1333 w then 1 else 0, M) := by
  rw [be_X7_isOver_m, be_X7_isOver_0, am_gf_ok (by decide) (by decide +kernel), Option.bind_some, h, am_ald_ok (n := 40) (by decide) (by decide) (by decide +kernel) (by decide +kernel) h0 (by omega), Option.bind_some]
  by_cases hc : M 1333 w ≤ 2
  · rw [decide_eq_true hc, cond_true, be_X7_isOver_2, be_X7_isOver_3, if_neg (show ¬ 2 < M 1333 w by omega)]
    rfl
  · rw [decide_eq_false hc, cond_false, be_X7_isOver_1, be_X7_isOver_3, if_pos (show 2 < M 1333 w by omega)]
    rfl
