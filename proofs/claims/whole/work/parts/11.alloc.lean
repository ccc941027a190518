section AMR6
variable {p : Program} {l : Launch} {e : Env} {R : Room} {s : State} {m : MethodId} {args : Array Value} {below : List Frame} {meth : Method} {c : Code} {Q : State → Prop} {G : am_Gt} {cc : ByteArray} {nL pc : Nat} {c0 s0 : Int} {own : String}
def am_dv (t : Nat) : Value := match t with
  | 0 => .int 0
  | 1 => .long 0
  | _ => .null
theorem am_val_z (ad : Int → Nat) (t : Nat) : am_val ad (t, 0) = am_dv t := by
  match t with
  | 0 => rfl
  | 1 => rfl
  | t + 2 => rfl
theorem am_dv_ok : ∀ ci, ci < 8 → ∀ j, j < am_N ci → defaultValue (am_tyq ci j) = am_dv (am_ftag ci j) := by
  intro ci hci
  have : ci = 0 ∨ ci = 1 ∨ ci = 2 ∨ ci = 3 ∨ ci = 4 ∨ ci = 5 ∨ ci = 6 ∨ ci = 7 := by omega
  rcases this with rfl | rfl | rfl | rfl | rfl | rfl | rfl | rfl <;> decide +kernel
theorem am_hA {s : State} (hB : G.2.2.1 ≤ s.heap.size) : ∀ q, s.heap.size ≤ q → am_A G q := fun q h => Nat.le_trans hB h
/-- new -/
theorem am_r_new (C : am_Cx p s m args c own cc nL G) {idx ci : Nat} {q : vw_C} {lv : am_L} {st : List am_V} {M M' : am_M} {L : Int} (hc : vwCl[ci]? = some q) (h : am_newo ci M L = some M') (h1 : Cond.classLink own idx q.1 ∈ am_tbl) (h2 : Cond.instantiable q.1 q.2.2 ∈ am_tbl) (h3 : Cond.initialized q.1 ∈ am_tbl) (hc0 : c0 ≤ M (-2) 0) (hs0 : s0 ≤ M (-2) 1) (hr1 : M' (-2) 0 - c0 ≤ R.cells) (hr2 : M' (-2) 1 - s0 ≤ R.slots) (hdg : decode cc pc = .ok (.new idx, 3))
    (kk : am_Go p l e R s m args below meth c Q G nL c0 s0 (pc + 3) lv ((2, L) :: st) M') : am_Go p l e R s m args below meth c Q G nL c0 s0 pc lv st M := by
  obtain ⟨hx, hb, hml, hown, hts, hO⟩ := C
  obtain ⟨f1, f2, f3, f4, f5⟩ := am_clf hc
  unfold am_newo at h
  by_cases hcd : 0 < L ∧ L / 256 < am_nb L ∧ am_cls L = ci ∧ M (-1) L = 0
  · rw [if_pos hcd] at h
    cases h
    obtain ⟨g0, g1, g2, g3⟩ := hcd
    have h8 : am_cls L < 8 := by rw [g2]; exact f5
    have hsz : am_siz L = q.2.2 := by rw [am_cls_siz L h8, g2, f4]
    rw [am_alloc_c.1] at hr1
    rw [am_alloc_c.2, hsz] at hr2
    intro ad al H locs ls hW hS hl hq hst
    obtain ⟨C1, T1, N1⟩ := q
    dsimp only at hsz hr2 f2 f4
    have hrs : (M (-2) 1 - s0).toNat + N1 ≤ R.slots := by omega
    have key : ∀ (qa : Nat) (H1 : Heap), va_P G.1 vwCl (am_ws G.2.1 ad M al ++ [(qa, .inr (ci, am_obj (am_adn ad L 0) (am_alloc M L) L))]) H1 → va_D (am_A G) (am_ws G.2.1 ad M al ++ [(qa, .inr (ci, am_obj (am_adn ad L 0) (am_alloc M L) L))]) → va_S (am_A G) s.heap H1 locs → W p l e R s m args below meth c H1 locs ((M (-2) 0 - c0).toNat + 1) ((M (-2) 1 - s0).toNat + N1) Q (F0 m (pc + 3) ls (.ref qa :: st.map (am_val ad))) := by
      intro qa H1 hP hD hS1
      have ec : am_cell G.2.1 (am_adn ad L qa) (am_alloc M L) L = .inr (ci, am_obj (am_adn ad L 0) (am_alloc M L) L) := by
        rw [am_cell_o h8, g2]
        congr 2
        unfold am_obj
        apply List.map_congr_left
        intro j _
        rw [am_alloc_self g0, am_val_z, am_val_z]
      rw [← ec] at hP hD
      have := am_new_go (len := 3) ⟨g0, g1⟩ g3 hc0 hs0 hW hl hq hst kk hP hD hS1
      rw [hsz] at this
      exact this
    refine va_new (ty := am_tyq ci) hx hb hts f1 f2 hown (hts _ h1) (hts _ h2) (hts _ h3) hW.2.2.1 hW.1 hW.2.1 hS (am_hA hO.2.2.2.2.2.1) hc (fs := am_obj (am_adn ad L 0) (am_alloc M L) L) (fun j hj => ?_) (by omega) hrs hdg key
    rw [am_dv_ok ci f5 j (by rw [← f4]; exact hj)]
    unfold vp_V
    rw [List.getD_eq_getElem?_getD, am_obj_at (by rw [hsz]; exact hj), am_alloc_self g0, am_val_z, g2]
    rfl
  · rw [if_neg hcd] at h; cases h
/-- newarray -/
theorem am_r_newa (C : am_Cx p s m args c own cc nL G) {t : Nat} {atype : ArrayType} {lv : am_L} {st : List am_V} {M M' : am_M} {L n : Int} (ht : (t = 0 ∧ atype = .int) ∨ (t = 1 ∧ atype = .long) ∨ (t = 2 ∧ atype = .boolean)) (h : am_newa t n M L = some M') (h1 : Cond.arrayClass (newarray.typeOf atype) ∈ am_tbl) (hc0 : c0 ≤ M (-2) 0) (hs0 : s0 ≤ M (-2) 1) (hr1 : M' (-2) 0 - c0 ≤ R.cells) (hr2 : M' (-2) 1 - s0 ≤ R.slots) (hdg : decode cc pc = .ok (.newarray atype, 2))
    (kk : am_Go p l e R s m args below meth c Q G nL c0 s0 (pc + 2) lv ((2, L) :: st) M') : am_Go p l e R s m args below meth c Q G nL c0 s0 pc lv ((0, n) :: st) M := by
  obtain ⟨hx, hb, hml, hown, hts, hO⟩ := C
  unfold am_newa at h
  by_cases hcd : 0 < L ∧ L / 256 < am_nb L ∧ am_aty L = t ∧ n = am_siz L ∧ M (-1) L = 0
  · rw [if_pos hcd] at h
    cases h
    obtain ⟨g0, g1, g2, rfl, g3⟩ := hcd
    have h5 : am_aty L ≤ 5 := by omega
    have hsz := am_siz_le L
    rw [am_alloc_c.1] at hr1
    rw [am_alloc_c.2] at hr2
    intro ad al H locs ls hW hS hl hq hst
    have hst := am_tl hst
    rw [List.map_cons, am_val0]
    have en : ¬ Int32.ofInt (am_siz L : Int) < 0 := by
      rw [show (0 : Int32) = Int32.ofInt 0 from by decide, am_i32_lt ⟨by omega, by omega⟩ (by decide)]
      omega
    have eN : (Int32.ofInt (am_siz L : Int)).toNatClampNeg = am_siz L := by
      show (Int32.ofInt (am_siz L : Int)).toInt.toNat = _
      rw [am_i32_t ⟨by omega, by omega⟩]
      simp
    have hty : ∀ ad', am_cell G.2.1 ad' (am_alloc M L) L = .inl (G.2.1 t, am_siz L, if t = 1 then .inr (.inl (fun _ => 0)) else .inl (fun _ => 0)) := by
      intro ad'
      rw [am_cell_a h5, g2]
      congr 3
      unfold am_arr
      rw [g2]
      by_cases h1 : t = 1
      · rw [if_pos h1, if_pos h1]
        congr 2
        funext j
        rw [am_alloc_self g0]
        decide
      · rw [if_neg h1, if_neg h1, if_neg (by omega)]
        congr 1
        funext j
        rw [am_alloc_self g0]
        decide
    have key : ∀ (qa : Nat) (H1 : Heap), va_P G.1 vwCl (am_ws G.2.1 ad M al ++ [(qa, .inl (G.2.1 t, am_siz L, if t = 1 then .inr (.inl (fun _ => 0)) else .inl (fun _ => 0)))]) H1 → va_D (am_A G) (am_ws G.2.1 ad M al ++ [(qa, .inl (G.2.1 t, am_siz L, if t = 1 then .inr (.inl (fun _ => 0)) else .inl (fun _ => 0)))]) → va_S (am_A G) s.heap H1 locs → W p l e R s m args below meth c H1 locs ((M (-2) 0 - c0).toNat + 1) ((M (-2) 1 - s0).toNat + am_siz L) Q (F0 m (pc + 2) ls (.ref qa :: st.map (am_val ad))) := by
      intro qa H1 hP hD hS1
      rw [← hty (am_adn ad L qa)] at hP hD
      exact am_new_go (len := 2) ⟨g0, g1⟩ g3 hc0 hs0 hW hl hq hst kk hP hD hS1
    have hKt := hW.2.2.1.2
    rcases ht with ⟨rfl, rfl⟩ | ⟨rfl, rfl⟩ | ⟨rfl, rfl⟩
    · refine va_newa (ty := .int) (a0 := (am_siz L, .inl (fun _ => 0))) hx hb (hts _ h1) rfl hW.2.2.1 hW.1 hW.2.1 hS (am_hA hO.2.2.2.2.2.1) (fun cA => rfl) en eN (by show _ * 4 ≤ _; omega) (by omega) (by omega) hdg (fun qa cA H1 hK1 hP hD hS1 => ?_)
      have e1 : G.2.1 0 = cA := Option.some.inj ((hKt 0 _ rfl).2.symm.trans (hK1.2 5 _ rfl).2)
      rw [← e1] at hP hD
      exact key qa H1 hP hD hS1
    · refine va_newa (ty := .long) (a0 := (am_siz L, .inr (.inl (fun _ => 0)))) hx hb (hts _ h1) rfl hW.2.2.1 hW.1 hW.2.1 hS (am_hA hO.2.2.2.2.2.1) (fun cA => rfl) en eN (by show _ * 8 ≤ _; omega) (by omega) (by omega) hdg (fun qa cA H1 hK1 hP hD hS1 => ?_)
      have e1 : G.2.1 1 = cA := Option.some.inj ((hKt 1 _ rfl).2.symm.trans (hK1.2 5 _ rfl).2)
      rw [← e1] at hP hD
      exact key qa H1 hP hD hS1
    · refine va_newa (ty := .boolean) (a0 := (am_siz L, .inl (fun _ => 0))) hx hb (hts _ h1) rfl hW.2.2.1 hW.1 hW.2.1 hS (am_hA hO.2.2.2.2.2.1) (fun cA => rfl) en eN (by show _ * 1 ≤ _; omega) (by omega) (by omega) hdg (fun qa cA H1 hK1 hP hD hS1 => ?_)
      have e1 : G.2.1 2 = cA := Option.some.inj ((hKt 2 _ rfl).2.symm.trans (hK1.2 5 _ rfl).2)
      rw [← e1] at hP hD
      exact key qa H1 hP hD hS1
  · rw [if_neg hcd] at h; cases h
/-- anewarray -/
theorem am_r_newq (C : am_Cx p s m args c own cc nL G) {t idx : Nat} {lv : am_L} {st : List am_V} {M M' : am_M} {L n : Int} (ht : (t = 3 ∧ Cond.classLink own idx RX5 ∈ am_tbl) ∨ (t = 4 ∧ Cond.classLink own idx RX0 ∈ am_tbl)) (h : am_newa t n M L = some M') (hc0 : c0 ≤ M (-2) 0) (hs0 : s0 ≤ M (-2) 1) (hr1 : M' (-2) 0 - c0 ≤ R.cells) (hr2 : M' (-2) 1 - s0 ≤ R.slots) (hdg : decode cc pc = .ok (.anewarray idx, 3))
    (kk : am_Go p l e R s m args below meth c Q G nL c0 s0 (pc + 3) lv ((2, L) :: st) M') : am_Go p l e R s m args below meth c Q G nL c0 s0 pc lv ((0, n) :: st) M := by
  obtain ⟨hx, hb, hml, hown, hts, hO⟩ := C
  unfold am_newa at h
  by_cases hcd : 0 < L ∧ L / 256 < am_nb L ∧ am_aty L = t ∧ n = am_siz L ∧ M (-1) L = 0
  · rw [if_pos hcd] at h
    cases h
    obtain ⟨g0, g1, g2, rfl, g3⟩ := hcd
    have h5 : am_aty L ≤ 5 := by omega
    have hsz := am_siz_le L
    rw [am_alloc_c.1] at hr1
    rw [am_alloc_c.2] at hr2
    intro ad al H locs ls hW hS hl hq hst
    have hst := am_tl hst
    rw [List.map_cons, am_val0]
    have en : ¬ Int32.ofInt (am_siz L : Int) < 0 := by
      rw [show (0 : Int32) = Int32.ofInt 0 from by decide, am_i32_lt ⟨by omega, by omega⟩ (by decide)]
      omega
    have eN : (Int32.ofInt (am_siz L : Int)).toNatClampNeg = am_siz L := by
      show (Int32.ofInt (am_siz L : Int)).toInt.toNat = _
      rw [am_i32_t ⟨by omega, by omega⟩]
      simp
    have hty : ∀ ad', am_cell G.2.1 ad' (am_alloc M L) L = .inl (G.2.1 t, am_siz L, .inr (.inr (.inr (.inr (fun _ => none))))) := by
      intro ad'
      rw [am_cell_a h5, g2]
      congr 3
      unfold am_arr
      rw [g2, if_neg (by omega), if_pos (by omega)]
      congr 4
      funext j
      rw [am_alloc_self g0]
      unfold am_rf
      simp
    have key : ∀ (qa : Nat) (H1 : Heap), va_P G.1 vwCl (am_ws G.2.1 ad M al ++ [(qa, .inl (G.2.1 t, am_siz L, .inr (.inr (.inr (.inr (fun _ => none))))))]) H1 → va_D (am_A G) (am_ws G.2.1 ad M al ++ [(qa, .inl (G.2.1 t, am_siz L, .inr (.inr (.inr (.inr (fun _ => none))))))]) → va_S (am_A G) s.heap H1 locs → W p l e R s m args below meth c H1 locs ((M (-2) 0 - c0).toNat + 1) ((M (-2) 1 - s0).toNat + am_siz L) Q (F0 m (pc + 3) ls (.ref qa :: st.map (am_val ad))) := by
      intro qa H1 hP hD hS1
      rw [← hty (am_adn ad L qa)] at hP hD
      exact am_new_go (len := 3) ⟨g0, g1⟩ g3 hc0 hs0 hW hl hq hst kk hP hD hS1
    have hKt := hW.2.2.1.2
    rcases ht with ⟨rfl, hw⟩ | ⟨rfl, hw⟩
    · refine va_newq hx hb hown (hts _ hw) hO.2.2.2.2.2.2.2.1 hW.2.2.1 hW.1 hW.2.1 hS (am_hA hO.2.2.2.2.2.1) en eN (by omega) (by omega) (by omega) hdg (fun qa cA H1 hK1 hP hD hS1 => ?_)
      obtain ⟨_, _, _, _, _, k1⟩ := (hKt 3 _ rfl).2
      obtain ⟨_, _, _, _, _, k2⟩ := (hK1.2 5 _ rfl).2
      have e1 : G.2.1 3 = cA := Option.some.inj (k1.symm.trans k2)
      rw [← e1] at hP hD
      exact key qa H1 hP hD hS1
    · refine va_newq hx hb hown (hts _ hw) hO.2.2.2.2.2.2.2.2 hW.2.2.1 hW.1 hW.2.1 hS (am_hA hO.2.2.2.2.2.1) en eN (by omega) (by omega) (by omega) hdg (fun qa cA H1 hK1 hP hD hS1 => ?_)
      obtain ⟨_, _, _, _, _, k1⟩ := (hKt 4 _ rfl).2
      obtain ⟨_, _, _, _, _, k2⟩ := (hK1.2 5 _ rfl).2
      have e1 : G.2.1 4 = cA := Option.some.inj (k1.symm.trans k2)
      rw [← e1] at hP hD
      exact key qa H1 hP hD hS1
  · rw [if_neg hcd] at h; cases h
/-- the root's constructor -/
theorem am_r_obj (C : am_Cx p s m args c own cc nL G) {idx : Nat} {lv : am_L} {st : List am_V} {M : am_M} {L : Int} (hL : L ≠ 0) (h1 : Cond.methodLink own idx objectInit ∈ am_tbl) (h2 : Cond.instanceMethod objectInit ∈ am_tbl) (h3 : Cond.code objectInit ⟨#[0xb1]⟩ 1 none ∈ am_tbl) (hr1 : 1 ≤ R.frames) (hr2 : st.length * 2 + 12 ≤ R.locals) (hdg : decode cc pc = .ok (.invokespecial idx, 3))
    (kk : am_Go p l e R s m args below meth c Q G nL c0 s0 (pc + 3) lv st M) : am_Go p l e R s m args below meth c Q G nL c0 s0 pc lv ((2, L) :: st) M := by
  obtain ⟨hx, hb, hml, hown, hts, hO⟩ := C
  intro ad al H locs ls hW hS hl hq hst
  have kk' := kk ad al H locs ls hW hS hl hq (am_tl hst)
  rw [List.map_cons, am_val2r ad hL]
  have hsum : ∀ (vs : List am_V), ((vs.map (am_val ad)).map fun v => v.category).sum ≤ vs.length * 2 := by
    intro vs
    induction vs with
    | nil => simp
    | cons v vs ih =>
      have := lv_cat (am_val ad v)
      simp only [List.map_cons, List.sum_cons, List.length_cons]
      omega
  refine W.objInit hx hb hown (hts _ h1) (hts _ h2) (hts _ h3) rfl (by rw [hml]; exact hl.1) rfl hdg hr1 ?_ kk'
  have := hsum st
  show 2 * 0 + _ + 12 ≤ _
  omega
theorem am_catsum (ad : Int → Nat) : ∀ (vs : List am_V), ((vs.map (am_val ad)).map fun v => v.category).sum ≤ vs.length * 2 := by
  intro vs
  induction vs with
  | nil => simp
  | cons v vs ih =>
    have := lv_cat (am_val ad v)
    simp only [List.map_cons, List.sum_cons, List.length_cons]
    omega
theorem am_r_min (C : am_Cx p s m args c own cc nL G) {idx : Nat} {lv : am_L} {st : List am_V} {M : am_M} {x y : Int} (h1 : Cond.methodLink own idx Lib.Math.min.name ∈ am_tbl) (h2 : Cond.static Lib.Math.min.name ∈ am_tbl) (h3 : Cond.initialized "java/lang/Math" ∈ am_tbl) (h4 : Cond.code Lib.Math.min.name Lib.Math.min.code 2 (some .int) ∈ am_tbl) (hr1 : 1 ≤ R.frames) (hr2 : st.length * 2 + 13 ≤ R.locals) (hr3 : M (-2) 0 - c0 ≤ R.cells) (hr4 : M (-2) 1 - s0 ≤ R.slots) (hdg : decode cc pc = .ok (.invokestatic idx, 3))
    (kk : am_Go p l e R s m args below meth c Q G nL c0 s0 (pc + 3) lv ((0, if y < x then y else x) :: st) M) : am_Go p l e R s m args below meth c Q G nL c0 s0 pc lv ((0, y) :: (0, x) :: st) M := by
  obtain ⟨hx, hb, hml, hown, hts, hO⟩ := C
  intro ad al H locs ls hW hS hl hq hst
  have hy := (am_hd hst).1 rfl
  have hxx := (am_hd (am_tl hst)).1 rfl
  have kk' := kk ad al H locs ls hW hS hl hq (am_push (am_wv0 (by split <;> assumption)) (am_tl (am_tl hst)))
  have := am_catsum ad st
  refine va_mmin hx hb (by rw [hml]; exact hl.1.symm) hown (hts _ h1) (hts _ h2) (hts _ h3) (hts _ h4) hr1 (by omega) (by omega) (by omega) hdg ?_
  have e1 := am_i32_lt hy hxx
  by_cases h : y < x
  · rw [if_pos (e1.mpr h)]; rw [if_pos h] at kk'; exact kk'
  · rw [if_neg (fun z => h (e1.mp z))]; rw [if_neg h] at kk'; exact kk'
theorem am_r_max (C : am_Cx p s m args c own cc nL G) {idx : Nat} {lv : am_L} {st : List am_V} {M : am_M} {x y : Int} (h1 : Cond.methodLink own idx Lib.Math.max.name ∈ am_tbl) (h2 : Cond.static Lib.Math.max.name ∈ am_tbl) (h3 : Cond.initialized "java/lang/Math" ∈ am_tbl) (h4 : Cond.code Lib.Math.max.name Lib.Math.max.code 2 (some .int) ∈ am_tbl) (hr1 : 1 ≤ R.frames) (hr2 : st.length * 2 + 13 ≤ R.locals) (hr3 : M (-2) 0 - c0 ≤ R.cells) (hr4 : M (-2) 1 - s0 ≤ R.slots) (hdg : decode cc pc = .ok (.invokestatic idx, 3))
    (kk : am_Go p l e R s m args below meth c Q G nL c0 s0 (pc + 3) lv ((0, if x < y then y else x) :: st) M) : am_Go p l e R s m args below meth c Q G nL c0 s0 pc lv ((0, y) :: (0, x) :: st) M := by
  obtain ⟨hx, hb, hml, hown, hts, hO⟩ := C
  intro ad al H locs ls hW hS hl hq hst
  have hy := (am_hd hst).1 rfl
  have hxx := (am_hd (am_tl hst)).1 rfl
  have kk' := kk ad al H locs ls hW hS hl hq (am_push (am_wv0 (by split <;> assumption)) (am_tl (am_tl hst)))
  have := am_catsum ad st
  refine va_mmax hx hb (by rw [hml]; exact hl.1.symm) hown (hts _ h1) (hts _ h2) (hts _ h3) (hts _ h4) hr1 (by omega) (by omega) (by omega) hdg ?_
  have e1 := am_i32_lt hxx hy
  by_cases h : x < y
  · rw [if_pos (e1.mpr h)]; rw [if_pos h] at kk'; exact kk'
  · rw [if_neg (fun z => h (e1.mp z))]; rw [if_neg h] at kk'; exact kk'
/-- arraycopy of longs -/
theorem am_r_copy (C : am_Cx p s m args c own cc nL G) {idx : Nat} {lv : am_L} {st : List am_V} {M M' : am_M} {a sp b dp n : Int} (h : am_copy M a sp b dp n = some M') (h1 : Cond.methodLink own idx arraycopyName ∈ am_tbl) (h2 : Cond.native arraycopyName ∈ am_tbl) (h3 : Cond.static arraycopyName ∈ am_tbl) (h4 : Cond.initialized "java/lang/System" ∈ am_tbl) (hr1 : 1 ≤ R.frames) (hr2 : st.length * 2 + (nativeFrameWords "java/lang/System" "arraycopy" 5 + 11) ≤ R.locals) (hdg : decode cc pc = .ok (.invokestatic idx, 3))
    (kk : am_Go p l e R s m args below meth c Q G nL c0 s0 (pc + 3) lv st M') : am_Go p l e R s m args below meth c Q G nL c0 s0 pc lv ((0, n) :: (0, dp) :: (2, b) :: (0, sp) :: (2, a) :: st) M := by
  obtain ⟨hx, hb, hml, hown, hts, hO⟩ := C
  unfold am_copy at h
  by_cases hcd : 0 < a ∧ 0 < b ∧ am_aty a = 1 ∧ am_aty b = 1 ∧ 0 ≤ sp ∧ 0 ≤ dp ∧ 0 ≤ n ∧ sp + n ≤ am_len M a ∧ dp + n ≤ am_len M b
  · rw [if_pos hcd] at h
    cases h
    obtain ⟨ha0, hb0, hta, htb, hsp, hdp, hn, hla, hlb⟩ := hcd
    intro ad al H locs ls hW hS hl hq hst
    have hala := am_in_al (am_hd (am_tl (am_tl (am_tl (am_tl hst))))) ha0 (by omega)
    have halb := am_in_al (am_hd (am_tl (am_tl hst))) hb0 (by omega)
    obtain ⟨qa, hqa, hata⟩ := am_ws_at (cA := G.2.1) (ad := ad) (M := M) hala
    obtain ⟨qb, hqb, hatb⟩ := am_ws_at (cA := G.2.1) (ad := ad) (M := M) halb
    have harr : ∀ (M : am_M) (L : Int), am_aty L = 1 → am_arr ad M L = .inr (.inl (fun j => Int64.ofInt (M L j))) := fun M L h => by unfold am_arr; rw [if_pos h]
    rw [am_cell_a (by omega), harr M a hta, hta] at hata
    rw [am_cell_a (by omega), harr M b htb, htb] at hatb
    rw [am_len_siz (am_al_n1 hW.2.2.2.1 hala)] at hla
    rw [am_len_siz (am_al_n1 hW.2.2.2.1 halb)] at hlb
    have sa := am_siz_le a
    have sb := am_siz_le b
    have cl : ∀ z : Int, 0 ≤ z → z ≤ 44000 → ¬ Int32.ofInt z < 0 ∧ (Int32.ofInt z).toNatClampNeg = z.toNat := by
      intro z h0 h1
      refine ⟨?_, ?_⟩
      · rw [show (0 : Int32) = Int32.ofInt 0 from by decide, am_i32_lt ⟨by omega, by omega⟩ (by decide)]
        omega
      · show (Int32.ofInt z).toInt.toNat = _
        rw [am_i32_t ⟨by omega, by omega⟩]
    obtain ⟨p1, p2⟩ := cl sp hsp (by omega)
    obtain ⟨d1, d2⟩ := cl dp hdp (by omega)
    obtain ⟨n1, n2⟩ := cl n hn (by omega)
    have hr : ∀ L', L' ≠ b → am_cpy M a sp b dp n L' = M L' := fun L' h => by
      funext i
      unfold am_cpy
      rw [if_neg (fun z => h z.1)]
    have htagA : ∀ j, am_tag a j = 1 := fun j => by rw [am_atag (by omega), if_pos hta]
    have htagB : ∀ j, am_tag b j = 1 := fun j => by rw [am_atag (by omega), if_pos htb]
    have hv : ∀ j : Nat, j < am_siz b → am_wv al (am_tag b j, am_cpy M a sp b dp n b j) := by
      intro j hj
      unfold am_cpy
      by_cases hc : b = b ∧ dp ≤ (j : Int) ∧ (j : Int) < dp + n
      · rw [if_pos hc]
        have h2 := hW.2.2.2.1.2.2.1 a hala (sp + (j - dp)).toNat (by omega)
        rw [Int.toNat_of_nonneg (by omega)] at h2
        rw [htagB]
        rw [htagA] at h2
        exact h2
      · rw [if_neg hc]
        exact hW.2.2.2.1.2.2.1 b halb j hj
    have hm2 := am_m2 hb0 hr
    have := am_catsum ad st
    simp only [List.map_cons]
    rw [am_val2r ad (x := a) (by omega), am_val2r ad (x := b) (by omega)]
    refine va_copyl hx hb (by rw [hml]; exact hl.1.symm) hown (hts _ h1) (hts _ h2) (hts _ h3) (hts _ h4) hW.2.2.1 hW.1 hW.2.1 hS qa qb 1 1 hata hatb rfl rfl rfl (sp := Int32.ofInt sp) (dp := Int32.ofInt dp) (n := Int32.ofInt n) p1 d1 n1 (by rw [p2, n2]; omega) (by rw [d2, n2]; omega) (fun _ _ => rfl) hr1 (by omega) hdg (fun H1 locs1 hP hD hS1 => ?_)
    have kk' := kk ad al H1 locs1 ls (am_Wd_row hW hqb hr hv (by
      rw [am_cell_a (by omega), harr _ b htb, htb]
      congr 5
      funext j
      rw [p2, d2, n2]
      unfold va_cpy am_cpy
      by_cases hc : dp.toNat ≤ j ∧ j < dp.toNat + n.toNat
      · rw [if_pos hc, if_pos ⟨rfl, by omega, by omega⟩]
        have ej : ((sp.toNat + (j - dp.toNat) : Nat) : Int) = sp + ((j : Int) - dp) := by omega
        exact congrArg (fun z => Int64.ofInt (M a z)) ej
      · rw [if_neg hc, if_neg (by omega)]) hP hD) hS1 hl hq (am_tl (am_tl (am_tl (am_tl (am_tl hst)))))
    rw [hm2] at kk'
    exact kk'
  · rw [if_neg hcd] at h; cases h
end AMR6
