section AMR2
variable {p : Program} {l : Launch} {e : Env} {R : Room} {s : State} {m : MethodId} {args : Array Value} {below : List Frame} {meth : Method} {c : Code} {Q : State → Prop} {G : am_Gt} {cc : ByteArray} {nL pc : Nat} {c0 s0 : Int} {own : String}
/-- a constant, or what else comes onto the stack with nothing taken -/
theorem am_r_cint (C : am_Cx p s m args c own cc nL G) {i : Instr} {len : Nat} {x : Int} {lv : am_L} {st : List am_V} {M : am_M} (hi : (i = .iconst x ∧ len = 1 ∧ -128 ≤ x ∧ x ≤ 127) ∨ (i = .bipush x ∧ len = 2 ∧ -128 ≤ x ∧ x ≤ 127) ∨ (i = .sipush x ∧ len = 3 ∧ -32768 ≤ x ∧ x ≤ 32767) ∨ (∃ idx, i = .ldc idx ∧ len = 2 ∧ Cond.constant own idx (Int32.ofInt x) ∈ am_tbl ∧ am_r32 x) ∨ (∃ idx, i = .ldc_w idx ∧ len = 3 ∧ Cond.constant own idx (Int32.ofInt x) ∈ am_tbl ∧ am_r32 x)) (hdg : decode cc pc = .ok (i, len))
    (kk : am_Go p l e R s m args below meth c Q G nL c0 s0 (pc + len) lv ((0, x) :: st) M) : am_Go p l e R s m args below meth c Q G nL c0 s0 pc lv st M := by
  obtain ⟨hx, hb, hml, hown, hts, hO⟩ := C
  have hr : am_r32 x := by
    rcases hi with ⟨-, -, h1, h2⟩ | ⟨-, -, h1, h2⟩ | ⟨-, -, h1, h2⟩ | ⟨_, -, -, -, h⟩ | ⟨_, -, -, -, h⟩
    · exact ⟨by omega, by omega⟩
    · exact ⟨by omega, by omega⟩
    · exact ⟨by omega, by omega⟩
    · exact h
    · exact h
  intro ad al H locs ls hW hS hl hq hst
  have kk' := kk ad al H locs ls hW hS hl hq (am_push (am_wv0 hr) hst)
  rw [List.map_cons, am_val0] at kk'
  rcases hi with ⟨rfl, rfl, h1, h2⟩ | ⟨rfl, rfl, h1, h2⟩ | ⟨rfl, rfl, h1, h2⟩ | ⟨idx, rfl, rfl, hw, -⟩ | ⟨idx, rfl, rfl, hw, -⟩
  · exact lv_iconst hx hb hdg rfl kk'
  · refine lv_bipush hx hb hdg ?_ kk'
    apply Int32.toInt_inj.mp
    rw [am_i32_t hr, Int8.toInt_toInt32, Int8.toInt_ofInt_of_le (by omega) (by omega)]
  · refine lv_sipush hx hb hdg ?_ kk'
    apply Int32.toInt_inj.mp
    rw [am_i32_t hr, Int16.toInt_toInt32, Int16.toInt_ofInt_of_le (by omega) (by omega)]
  · exact lv_ldc hx hb hown (hts _ hw) hdg kk'
  · exact lv_ldcw hx hb hown (hts _ hw) hdg kk'
theorem am_r_clong (C : am_Cx p s m args c own cc nL G) {i : Instr} {len : Nat} {x : Int} {lv : am_L} {st : List am_V} {M : am_M} (hi : (∃ n : Fin 2, i = .lconst n ∧ len = 1 ∧ x = (n.val : Int)) ∨ (∃ idx, i = .ldc2_w idx ∧ len = 3 ∧ Cond.constantLong own idx (Int64.ofInt x) ∈ am_tbl ∧ am_r64 x)) (hdg : decode cc pc = .ok (i, len))
    (kk : am_Go p l e R s m args below meth c Q G nL c0 s0 (pc + len) lv ((1, x) :: st) M) : am_Go p l e R s m args below meth c Q G nL c0 s0 pc lv st M := by
  obtain ⟨hx, hb, hml, hown, hts, hO⟩ := C
  have hr : am_r64 x := by
    rcases hi with ⟨n, -, -, rfl⟩ | ⟨_, -, -, -, h⟩
    · have := n.isLt
      exact ⟨by omega, by omega⟩
    · exact h
  intro ad al H locs ls hW hS hl hq hst
  have kk' := kk ad al H locs ls hW hS hl hq (am_push (am_wv1 hr) hst)
  rw [List.map_cons, am_val1] at kk'
  rcases hi with ⟨n, rfl, rfl, rfl⟩ | ⟨idx, rfl, rfl, hw, -⟩
  · exact lv_lconst hx hb hdg (by rw [Int64.ofInt_eq_ofNat]) kk'
  · exact lv_ldc2 hx hb hown (hts _ hw) hdg kk'
theorem am_r_null (C : am_Cx p s m args c own cc nL G) {lv : am_L} {st : List am_V} {M : am_M} (hdg : decode cc pc = .ok (.aconst_null, 1))
    (kk : am_Go p l e R s m args below meth c Q G nL c0 s0 (pc + 1) lv ((2, 0) :: st) M) : am_Go p l e R s m args below meth c Q G nL c0 s0 pc lv st M := by
  obtain ⟨hx, hb, hml, hown, hts, hO⟩ := C
  intro ad al H locs ls hW hS hl hq hst
  have kk' := kk ad al H locs ls hW hS hl hq (am_push ⟨(fun h => nomatch h), (fun h => nomatch h), fun _ => Or.inl rfl⟩ hst)
  exact lv_null hx hb hdg kk'
theorem am_r_dup (C : am_Cx p s m args c own cc nL G) {lv : am_L} {v : am_V} {st : List am_V} {M : am_M} (hv : v.1 ≠ 1) (hdg : decode cc pc = .ok (.dup, 1))
    (kk : am_Go p l e R s m args below meth c Q G nL c0 s0 (pc + 1) lv (v :: v :: st) M) : am_Go p l e R s m args below meth c Q G nL c0 s0 pc lv (v :: st) M := by
  obtain ⟨hx, hb, hml, hown, hts, hO⟩ := C
  intro ad al H locs ls hW hS hl hq hst
  have kk' := kk ad al H locs ls hW hS hl hq (am_push (am_hd hst) hst)
  exact lv_dup hx hb hdg (am_val_cat1 ad hv) kk'
theorem am_r_dup2 (C : am_Cx p s m args c own cc nL G) {lv : am_L} {v w : am_V} {st : List am_V} {M : am_M} (hv : v.1 ≠ 1) (hw : w.1 ≠ 1) (hdg : decode cc pc = .ok (.dup2, 1))
    (kk : am_Go p l e R s m args below meth c Q G nL c0 s0 (pc + 1) lv (v :: w :: v :: w :: st) M) : am_Go p l e R s m args below meth c Q G nL c0 s0 pc lv (v :: w :: st) M := by
  obtain ⟨hx, hb, hml, hown, hts, hO⟩ := C
  intro ad al H locs ls hW hS hl hq hst
  have kk' := kk ad al H locs ls hW hS hl hq (am_push (am_hd hst) (am_push (am_hd (am_tl hst)) hst))
  exact lv_dup2_11 hx hb hdg (am_val_cat1 ad hv) (am_val_cat1 ad hw) kk'
theorem am_r_pop (C : am_Cx p s m args c own cc nL G) {lv : am_L} {v : am_V} {st : List am_V} {M : am_M} (hv : v.1 ≠ 1) (hdg : decode cc pc = .ok (.pop, 1))
    (kk : am_Go p l e R s m args below meth c Q G nL c0 s0 (pc + 1) lv st M) : am_Go p l e R s m args below meth c Q G nL c0 s0 pc lv (v :: st) M := by
  obtain ⟨hx, hb, hml, hown, hts, hO⟩ := C
  intro ad al H locs ls hW hS hl hq hst
  have kk' := kk ad al H locs ls hW hS hl hq (am_tl hst)
  exact lv_pop hx hb hdg (am_val_cat1 ad hv) kk'
theorem am_lk_at {k : Nat} {v : am_V} {lv : am_L} (ad : Int → Nat) (h : am_lk k lv = some v) : ∃ j : Nat, (am_lv ad lv)[j]? = some (k, am_val ad v) := by
  obtain ⟨j, hj⟩ := List.getElem?_of_mem (am_lk_mem h)
  exact ⟨j, by unfold am_lv; rw [List.getElem?_map, hj]; rfl⟩
theorem am_r_iinc (C : am_Cx p s m args c own cc nL G) {k : Nat} {n x : Int} {lv : am_L} {st : List am_V} {M : am_M} (hk : k < nL) (h : am_lk k lv = some (0, x)) (hdg : decode cc pc = .ok (.iinc k n, 3))
    (kk : am_Go p l e R s m args below meth c Q G nL c0 s0 (pc + 3) (am_st1 k (0, am_w32 (x + n)) lv) st M) : am_Go p l e R s m args below meth c Q G nL c0 s0 pc lv st M := by
  obtain ⟨hx, hb, hml, hown, hts, hO⟩ := C
  intro ad al H locs ls hW hS hl hq hst
  have kk' := fun ls' hl' => kk ad al H locs ls' hW hS hl' (am_q1 (am_wv0 (am_w32_r _)) hq) hst
  obtain ⟨j, hj⟩ := am_lk_at ad h
  exact lv_iinc (v := Int32.ofInt (am_w32 (x + n))) hx hb hdg hl hj (by rw [am_i32_w, Int32.ofInt_add]) hk (am_st1_lv ad k (0, am_w32 (x + n)) lv) kk'
/-- what takes two ints and gives one -/
theorem am_r_b0 (C : am_Cx p s m args c own cc nL G) {i : Instr} {x y z : Int} {lv : am_L} {st : List am_V} {M : am_M} (hr : am_r32 x → am_r32 y → am_r32 z)
    (hi : am_r32 x → am_r32 y → ∀ (H : Heap) (locs : List Loc) (cells slots : Nat) (ls : Array Slot) (rest : List Value), W p l e R s m args below meth c H locs cells slots Q (F0 m (pc + 1) ls (.int (Int32.ofInt z) :: rest)) → W p l e R s m args below meth c H locs cells slots Q (F0 m pc ls (.int (Int32.ofInt y) :: .int (Int32.ofInt x) :: rest)))
    (kk : am_Go p l e R s m args below meth c Q G nL c0 s0 (pc + 1) lv ((0, z) :: st) M) : am_Go p l e R s m args below meth c Q G nL c0 s0 pc lv ((0, y) :: (0, x) :: st) M := by
  intro ad al H locs ls hW hS hl hq hst
  have hy := (am_hd hst).1 rfl
  have hx := (am_hd (am_tl hst)).1 rfl
  have kk' := kk ad al H locs ls hW hS hl hq (am_push (am_wv0 (hr hx hy)) (am_tl (am_tl hst)))
  exact hi hx hy _ _ _ _ _ _ kk'
theorem am_r_b1 (C : am_Cx p s m args c own cc nL G) {i : Instr} {x y z : Int} {lv : am_L} {st : List am_V} {M : am_M} (hr : am_r64 x → am_r64 y → am_r64 z)
    (hi : am_r64 x → am_r64 y → ∀ (H : Heap) (locs : List Loc) (cells slots : Nat) (ls : Array Slot) (rest : List Value), W p l e R s m args below meth c H locs cells slots Q (F0 m (pc + 1) ls (.long (Int64.ofInt z) :: rest)) → W p l e R s m args below meth c H locs cells slots Q (F0 m pc ls (.long (Int64.ofInt y) :: .long (Int64.ofInt x) :: rest)))
    (kk : am_Go p l e R s m args below meth c Q G nL c0 s0 (pc + 1) lv ((1, z) :: st) M) : am_Go p l e R s m args below meth c Q G nL c0 s0 pc lv ((1, y) :: (1, x) :: st) M := by
  intro ad al H locs ls hW hS hl hq hst
  have hy := (am_hd hst).2.1 rfl
  have hx := (am_hd (am_tl hst)).2.1 rfl
  have kk' := kk ad al H locs ls hW hS hl hq (am_push (am_wv1 (hr hx hy)) (am_tl (am_tl hst)))
  exact hi hx hy _ _ _ _ _ _ kk'
theorem am_b0_inv {f : Int → Int → Option Int} {lv : am_L} {st : List am_V} {M : am_M} {r : am_S} (h : am_b0 f lv st M = some r) : ∃ (x y z : Int) (rest : List am_V), st = (0, y) :: (0, x) :: rest ∧ f x y = some z ∧ r = (lv, (0, z) :: rest, M) := by
  unfold am_b0 at h
  split at h
  · rename_i y x rest
    cases hf : f x y with
    | none => rw [hf] at h; cases h
    | some z => rw [hf] at h; exact ⟨x, y, z, rest, rfl, hf, (Option.some.inj h).symm⟩
  · cases h
theorem am_b1_inv {f : Int → Int → Option Int} {lv : am_L} {st : List am_V} {M : am_M} {r : am_S} (h : am_b1 f lv st M = some r) : ∃ (x y z : Int) (rest : List am_V), st = (1, y) :: (1, x) :: rest ∧ f x y = some z ∧ r = (lv, (1, z) :: rest, M) := by
  unfold am_b1 at h
  split at h
  · rename_i y x rest
    cases hf : f x y with
    | none => rw [hf] at h; cases h
    | some z => rw [hf] at h; exact ⟨x, y, z, rest, rfl, hf, (Option.some.inj h).symm⟩
  · cases h
/-- the instructions of arithmetic on ints -/
theorem am_r_arith0 (C : am_Cx p s m args c own cc nL G) {i : Instr} {xs : List Int} {lv : am_L} {st : List am_V} {M : am_M} {r : am_S} (hi : i = .iadd ∨ i = .isub ∨ i = .imul ∨ i = .irem ∨ i = .iand ∨ i = .ior ∨ i = .ishl ∨ i = .iushr) (hdg : decode cc pc = .ok (i, 1)) (h : am_s1 i xs lv st M = some r)
    (kk : am_Go p l e R s m args below meth c Q G nL c0 s0 (pc + 1) r.1 r.2.1 r.2.2) : am_Go p l e R s m args below meth c Q G nL c0 s0 pc lv st M := by
  have C' := C
  obtain ⟨hx, hb, hml, hown, hts, hO⟩ := C
  rcases hi with rfl | rfl | rfl | rfl | rfl | rfl | rfl | rfl
  · obtain ⟨x, y, z, rest, rfl, hf, rfl⟩ := am_b0_inv h
    cases hf
    refine am_r_b0 (i := .iadd) C' (fun _ _ => am_w32_r _) (fun _ _ H locs ce sl ls rs k => ?_) kk
    exact lv_iadd hx hb hdg (by rw [← Int32.ofInt_add, ← am_i32_w]; exact k)
  · obtain ⟨x, y, z, rest, rfl, hf, rfl⟩ := am_b0_inv h
    cases hf
    refine am_r_b0 (i := .isub) C' (fun _ _ => am_w32_r _) (fun _ _ H locs ce sl ls rs k => ?_) kk
    exact lv_isub hx hb hdg (by rw [← Int32.ofInt_sub, ← am_i32_w]; exact k)
  · obtain ⟨x, y, z, rest, rfl, hf, rfl⟩ := am_b0_inv h
    cases hf
    refine am_r_b0 (i := .imul) C' (fun _ _ => am_w32_r _) (fun _ _ H locs ce sl ls rs k => ?_) kk
    exact lv_imul hx hb hdg (by rw [← Int32.ofInt_mul, ← am_i32_w]; exact k)
  · obtain ⟨x, y, z, rest, rfl, hf, rfl⟩ := am_b0_inv h
    unfold am_irem at hf
    by_cases hy0 : y = 0
    · rw [if_pos hy0] at hf; cases hf
    · rw [if_neg hy0] at hf
      cases hf
      refine am_r_b0 (i := .irem) C' am_irem_r (fun h1 h2 H locs ce sl ls rs k => ?_) kk
      exact lv_irem hx hb hdg (fun q => hy0 ((am_i32_inj h2 (by decide)).mp (q.trans (by decide : (0 : Int32) = Int32.ofInt 0)))) (by rw [am_irem_i h1 h2]; exact k)
  · obtain ⟨x, y, z, rest, rfl, hf, rfl⟩ := am_b0_inv h
    cases hf
    refine am_r_b0 (i := .iand) C' (fun _ _ => am_t32_r _) (fun _ _ H locs ce sl ls rs k => ?_) kk
    exact lv_iand hx hb hdg (by rw [Int32.ofInt_toInt] at k; exact k)
  · obtain ⟨x, y, z, rest, rfl, hf, rfl⟩ := am_b0_inv h
    cases hf
    refine am_r_b0 (i := .ior) C' (fun _ _ => am_t32_r _) (fun _ _ H locs ce sl ls rs k => ?_) kk
    exact lv_ior hx hb hdg (by rw [Int32.ofInt_toInt] at k; exact k)
  · obtain ⟨x, y, z, rest, rfl, hf, rfl⟩ := am_b0_inv h
    cases hf
    refine am_r_b0 (i := .ishl) C' (fun _ _ => am_t32_r _) (fun _ _ H locs ce sl ls rs k => ?_) kk
    exact lv_ishl hx hb hdg (by rw [Int32.ofInt_toInt] at k; exact k)
  · obtain ⟨x, y, z, rest, rfl, hf, rfl⟩ := am_b0_inv h
    cases hf
    refine am_r_b0 (i := .iushr) C' (fun _ _ => am_t32_r _) (fun _ _ H locs ce sl ls rs k => ?_) kk
    exact lv_iushr hx hb hdg (v := Int32.ofInt (am_ushr x y)) (by unfold am_ushr; rw [Int32.ofInt_toInt]) k
theorem am_r_arith1 (C : am_Cx p s m args c own cc nL G) {i : Instr} {xs : List Int} {lv : am_L} {st : List am_V} {M : am_M} {r : am_S} (hi : i = .ladd ∨ i = .lmul ∨ i = .ldiv ∨ i = .lrem ∨ i = .land ∨ i = .lor) (hdg : decode cc pc = .ok (i, 1)) (h : am_s1 i xs lv st M = some r)
    (kk : am_Go p l e R s m args below meth c Q G nL c0 s0 (pc + 1) r.1 r.2.1 r.2.2) : am_Go p l e R s m args below meth c Q G nL c0 s0 pc lv st M := by
  have C' := C
  obtain ⟨hx, hb, hml, hown, hts, hO⟩ := C
  rcases hi with rfl | rfl | rfl | rfl | rfl | rfl
  · obtain ⟨x, y, z, rest, rfl, hf, rfl⟩ := am_b1_inv h
    cases hf
    refine am_r_b1 (i := .ladd) C' (fun _ _ => am_w64_r _) (fun _ _ H locs ce sl ls rs k => ?_) kk
    exact lv_ladd hx hb hdg (by rw [← Int64.ofInt_add, ← am_i64_w]; exact k)
  · obtain ⟨x, y, z, rest, rfl, hf, rfl⟩ := am_b1_inv h
    cases hf
    refine am_r_b1 (i := .lmul) C' (fun _ _ => am_w64_r _) (fun _ _ H locs ce sl ls rs k => ?_) kk
    exact lv_lmul hx hb hdg (by rw [← Int64.ofInt_mul, ← am_i64_w]; exact k)
  · obtain ⟨x, y, z, rest, rfl, hf, rfl⟩ := am_b1_inv h
    unfold am_ldiv at hf
    by_cases hy0 : y = 0
    · rw [if_pos hy0] at hf; cases hf
    · rw [if_neg hy0] at hf
      cases hf
      refine am_r_b1 (i := .ldiv) C' (fun _ _ => am_w64_r _) (fun h1 h2 H locs ce sl ls rs k => ?_) kk
      exact lv_ldiv hx hb hdg (fun q => hy0 ((am_i64_inj h2 (by decide)).mp (q.trans (by decide : (0 : Int64) = Int64.ofInt 0)))) (by rw [am_ldiv_i h1 h2]; exact k)
  · obtain ⟨x, y, z, rest, rfl, hf, rfl⟩ := am_b1_inv h
    unfold am_lrem at hf
    by_cases hy0 : y = 0
    · rw [if_pos hy0] at hf; cases hf
    · rw [if_neg hy0] at hf
      cases hf
      refine am_r_b1 (i := .lrem) C' am_lrem_r (fun h1 h2 H locs ce sl ls rs k => ?_) kk
      exact lv_lrem hx hb hdg (fun q => hy0 ((am_i64_inj h2 (by decide)).mp (q.trans (by decide : (0 : Int64) = Int64.ofInt 0)))) (by rw [am_lrem_i h1 h2]; exact k)
  · obtain ⟨x, y, z, rest, rfl, hf, rfl⟩ := am_b1_inv h
    cases hf
    refine am_r_b1 (i := .land) C' (fun _ _ => am_t64_r _) (fun _ _ H locs ce sl ls rs k => ?_) kk
    exact lv_land hx hb hdg (by rw [Int64.ofInt_toInt] at k; exact k)
  · obtain ⟨x, y, z, rest, rfl, hf, rfl⟩ := am_b1_inv h
    cases hf
    refine am_r_b1 (i := .lor) C' (fun _ _ => am_t64_r _) (fun _ _ H locs ce sl ls rs k => ?_) kk
    exact lv_lor hx hb hdg (by rw [Int64.ofInt_toInt] at k; exact k)
theorem am_r_lshl (C : am_Cx p s m args c own cc nL G) {x y : Int} {lv : am_L} {st : List am_V} {M : am_M} (hdg : decode cc pc = .ok (.lshl, 1))
    (kk : am_Go p l e R s m args below meth c Q G nL c0 s0 (pc + 1) lv ((1, am_lshl x y) :: st) M) : am_Go p l e R s m args below meth c Q G nL c0 s0 pc lv ((0, y) :: (1, x) :: st) M := by
  obtain ⟨hx, hb, hml, hown, hts, hO⟩ := C
  intro ad al H locs ls hW hS hl hq hst
  have kk' := kk ad al H locs ls hW hS hl hq (am_push (am_wv1 (am_t64_r _)) (am_tl (am_tl hst)))
  exact lv_lshl hx hb hdg (v := Int64.ofInt (am_lshl x y)) (by unfold am_lshl; rw [Int64.ofInt_toInt]) kk'
theorem am_r_lcmp (C : am_Cx p s m args c own cc nL G) {x y : Int} {lv : am_L} {st : List am_V} {M : am_M} (hdg : decode cc pc = .ok (.lcmp, 1))
    (kk : am_Go p l e R s m args below meth c Q G nL c0 s0 (pc + 1) lv ((0, am_lcmp x y) :: st) M) : am_Go p l e R s m args below meth c Q G nL c0 s0 pc lv ((1, y) :: (1, x) :: st) M := by
  obtain ⟨hx, hb, hml, hown, hts, hO⟩ := C
  intro ad al H locs ls hW hS hl hq hst
  have hy := (am_hd hst).2.1 rfl
  have hxx := (am_hd (am_tl hst)).2.1 rfl
  have kk' := kk ad al H locs ls hW hS hl hq (am_push (am_wv0 (am_lcmp_r _ _)) (am_tl (am_tl hst)))
  exact W.lcmp hx hb hdg (by rw [am_lcmp_i hxx hy]; exact kk')
theorem am_r_i2l (C : am_Cx p s m args c own cc nL G) {x : Int} {lv : am_L} {st : List am_V} {M : am_M} (hdg : decode cc pc = .ok (.i2l, 1))
    (kk : am_Go p l e R s m args below meth c Q G nL c0 s0 (pc + 1) lv ((1, x) :: st) M) : am_Go p l e R s m args below meth c Q G nL c0 s0 pc lv ((0, x) :: st) M := by
  obtain ⟨hx, hb, hml, hown, hts, hO⟩ := C
  intro ad al H locs ls hW hS hl hq hst
  have hxx := (am_hd hst).1 rfl
  have h64 : am_r64 x := ⟨Int.le_trans (by decide) hxx.1, Int.lt_trans hxx.2 (by decide)⟩
  have kk' := kk ad al H locs ls hW hS hl hq (am_push (am_wv1 h64) (am_tl hst))
  refine lv_i2l hx hb hdg (v := Int64.ofInt x) ?_ kk'
  apply Int64.toInt_inj.mp
  rw [Int32.toInt_toInt64, am_i64_t h64, am_i32_t hxx]
theorem am_r_l2i (C : am_Cx p s m args c own cc nL G) {x : Int} {lv : am_L} {st : List am_V} {M : am_M} (hdg : decode cc pc = .ok (.l2i, 1))
    (kk : am_Go p l e R s m args below meth c Q G nL c0 s0 (pc + 1) lv ((0, am_w32 x) :: st) M) : am_Go p l e R s m args below meth c Q G nL c0 s0 pc lv ((1, x) :: st) M := by
  obtain ⟨hx, hb, hml, hown, hts, hO⟩ := C
  intro ad al H locs ls hW hS hl hq hst
  have kk' := kk ad al H locs ls hW hS hl hq (am_push (am_wv0 (am_w32_r x)) (am_tl hst))
  exact lv_l2i hx hb hdg (v := Int32.ofInt (am_w32 x)) (by rw [am_i32_w, Int64.toInt32_ofInt]) kk'
end AMR2
