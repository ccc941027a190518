section AMR8
variable {p : Program} {l : Launch} {e : Env} {R : Room} {s : State} {m : MethodId} {args : Array Value} {below : List Frame} {meth : Method} {c : Code} {Q : State → Prop} {G : am_Gt} {cc : ByteArray} {nL pc : Nat} {c0 s0 : Int} {own : String} {ini : Bool}
/-- one instruction that goes on -/
theorem am_s1_go (C : am_Cx p s m args c own cc nL G) (hini : ini = true → meth.name = "<init>") {i : Instr} {xs : List Int} {lv : am_L} {st : List am_V} {M : am_M} {r : am_S} (hok : am_okb own nL ini i xs = true) (hdg : decode cc pc = .ok (i, am_il i)) (h : am_s1 i xs lv st M = some r) (hR : am_Rm R c0 s0 i M r.2.2)
    (kk : am_Go p l e R s m args below meth c Q G nL c0 s0 (pc + am_il i) r.1 r.2.1 r.2.2) : am_Go p l e R s m args below meth c Q G nL c0 s0 pc lv st M := by
  cases i with
  | iload_n k => exact am_r_int C (Or.inl ⟨k.isLt, rfl, rfl⟩) hdg h kk
  | iload k => exact am_r_int C (Or.inr ⟨rfl, rfl⟩) hdg h kk
  | lload_n k => exact am_r_long C (Or.inl ⟨k.isLt, rfl, rfl⟩) hdg h kk
  | lload k => exact am_r_long C (Or.inr ⟨rfl, rfl⟩) hdg h kk
  | aload_n k => exact am_r_ref C (Or.inl ⟨k.isLt, rfl, rfl⟩) hdg h kk
  | aload k => exact am_r_ref C (Or.inr ⟨rfl, rfl⟩) hdg h kk
  | istore_n k => exact am_s_int C (Or.inl ⟨k.isLt, rfl, rfl⟩) (of_decide_eq_true hok) hdg h kk
  | istore k => exact am_s_int C (Or.inr ⟨rfl, rfl⟩) (of_decide_eq_true hok) hdg h kk
  | lstore_n k => exact am_s_long C (Or.inl ⟨k.isLt, rfl, rfl⟩) (of_decide_eq_true hok) hdg h kk
  | lstore k => exact am_s_long C (Or.inr ⟨rfl, rfl⟩) (of_decide_eq_true hok) hdg h kk
  | astore_n k => exact am_s_ref C (Or.inl ⟨k.isLt, rfl, rfl⟩) (of_decide_eq_true hok) hdg h kk
  | astore k => exact am_s_ref C (Or.inr ⟨rfl, rfl⟩) (of_decide_eq_true hok) hdg h kk
  | iconst n =>
    cases h
    have hok : (decide (-128 ≤ n) && decide (n ≤ 127)) = true := hok
    simp only [Bool.and_eq_true, decide_eq_true_eq] at hok
    exact am_r_cint C (Or.inl ⟨rfl, rfl, hok.1, hok.2⟩) hdg kk
  | bipush n =>
    cases h
    have hok : (decide (-128 ≤ n) && decide (n ≤ 127)) = true := hok
    simp only [Bool.and_eq_true, decide_eq_true_eq] at hok
    exact am_r_cint C (Or.inr (Or.inl ⟨rfl, rfl, hok.1, hok.2⟩)) hdg kk
  | sipush n =>
    cases h
    have hok : (decide (-32768 ≤ n) && decide (n ≤ 32767)) = true := hok
    simp only [Bool.and_eq_true, decide_eq_true_eq] at hok
    exact am_r_cint C (Or.inr (Or.inr (Or.inl ⟨rfl, rfl, hok.1, hok.2⟩))) hdg kk
  | ldc idx =>
    match xs, h, hok with
    | [], h, _ => cases h
    | [_], _, hok => cases hok
    | v :: ps :: xs', h, hok =>
      cases h
      have hok : (am_w ps (.constant own idx (Int32.ofInt v)) && decide (am_r32 v)) = true := hok
      simp only [Bool.and_eq_true, decide_eq_true_eq] at hok
      exact am_r_cint C (Or.inr (Or.inr (Or.inr (Or.inl ⟨idx, rfl, rfl, am_w_in hok.1, hok.2⟩)))) hdg kk
  | ldc_w idx =>
    match xs, h, hok with
    | [], h, _ => cases h
    | [_], _, hok => cases hok
    | v :: ps :: xs', h, hok =>
      cases h
      have hok : (am_w ps (.constant own idx (Int32.ofInt v)) && decide (am_r32 v)) = true := hok
      simp only [Bool.and_eq_true, decide_eq_true_eq] at hok
      exact am_r_cint C (Or.inr (Or.inr (Or.inr (Or.inr ⟨idx, rfl, rfl, am_w_in hok.1, hok.2⟩)))) hdg kk
  | dup2 =>
    match st, h with
    | v :: w :: rest, h =>
      have h : (bif Nat.beq v.1 1 || Nat.beq w.1 1 then none else some (lv, v :: w :: v :: w :: rest, M)) = some r := h
      cases hb : Nat.beq v.1 1 || Nat.beq w.1 1 with
      | true => rw [hb] at h; cases h
      | false =>
        rw [hb] at h
        cases h
        rw [Bool.or_eq_false_iff] at hb
        exact am_r_dup2 C (Nat.ne_of_beq_eq_false hb.1) (Nat.ne_of_beq_eq_false hb.2) hdg kk
  | ldc2_w idx =>
    match xs, h, hok with
    | [], h, _ => cases h
    | [_], _, hok => cases hok
    | v :: ps :: xs', h, hok =>
      cases h
      have hok : (am_w ps (.constantLong own idx (Int64.ofInt v)) && decide (am_r64 v)) = true := hok
      simp only [Bool.and_eq_true, decide_eq_true_eq] at hok
      exact am_r_clong C (Or.inr ⟨idx, rfl, rfl, am_w_in hok.1, hok.2⟩) hdg kk
  | lconst n => cases h; exact am_r_clong C (Or.inl ⟨n, rfl, rfl, rfl⟩) hdg kk
  | aconst_null => cases h; exact am_r_null C hdg kk
  | dup =>
    match st, h with
    | [], h => cases h
    | v :: rest, h =>
      have h : (bif Nat.beq v.1 1 then none else some (lv, v :: v :: rest, M)) = some r := h
      cases hb : Nat.beq v.1 1 with
      | true => rw [hb] at h; cases h
      | false => rw [hb] at h; cases h; exact am_r_dup C (Nat.ne_of_beq_eq_false hb) hdg kk
  | pop =>
    match st, h with
    | [], h => cases h
    | v :: rest, h =>
      have h : (bif Nat.beq v.1 1 then none else some (lv, rest, M)) = some r := h
      cases hb : Nat.beq v.1 1 with
      | true => rw [hb] at h; cases h
      | false => rw [hb] at h; cases h; exact am_r_pop C (Nat.ne_of_beq_eq_false hb) hdg kk
  | iinc k n =>
    have h : (match am_lk k lv with
      | some (0, x) => some (am_st1 k (0, am_w32 (x + n)) lv, st, M)
      | _ => none) = some r := h
    split at h
    · rename_i x hx
      cases h
      exact am_r_iinc C (of_decide_eq_true hok) hx hdg kk
    · cases h
  | iadd => exact am_r_arith0 C (Or.inl rfl) hdg h kk
  | isub => exact am_r_arith0 C (Or.inr (Or.inl rfl)) hdg h kk
  | imul => exact am_r_arith0 C (Or.inr (Or.inr (Or.inl rfl))) hdg h kk
  | irem => exact am_r_arith0 C (Or.inr (Or.inr (Or.inr (Or.inl rfl)))) hdg h kk
  | iand => exact am_r_arith0 C (Or.inr (Or.inr (Or.inr (Or.inr (Or.inl rfl))))) hdg h kk
  | ior => exact am_r_arith0 C (Or.inr (Or.inr (Or.inr (Or.inr (Or.inr (Or.inl rfl)))))) hdg h kk
  | ishl => exact am_r_arith0 C (Or.inr (Or.inr (Or.inr (Or.inr (Or.inr (Or.inr (Or.inl rfl))))))) hdg h kk
  | iushr => exact am_r_arith0 C (Or.inr (Or.inr (Or.inr (Or.inr (Or.inr (Or.inr (Or.inr rfl))))))) hdg h kk
  | ladd => exact am_r_arith1 C (Or.inl rfl) hdg h kk
  | lmul => exact am_r_arith1 C (Or.inr (Or.inl rfl)) hdg h kk
  | ldiv => exact am_r_arith1 C (Or.inr (Or.inr (Or.inl rfl))) hdg h kk
  | lrem => exact am_r_arith1 C (Or.inr (Or.inr (Or.inr (Or.inl rfl)))) hdg h kk
  | land => exact am_r_arith1 C (Or.inr (Or.inr (Or.inr (Or.inr (Or.inl rfl))))) hdg h kk
  | lor => exact am_r_arith1 C (Or.inr (Or.inr (Or.inr (Or.inr (Or.inr rfl))))) hdg h kk
  | lshl =>
    match st, h with
    | (0, y) :: (1, x) :: rest, h => cases h; exact am_r_lshl C hdg kk
  | lcmp =>
    match st, h with
    | (1, y) :: (1, x) :: rest, h => cases h; exact am_r_lcmp C hdg kk
  | i2l =>
    match st, h with
    | (0, x) :: rest, h => cases h; exact am_r_i2l C hdg kk
  | l2i =>
    match st, h with
    | (1, x) :: rest, h => cases h; exact am_r_l2i C hdg kk
  | getfield idx => exact am_go_get C hok hdg h kk
  | putfield idx => exact am_go_put C hini hok hdg h kk
  | getstatic idx =>
    match xs, h, hok with
    | [], h, _ => cases h
    | [_], _, hok => cases hok
    | L :: ps :: xs', h, hok =>
      cases h
      have hok : ((decide (L = 2) && am_w ps (.fieldLink own idx RX6 "PORTS_IN" "[I")) || (decide (L = 3) && am_w ps (.fieldLink own idx RX6 "PORTS_OUT" "[I"))) = true := hok
      simp only [Bool.and_eq_true, Bool.or_eq_true, decide_eq_true_eq] at hok
      refine am_r_gets C ?_ hdg kk
      rcases hok with ⟨z1, z2⟩ | ⟨z1, z2⟩
      · exact Or.inl ⟨z1, am_w_in z2⟩
      · exact Or.inr ⟨z1, am_w_in z2⟩
  | iaload =>
    obtain ⟨i, L, v, rest, rfl, h1, rfl⟩ := am_aldv_inv h
    exact am_r_aldI C h1 hdg kk
  | laload =>
    obtain ⟨i, L, v, rest, rfl, h1, rfl⟩ := am_aldv_inv h
    exact am_r_aldL C h1 hdg kk
  | baload =>
    obtain ⟨i, L, v, rest, rfl, h1, rfl⟩ := am_aldv_inv h
    exact am_r_aldZ C h1 hdg kk
  | aaload =>
    match xs, h, hok with
    | [], h, _ => cases h
    | t :: xs', h, hok =>
      have hok : (decide (t = 3) || decide (t = 4)) = true := hok
      simp only [Bool.or_eq_true, decide_eq_true_eq] at hok
      obtain ⟨i, L, v, rest, rfl, h1, rfl⟩ := am_aldv_inv (show am_aldv t.toNat 2 lv st M = some r from h)
      exact am_r_aldA C (by omega) h1 hdg kk
  | iastore =>
    obtain ⟨i, L, v, M', rest, rfl, h1, rfl⟩ := am_astv_inv h
    exact am_r_astI C h1 hdg kk
  | lastore =>
    obtain ⟨i, L, v, M', rest, rfl, h1, rfl⟩ := am_astv_inv h
    exact am_r_astL C h1 hdg kk
  | bastore =>
    obtain ⟨i, L, v, M', rest, rfl, h1, rfl⟩ := am_astv_inv h
    exact am_r_astZ C h1 hdg kk
  | aastore =>
    match xs, h, hok with
    | [], h, _ => cases h
    | t :: xs', h, hok =>
      have hok : (decide (t = 3) || decide (t = 4)) = true := hok
      simp only [Bool.or_eq_true, decide_eq_true_eq] at hok
      obtain ⟨i, L, v, M', rest, rfl, h1, rfl⟩ := am_astv_inv (show am_astv t.toNat 2 lv st M = some r from h)
      exact am_r_astA C (by omega) h1 hdg kk
  | arraylength =>
    match st, h with
    | (2, L) :: rest, h =>
      have h : (am_alen M L).bind (fun n => some (lv, (0, n) :: rest, M)) = some r := h
      cases hn : am_alen M L with
      | none => rw [hn] at h; cases h
      | some n => rw [hn] at h; cases h; exact am_r_alen C hn hdg kk
  | new idx => exact am_go_new (at' := .int) C (Or.inl rfl) hok hdg h hR kk
  | newarray a => exact am_go_new (idx := 0) C (Or.inr (Or.inl rfl)) hok hdg h hR kk
  | anewarray idx => exact am_go_new (at' := .int) C (Or.inr (Or.inr rfl)) hok hdg h hR kk
  | invokespecial idx =>
    match xs, st, h, hok with
    | [], (2, L) :: rest, h, hok =>
      have h : (if L = 0 then none else bif Nat.ble rest.length 4 then some (lv, rest, M) else none) = some r := h
      by_cases h0 : L = 0
      · rw [if_pos h0] at h; cases h
      · rw [if_neg h0] at h
        cases hb : Nat.ble rest.length 4 with
        | false => rw [hb] at h; cases h
        | true =>
          rw [hb] at h
          cases h
          have hb := Nat.le_of_ble_eq_true hb
          obtain ⟨-, -, -, -, r5⟩ := hR
          obtain ⟨r5, r6⟩ := r5 rfl
          exact am_r_obj C h0 (am_tbl_in hok rfl) am_k1 am_k2 r5 (by omega) hdg kk
  | invokestatic idx => exact am_go_static C hok hdg h hR kk
  | _ => cases h
/-- what a step does to the rows of made cells -/
def am_ch (M M' : am_M) : Prop := (M' (-1) = M (-1) ∧ M' (-2) = M (-2)) ∨ ∃ L, am_inU L ∧ M (-1) L = 0 ∧ M' = am_alloc M L
theorem am_ch_rf (M : am_M) : am_ch M M := Or.inl ⟨rfl, rfl⟩
theorem am_ch_up {M : am_M} {L i v : Int} (h : 0 < L) : am_ch M (am_up M L i v) := Or.inl ⟨am_up_row (by omega), am_up_row (by omega)⟩
theorem am_b0_ch {f : Int → Int → Option Int} {lv : am_L} {st : List am_V} {M : am_M} {r : am_S} (h : am_b0 f lv st M = some r) : am_ch M r.2.2 := by
  obtain ⟨_, _, _, _, -, -, rfl⟩ := am_b0_inv h
  exact am_ch_rf M
theorem am_b1_ch {f : Int → Int → Option Int} {lv : am_L} {st : List am_V} {M : am_M} {r : am_S} (h : am_b1 f lv st M = some r) : am_ch M r.2.2 := by
  obtain ⟨_, _, _, _, -, -, rfl⟩ := am_b1_inv h
  exact am_ch_rf M
theorem am_ldv_ch {k t : Nat} {lv : am_L} {st : List am_V} {M : am_M} {r : am_S} (h : am_ldv k t lv st M = some r) : am_ch M r.2.2 := by
  obtain ⟨_, -, rfl⟩ := am_g_load h
  exact am_ch_rf M
theorem am_stv_ch {k t : Nat} {lv : am_L} {st : List am_V} {M : am_M} {r : am_S} (h : am_stv k t lv st M = some r) : am_ch M r.2.2 := by
  obtain ⟨_, _, -, rfl⟩ := am_g_store h
  exact am_ch_rf M
theorem am_aldv_ch {t tag : Nat} {lv : am_L} {st : List am_V} {M : am_M} {r : am_S} (h : am_aldv t tag lv st M = some r) : am_ch M r.2.2 := by
  obtain ⟨_, _, _, _, -, -, rfl⟩ := am_aldv_inv h
  exact am_ch_rf M
theorem am_astv_ch {t tag : Nat} {lv : am_L} {st : List am_V} {M : am_M} {r : am_S} (h : am_astv t tag lv st M = some r) : am_ch M r.2.2 := by
  obtain ⟨i, L, v, M', _, -, h1, rfl⟩ := am_astv_inv h
  unfold am_ast at h1
  split at h1
  · rename_i hc
    cases h1
    exact am_ch_up hc.1
  · cases h1
theorem am_newo_ch {ci : Nat} {M M' : am_M} {L : Int} (h : am_newo ci M L = some M') : am_ch M M' := by
  unfold am_newo at h
  split at h
  · rename_i hc
    cases h
    exact Or.inr ⟨L, ⟨hc.1, hc.2.1⟩, hc.2.2.2, rfl⟩
  · cases h
theorem am_newa_ch {t : Nat} {n : Int} {M M' : am_M} {L : Int} (h : am_newa t n M L = some M') : am_ch M M' := by
  unfold am_newa at h
  split at h
  · rename_i hc
    cases h
    exact Or.inr ⟨L, ⟨hc.1, hc.2.1⟩, hc.2.2.2.2, rfl⟩
  · cases h
end AMR8
