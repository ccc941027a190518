theorem am_s1_ch {i : Instr} {xs : List Int} {lv : am_L} {st : List am_V} {M : am_M} {r : am_S} (h : am_s1 i xs lv st M = some r) : am_ch M r.2.2 := by
  cases i with
  | iload_n k => exact am_ldv_ch h
  | iload k => exact am_ldv_ch h
  | lload_n k => exact am_ldv_ch h
  | lload k => exact am_ldv_ch h
  | aload_n k => exact am_ldv_ch h
  | aload k => exact am_ldv_ch h
  | istore_n k => exact am_stv_ch h
  | istore k => exact am_stv_ch h
  | lstore_n k => exact am_stv_ch h
  | lstore k => exact am_stv_ch h
  | astore_n k => exact am_stv_ch h
  | astore k => exact am_stv_ch h
  | iconst n => cases h; exact am_ch_rf M
  | bipush n => cases h; exact am_ch_rf M
  | sipush n => cases h; exact am_ch_rf M
  | lconst n => cases h; exact am_ch_rf M
  | aconst_null => cases h; exact am_ch_rf M
  | ldc idx => match xs, h with
    | v :: xs', h => cases h; exact am_ch_rf M
  | ldc_w idx => match xs, h with
    | v :: xs', h => cases h; exact am_ch_rf M
  | dup2 => match st, h with
    | v :: w :: rest, h =>
      have h : (bif Nat.beq v.1 1 || Nat.beq w.1 1 then none else some (lv, v :: w :: v :: w :: rest, M)) = some r := h
      cases hb : Nat.beq v.1 1 || Nat.beq w.1 1 with
      | true => rw [hb] at h; cases h
      | false => rw [hb] at h; cases h; exact am_ch_rf M
  | ldc2_w idx => match xs, h with
    | v :: xs', h => cases h; exact am_ch_rf M
  | getstatic idx => match xs, h with
    | v :: xs', h => cases h; exact am_ch_rf M
  | dup => match st, h with
    | v :: rest, h =>
      have h : (bif Nat.beq v.1 1 then none else some (lv, v :: v :: rest, M)) = some r := h
      cases hb : Nat.beq v.1 1 with
      | true => rw [hb] at h; cases h
      | false => rw [hb] at h; cases h; exact am_ch_rf M
  | pop => match st, h with
    | v :: rest, h =>
      have h : (bif Nat.beq v.1 1 then none else some (lv, rest, M)) = some r := h
      cases hb : Nat.beq v.1 1 with
      | true => rw [hb] at h; cases h
      | false => rw [hb] at h; cases h; exact am_ch_rf M
  | iinc k n =>
    have h : (match am_lk k lv with
      | some (0, x) => some (am_st1 k (0, am_w32 (x + n)) lv, st, M)
      | _ => none) = some r := h
    split at h
    · cases h; exact am_ch_rf M
    · cases h
  | iadd => exact am_b0_ch h
  | isub => exact am_b0_ch h
  | imul => exact am_b0_ch h
  | irem => exact am_b0_ch h
  | iand => exact am_b0_ch h
  | ior => exact am_b0_ch h
  | ishl => exact am_b0_ch h
  | iushr => exact am_b0_ch h
  | ladd => exact am_b1_ch h
  | lmul => exact am_b1_ch h
  | ldiv => exact am_b1_ch h
  | lrem => exact am_b1_ch h
  | land => exact am_b1_ch h
  | lor => exact am_b1_ch h
  | lshl => match st, h with
    | (0, y) :: (1, x) :: rest, h => cases h; exact am_ch_rf M
  | lcmp => match st, h with
    | (1, y) :: (1, x) :: rest, h => cases h; exact am_ch_rf M
  | i2l => match st, h with
    | (0, x) :: rest, h => cases h; exact am_ch_rf M
  | l2i => match st, h with
    | (1, x) :: rest, h => cases h; exact am_ch_rf M
  | getfield idx => match xs, st, h with
    | c :: k :: t :: xs', (2, L) :: rest, h =>
      have h : (am_gf c.toNat k M L).bind (fun v => some (lv, (t.toNat, v) :: rest, M)) = some r := h
      cases hq : am_gf c.toNat k M L with
      | none => rw [hq] at h; cases h
      | some v => rw [hq] at h; cases h; exact am_ch_rf M
  | putfield idx => match xs, st, h with
    | c :: k :: t :: z :: xs', (tv, v) :: (2, L) :: rest, h =>
      have h : (bif Nat.beq tv t.toNat then (am_pf c.toNat k z M L v).bind (fun M' => some (lv, rest, M')) else none) = some r := h
      cases hb : Nat.beq tv t.toNat with
      | false => rw [hb] at h; cases h
      | true =>
        rw [hb] at h
        dsimp only [cond_true] at h
        unfold am_pf at h
        by_cases hcd : 0 < L ∧ am_cls L = c.toNat ∧ (z ≠ 4 ∨ v = 0 ∨ v = 1)
        · rw [if_pos hcd] at h; cases h; exact am_ch_up hcd.1
        · rw [if_neg hcd] at h; cases h
  | iaload => exact am_aldv_ch h
  | laload => exact am_aldv_ch h
  | baload => exact am_aldv_ch h
  | aaload => match xs, h with
    | t :: xs', h => exact am_aldv_ch (show am_aldv t.toNat 2 lv st M = some r from h)
  | iastore => exact am_astv_ch h
  | lastore => exact am_astv_ch h
  | bastore => exact am_astv_ch h
  | aastore => match xs, h with
    | t :: xs', h => exact am_astv_ch (show am_astv t.toNat 2 lv st M = some r from h)
  | arraylength => match st, h with
    | (2, L) :: rest, h =>
      have h : (am_alen M L).bind (fun n => some (lv, (0, n) :: rest, M)) = some r := h
      cases hn : am_alen M L with
      | none => rw [hn] at h; cases h
      | some n => rw [hn] at h; cases h; exact am_ch_rf M
  | new idx => match xs, h with
    | c :: mode :: a :: xs', h =>
      have h : (am_lab mode a lv M).bind (fun L => (am_newo c.toNat M L).bind fun M' => some (lv, (2, L) :: st, M')) = some r := h
      cases hL : am_lab mode a lv M with
      | none => rw [hL] at h; cases h
      | some L =>
        rw [hL] at h
        dsimp only [Option.bind_some] at h
        cases hn : am_newo c.toNat M L with
        | none => rw [hn] at h; cases h
        | some M' => rw [hn] at h; cases h; exact am_newo_ch hn
  | newarray a' => match xs, st, h with
    | t :: mode :: a :: xs', (0, n) :: rest, h =>
      have h : (am_lab mode a lv M).bind (fun L => (am_newa t.toNat n M L).bind fun M' => some (lv, (2, L) :: rest, M')) = some r := h
      cases hL : am_lab mode a lv M with
      | none => rw [hL] at h; cases h
      | some L =>
        rw [hL] at h
        dsimp only [Option.bind_some] at h
        cases hn : am_newa t.toNat n M L with
        | none => rw [hn] at h; cases h
        | some M' => rw [hn] at h; cases h; exact am_newa_ch hn
  | anewarray idx => match xs, st, h with
    | t :: mode :: a :: xs', (0, n) :: rest, h =>
      have h : (am_lab mode a lv M).bind (fun L => (am_newa t.toNat n M L).bind fun M' => some (lv, (2, L) :: rest, M')) = some r := h
      cases hL : am_lab mode a lv M with
      | none => rw [hL] at h; cases h
      | some L =>
        rw [hL] at h
        dsimp only [Option.bind_some] at h
        cases hn : am_newa t.toNat n M L with
        | none => rw [hn] at h; cases h
        | some M' => rw [hn] at h; cases h; exact am_newa_ch hn
  | invokespecial idx => match xs, st, h with
    | [], (2, L) :: rest, h =>
      have h : (if L = 0 then none else bif Nat.ble rest.length 4 then some (lv, rest, M) else none) = some r := h
      by_cases h0 : L = 0
      · rw [if_pos h0] at h; cases h
      · rw [if_neg h0] at h
        cases hb : Nat.ble rest.length 4 with
        | false => rw [hb] at h; cases h
        | true => rw [hb] at h; cases h; exact am_ch_rf M
  | invokestatic idx => match xs, st, h with
    | 0 :: xs', (0, y) :: (0, x) :: rest, h =>
      have h : (bif Nat.ble rest.length 4 then some (lv, (0, if y < x then y else x) :: rest, M) else none) = some r := h
      cases hb : Nat.ble rest.length 4 with
      | false => rw [hb] at h; cases h
      | true => rw [hb] at h; cases h; exact am_ch_rf M
    | 1 :: xs', (0, y) :: (0, x) :: rest, h =>
      have h : (bif Nat.ble rest.length 4 then some (lv, (0, if x < y then y else x) :: rest, M) else none) = some r := h
      cases hb : Nat.ble rest.length 4 with
      | false => rw [hb] at h; cases h
      | true => rw [hb] at h; cases h; exact am_ch_rf M
    | 2 :: xs', (0, n) :: (0, dp) :: (2, b) :: (0, sp) :: (2, a) :: rest, h =>
      have h : (bif Nat.ble rest.length 4 then (am_copy M a sp b dp n).bind (fun M' => some (lv, rest, M')) else none) = some r := h
      cases hb : Nat.ble rest.length 4 with
      | false => rw [hb] at h; cases h
      | true =>
        rw [hb] at h
        dsimp only [cond_true] at h
        unfold am_copy at h
        by_cases hcd : 0 < a ∧ 0 < b ∧ am_aty a = 1 ∧ am_aty b = 1 ∧ 0 ≤ sp ∧ 0 ≤ dp ∧ 0 ≤ n ∧ sp + n ≤ am_len M a ∧ dp + n ≤ am_len M b
        · rw [if_pos hcd] at h
          cases h
          have hr : ∀ L', L' ≠ b → am_cpy M a sp b dp n L' = M L' := fun L' h => by
            funext i
            unfold am_cpy
            rw [if_neg (fun z => h z.1)]
          exact Or.inl ⟨hr _ (by omega), hr _ (by omega)⟩
        · rw [if_neg hcd] at h; cases h
  | _ => cases h
theorem am_ch_le {M M' : am_M} (h : am_ch M M') : M (-2) 0 ≤ M' (-2) 0 ∧ M (-2) 1 ≤ M' (-2) 1 := by
  rcases h with ⟨-, h⟩ | ⟨L, -, -, rfl⟩
  · rw [h]; exact ⟨Int.le_refl _, Int.le_refl _⟩
  · rw [am_alloc_c.1, am_alloc_c.2]; omega
/-- a method's name, code, places, answer, frames and words that it asks for -/
abbrev am_MI : Type := MethodName × ByteArray × Nat × Option FieldType × Nat × Nat
def am_rt (r : Option FieldType) : Nat := match r with
  | some .int => 0
  | some .boolean => 0
  | some .long => 1
  | none => 3
  | _ => 2
def am_rv (ad : Int → Nat) (t : Nat) (x : Int) : Option Value := if t = 3 then none else some (am_val ad (t, x))
abbrev am_cw (Z : am_MI) : Cond := .code Z.1 Z.2.1 Z.2.2.1 Z.2.2.2.1
def am_Pre (G : am_Gt) (ad : Int → Nat) (M : am_M) (al : List Int) (U : State) : Prop := am_Wd G ad M al U U.heap ∧ am_Old G U U.heap
def am_Post (G : am_Gt) (t : Nat) (v : Int) (M' : am_M) : Array Value → State → Outcome → State → Prop := fun _ st o tt =>
  (∃ (ad' : Int → Nat) (al' : List Int), o = .returned (am_rv ad' t v) ∧ am_Wd G ad' M' al' tt tt.heap ∧ am_wv al' (t, v)) ∧ va_F (am_A G) st tt
/-- the fixed things as a method sees them from its start on -/
def am_G2 (G : am_Gt) (ad : Int → Nat) (M : am_M) : am_Gt := (G.1, G.2.1, G.2.2.1, M, ad)
def am_rm (Z : am_MI) (M M' : am_M) : Room := { frames := Z.2.2.2.2.1, cells := (M' (-2) 0 - M (-2) 0).toNat, slots := (M' (-2) 1 - M (-2) 1).toNat, locals := Z.2.2.2.2.2 }
/-- a method's contract, by what the small machine says -/
def am_Ctr (l : Launch) (G : am_Gt) (Z : am_MI) (as : List am_V) (M : am_M) (v : Int) (M' : am_M) : Prop :=
  M (-2) 0 ≤ M' (-2) 0 ∧ M (-2) 1 ≤ M' (-2) 1 ∧ ∀ (ad : Int → Nat) (al : List Int), (∀ a ∈ as, am_wv al a) →
    Met l Z.1 (am_cw Z :: am_tbl) (am_rm Z M M') (va_Pc (as.map (am_val ad)) (am_Pre (am_G2 G ad M) ad M al)) (am_Post (am_G2 G ad M) (am_rt Z.2.2.2.1) v M') (M' (-2) 0 - M (-2) 0).toNat (M' (-2) 1 - M (-2) 1).toNat (am_A G)
theorem am_Wd_moved {G : am_Gt} {ad : Int → Nat} {M : am_M} {al : List Int} {u U : State} {H : Heap} (hvm : u.vm.Alike U.vm) (h : am_Wd G ad M al u H) : am_Wd G ad M al U H := ⟨h.1, h.2.1, va_K.moved hvm h.2.2.1, h.2.2.2⟩
theorem am_nst_form {w : Cond} (h : w ∈ am_nst) : (∃ a i b n d k, w = .fieldLinkNest a i b n d k) ∨ ∃ a i x k, w = .methodLinkNest a i x k := by
  have h2 := (List.mem_filter.mp h).2
  unfold am_isN at h2
  split at h2
  · exact Or.inl ⟨_, _, _, _, _, _, rfl⟩
  · exact Or.inr ⟨_, _, _, _, rfl⟩
  · cases h2
theorem am_Old_call {G : am_Gt} {s U : State} {H : Heap} {locs : List Loc} (h : am_Old G s s.heap) (hS : va_S (am_A G) s.heap H locs) (hU : U.heap = H) (hW : s.WarmedH U.vm) : am_Old G U U.heap := by
  obtain ⟨h1, h2, h3, h4, h5, h6, h7, h8, h9⟩ := h
  rw [hU]
  refine ⟨fun L hL => ?_, h2, h3, ?_, ?_, Nat.le_trans h6 hS.1, fun w hw => ?_, va_AO.moved hW.alike h8, va_AO.moved hW.alike h9⟩
  · obtain ⟨x1, x2, x3⟩ := h1 L hL
    exact ⟨(x1.kept (fun a ha hn => hS.2.1 a ha hn)).moved hW.alike, x2, x3⟩
  · exact (h4.kept (fun a ha hn => hS.2.1 a ha hn)).moved hW.alike
  · exact (h5.kept (fun a ha hn => hS.2.1 a ha hn)).moved hW.alike
  · rcases am_nst_form hw with ⟨a, i, b, n, d, k, rfl⟩ | ⟨a, i, x, k, rfl⟩
    · exact va_Nw.warmF hW (h7 _ hw)
    · exact va_Nw.warmM hW (h7 _ hw)
theorem am_blind {G : am_Gt} {ad : Int → Nat} {M : am_M} {al : List Int} {av : List Value} : FrameBlind (va_Pc av (am_Pre G ad M al)) := by
  intro a U g mk h
  obtain ⟨h0, hw, h1, h2, h3, h4, h5, h6, h7, h8, h9⟩ := h
  have hvm : U.vm.Alike (U.calling g mk a).vm := Vm.Alike.refl U.vm
  refine ⟨h0, am_Wd_moved hvm hw, fun L hL => ?_, h2, h3, h4.moved hvm, h5.moved hvm, h6, fun w hx => ?_, va_AO.moved hvm h8, va_AO.moved hvm h9⟩
  · obtain ⟨x1, x2, x3⟩ := h1 L hL
    exact ⟨x1.moved hvm, x2, x3⟩
  · rcases am_nst_form hx with ⟨a, i, b, n, d, k, rfl⟩ | ⟨a, i, x, k, rfl⟩
    · exact va_Nw.same rfl rfl (h7 _ hx)
    · exact va_Nw.same rfl rfl (h7 _ hx)
theorem am_goodIn (Z Y : am_MI) (h : am_cw Z ∈ am_tbl) : GoodIn (am_cw Y :: am_tbl) (am_cw Z :: am_tbl) := by
  intro w hw
  have hg : w ∈ am_tbl := by
    rcases List.mem_cons.mp hw with rfl | hw
    · exact h
    · exact hw
  exact ⟨List.mem_cons_of_mem _ hg, good_of_word (List.mem_filter.mp hg).2⟩
theorem am_goodIn2 (Z : am_MI) (h : am_cw Z ∈ am_tbl) : GoodIn am_tbl (am_cw Z :: am_tbl) := by
  intro w hw
  have hg : w ∈ am_tbl := by
    rcases List.mem_cons.mp hw with rfl | hw
    · exact h
    · exact hw
  exact ⟨hg, good_of_word (List.mem_filter.mp hg).2⟩
/-- into a method -/
theorem am_into {G : am_Gt} {ad : Int → Nat} {M : am_M} {al : List Int} {s U : State} {H : Heap} {locs : List Loc} (hO : am_Old G s s.heap) (hWd : am_Wd G ad M al s H) (hS : va_S (am_A G) s.heap H locs) (hU : U.heap = H) (hW : s.WarmedH U.vm) : am_Pre (am_G2 G ad M) ad M al U := by
  obtain ⟨w1, w2, w3, w4, w5, w6, w7⟩ := hWd
  obtain ⟨h1, h2, h3, h4, h5, h6, h7, h8, h9⟩ := am_Old_call hO hS hU hW
  have hrow : ∀ L : Int, L = 1 ∨ L = 2 ∨ L = 3 → M L = G.2.2.2.1 L := fun L hL => am_old_row w4 hL
  have had : ∀ L : Int, L = 1 ∨ L = 2 ∨ L = 3 → ad L = G.2.2.2.2 L := fun L hL => by
    rcases hL with rfl | rfl | rfl
    · exact w5
    · exact w6
    · exact w7.1
  have hlen : ∀ L : Int, L = 1 ∨ L = 2 ∨ L = 3 → am_len M L = am_len G.2.2.2.1 L := fun L hL => by
    unfold am_len
    by_cases e1 : L = 1
    · rw [if_pos e1, if_pos e1, hrow 1 (Or.inl rfl)]
    · rw [if_neg e1, if_neg e1]
  refine ⟨?_, fun L hL => ?_, ?_, ?_, ?_, ?_, h6, h7, h8, h9⟩
  · rw [hU]
    exact ⟨w1, w2, va_K.moved hW.alike w3, ⟨w4.1, w4.2.1, w4.2.2.1, rfl, rfl, rfl, w4.2.2.2.2.2.2⟩, rfl, rfl, rfl, fun L hp hne => ⟨w4.2.2.2.2.2.2 L hp hne, rfl⟩⟩
  · obtain ⟨x1, x2, x3⟩ := h1 L hL
    show va_T .int (ad L) (am_len M L).toNat (fun j => .int (Int32.ofInt (M L j))) (am_A G) U U.heap ∧ ad L < G.2.2.1 ∧ ∀ j : Nat, (j : Int) < am_len M L → am_r32 (M L j)
    rw [had L hL, hlen L hL, hrow L hL]
    exact ⟨x1, x2, x3⟩
  · show 0 ≤ M 1 (-1)
    rw [hrow 1 (Or.inl rfl)]; exact h2
  · show M 1 (-1) ≤ 3072
    rw [hrow 1 (Or.inl rfl)]; exact h3
  · show va_Z RX6 "PORTS_IN" "[I" (.ref (ad 2)) (am_A G) U U.heap
    rw [w6]; exact h4
  · show va_Z RX6 "PORTS_OUT" "[I" (.ref (ad 3)) (am_A G) U U.heap
    rw [w7.1]; exact h5
/-- out of a method -/
theorem am_outof {G : am_Gt} {ad ad' : Int → Nat} {M M' : am_M} {al al' : List Int} {s : State} {H H' : Heap} (hWd : am_Wd G ad M al s H) (h : am_Wd (am_G2 G ad M) ad' M' al' s H') : am_Wd G ad' M' al' s H' ∧ (∀ x ∈ al, x ∈ al') ∧ (∀ x : Int, x ∈ al ∨ x = 1 ∨ x = 2 ∨ x = 3 → ad' x = ad x) := by
  obtain ⟨w1, w2, w3, w4, w5, w6, w7⟩ := hWd
  obtain ⟨v1, v2, v3, v4, v5, v6, v7⟩ := h
  have hmem : ∀ x ∈ al, x ∈ al' ∧ ad' x = ad x := fun x hx => v7.2 x (w4.2.1 x hx).1.1 (w4.2.1 x hx).2
  refine ⟨⟨v1, v2, v3, ⟨v4.1, v4.2.1, v4.2.2.1, v4.2.2.2.1.trans w4.2.2.2.1, v4.2.2.2.2.1.trans w4.2.2.2.2.1, v4.2.2.2.2.2.1.trans w4.2.2.2.2.2.1, v4.2.2.2.2.2.2⟩, v5.trans w5, v6.trans w6, v7.1.trans w7.1, fun L hp hne => ?_⟩, fun x hx => (hmem x hx).1, fun x hx => ?_⟩
  · obtain ⟨g1, g2⟩ := w7.2 L hp hne
    exact ⟨(hmem L g1).1, (hmem L g1).2.trans g2⟩
  · rcases hx with hx | rfl | rfl | rfl
    · exact (hmem x hx).2
    · exact v5
    · exact v6
    · exact v7.1
section AMC
variable {p : Program} {l : Launch} {e : Env} {R : Room} {s : State} {m : MethodId} {args : Array Value} {below : List Frame} {meth : Method} {c : Code} {Q : State → Prop} {G : am_Gt} {cc : ByteArray} {nL pc : Nat} {c0 s0 : Int} {own : String}
/-- behind a call -/
theorem am_call_go {lv : am_L} {rest st0 : List am_V} {M M' : am_M} {v : Int} {t : Nat} {a : Array Value} {ad : Int → Nat} {al : List Int} {H : Heap} {locs : List Loc} {ls : Array Slot} (hc0 : c0 ≤ M (-2) 0) (hs0 : s0 ≤ M (-2) 1) (hm1 : M (-2) 0 ≤ M' (-2) 0) (hm2 : M (-2) 1 ≤ M' (-2) 1)
    (hr : va_Run p l e R s m args below meth c H locs (M (-2) 0 - c0).toNat (M (-2) 1 - s0).toNat (M' (-2) 0 - M (-2) 0).toNat (M' (-2) 1 - M (-2) 1).toNat (F0 m pc ls (st0.map (am_val ad))) (rest.map (am_val ad)) (am_Post (am_G2 G ad M) t v M' a) (am_A G)) (hWd0 : am_Wd G ad M al s H) (hS : va_S (am_A G) s.heap H locs) (hl : lv_has ls nL (am_lv ad lv)) (hq : ∀ q ∈ lv, am_wv al q.2) (hrest : ∀ v ∈ rest, am_wv al v)
    (kk : am_Go p l e R s m args below meth c Q G nL c0 s0 (pc + 3) lv (am_ans t v rest) M') : W p l e R s m args below meth c H locs (M (-2) 0 - c0).toNat (M (-2) 1 - s0).toNat Q (F0 m pc ls (st0.map (am_val ad))) := by
  intro T hT X
  obtain ⟨rv, st₀, tt, T', L, h0, X', hL, e1, e2, ⟨⟨ad', al', hv, hWd, hwv⟩, hz, hk⟩, st⟩ := hr T hT X
  cases hv
  rw [h0] at hz hk
  have hS' : va_S (am_A G) s.heap T'.heap (locs ++ L) := ⟨Nat.le_trans hS.1 (by rw [e1]; exact hz), fun q h1 h2 => by rw [e1, hk q (Nat.lt_of_lt_of_le h1 hS.1) h2]; exact hS.2.1 q h1 h2, fun q hq => by
      rcases List.mem_append.mp hq with h | h
      · exact hS.2.2 q h
      · exact hL q h⟩
  have hvm : tt.vm.Alike s.vm := by
    have := X'.warmed.alike
    rw [e2] at this
    exact this.symm
  have hWd1 : am_Wd (am_G2 G ad M) ad' M' al' s T'.heap := by rw [e1]; exact am_Wd_moved hvm hWd
  obtain ⟨hWd', hsub, hext⟩ := am_outof hWd0 hWd1
  have kk' := kk ad' al' T'.heap (locs ++ L) ls hWd' hS' (by rw [am_lv_ext hext hq]; exact hl) (fun q h => am_wv_mono hsub (hq q h)) (by
    unfold am_ans
    cases hb : Nat.beq t 3 with
    | true => exact fun w h => am_wv_mono hsub (hrest w h)
    | false => exact am_push hwv (fun w h => am_wv_mono hsub (hrest w h)))
  have ec : (M' (-2) 0 - c0).toNat = (M (-2) 0 - c0).toNat + (M' (-2) 0 - M (-2) 0).toNat := by omega
  have es : (M' (-2) 1 - s0).toNat = (M (-2) 1 - s0).toNat + (M' (-2) 1 - M (-2) 1).toNat := by omega
  rw [ec, es] at kk'
  have est : (am_ans t v rest).map (am_val ad') = (am_rv ad' t v).toList ++ rest.map (am_val ad) := by
    unfold am_ans am_rv
    by_cases h3 : t = 3
    · subst h3
      rw [if_pos rfl]
      show rest.map (am_val ad') = [] ++ _
      rw [am_map_ext hext hrest, List.nil_append]
    · rw [if_neg h3]
      have hb : Nat.beq t 3 = false := by
        cases hb : Nat.beq t 3 with
        | false => rfl
        | true => exact absurd (Nat.eq_of_beq_eq_true hb) h3
      rw [hb]
      show am_val ad' (t, v) :: rest.map (am_val ad') = _
      rw [am_map_ext hext hrest]
      rfl
  rw [est] at kk'
  obtain ⟨t2, a1, b1⟩ := kk' T' rfl X'
  exact ⟨t2, st t2 a1, b1⟩
end AMC
