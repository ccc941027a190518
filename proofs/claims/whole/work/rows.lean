section
/-! AM: a small machine over labelled cells. A label is kind + 256 * index; 0 is null. M label place = what stands there, as an Int.
Row -1: which labels are made; row -2: how many cells and slots are made. -/
abbrev am_V : Type := Nat × Int
abbrev am_M : Type := Int → Int → Int
abbrev am_L : Type := List (Nat × am_V)
abbrev am_I : Type := Nat × Instr × List Int
abbrev am_R : Type := Int × am_M
def am_w32 (x : Int) : Int := Int.bmod x 4294967296
def am_w64 (x : Int) : Int := Int.bmod x 18446744073709551616
/-- kind, number of the sort of object (99: none), kind of array (99: none; 0 int, 1 long, 2 boolean, 3 Weaver, 4 Band, 5 an old int array), fields or length, how many -/
def am_KT : List (Int × Nat × Nat × Nat × Nat) := [
  (10, 0, 99, 12, 60), (11, 1, 99, 4, 40), (12, 2, 99, 4, 1), (20, 3, 99, 2, 40), (30, 3, 99, 2, 60), (14, 4, 99, 6, 40), (15, 5, 99, 16, 40), (16, 6, 99, 10, 1), (17, 7, 99, 55, 1),
  (21, 99, 1, 8, 40), (22, 99, 1, 16, 40), (23, 99, 1, 32, 40), (24, 99, 1, 64, 40), (25, 99, 1, 128, 40), (26, 99, 1, 256, 40), (27, 99, 1, 300, 40),
  (31, 99, 1, 8, 60), (32, 99, 1, 16, 60), (33, 99, 1, 32, 60), (34, 99, 1, 64, 60), (35, 99, 1, 128, 60), (36, 99, 1, 256, 60), (37, 99, 1, 300, 60),
  (41, 99, 1, 8, 60), (42, 99, 1, 16, 60), (43, 99, 1, 32, 60), (44, 99, 1, 64, 60), (45, 99, 1, 128, 60), (46, 99, 1, 256, 60), (47, 99, 1, 512, 60), (48, 99, 1, 1024, 60),
  (50, 99, 3, 40, 1), (51, 99, 4, 60, 1), (52, 99, 0, 100, 2), (53, 99, 0, 40, 32), (54, 99, 1, 40, 16), (55, 99, 4, 3, 40), (56, 99, 4, 2, 40), (57, 99, 1, 30, 40),
  (58, 99, 2, 2, 40), (72, 99, 2, 2, 40), (59, 99, 0, 12, 40), (73, 99, 0, 12, 40), (74, 99, 0, 12, 40), (60, 99, 1, 4, 40),
  (61, 99, 0, 60, 32), (62, 99, 0, 80, 1), (63, 99, 0, 120, 1), (64, 99, 0, 480, 4), (65, 99, 1, 60, 2), (66, 99, 1, 160, 1), (67, 99, 1, 1200, 1), (68, 99, 1, 8000, 1), (69, 99, 1, 44000, 1), (70, 99, 0, 44000, 1), (71, 99, 2, 40, 1),
  (1, 99, 5, 0, 0), (2, 99, 5, 14, 0), (3, 99, 5, 14, 0)]
def am_find (k : Int) : List (Int × Nat × Nat × Nat × Nat) → Nat × Nat × Nat × Nat
  | [] => (99, 99, 0, 0)
  | q :: l => if q.1 = k then q.2 else am_find k l
def am_kt (L : Int) : Nat × Nat × Nat × Nat := am_find (L % 256) am_KT
def am_cls (L : Int) : Nat := (am_kt L).1
def am_aty (L : Int) : Nat := (am_kt L).2.1
def am_siz (L : Int) : Nat := (am_kt L).2.2.1
def am_nb (L : Int) : Nat := (am_kt L).2.2.2
/-- a label that may be made -/
def am_inU (L : Int) : Prop := 0 < L ∧ L / 256 < am_nb L
def am_len (M : am_M) (L : Int) : Int := if L = 1 then M 1 (-1) else (am_siz L : Int)
def am_up (M : am_M) (L i v : Int) : am_M := fun L' i' => if L' = L ∧ i' = i then v else M L' i'
def am_alloc (M : am_M) (L : Int) : am_M := fun L' i => if L' = -1 then (if i = L then 1 else M (-1) i) else if L' = -2 then (if i = 0 then M (-2) 0 + 1 else if i = 1 then M (-2) 1 + am_siz L else M (-2) i) else if L' = L then 0 else M L' i
def am_cpy (M : am_M) (a sp b dp n : Int) : am_M := fun L' i => if L' = b ∧ dp ≤ i ∧ i < dp + n then M a (sp + (i - dp)) else M L' i
def am_ald (t : Nat) (M : am_M) (L i : Int) : Option Int := if 0 < L ∧ (am_aty L = t ∨ t = 0 ∧ am_aty L = 5) ∧ 0 ≤ i ∧ i < am_len M L then some (M L i) else none
abbrev am_vok (t : Nat) (v : Int) : Prop := (t ≠ 2 ∨ v = 0 ∨ v = 1) ∧ (t ≠ 3 ∨ v = 0 ∨ 0 < v ∧ am_cls v = 5) ∧ (t ≠ 4 ∨ v = 0 ∨ 0 < v ∧ am_cls v = 0)
def am_ast (t : Nat) (M : am_M) (L i v : Int) : Option am_M := if 0 < L ∧ am_aty L = t ∧ 0 ≤ i ∧ i < am_len M L ∧ am_vok t v then some (am_up M L i v) else none
def am_gf (c : Nat) (k : Int) (M : am_M) (L : Int) : Option Int := if 0 < L ∧ am_cls L = c then some (M L k) else none
/-- z = 4: the field is a boolean -/
def am_pf (c : Nat) (k z : Int) (M : am_M) (L v : Int) : Option am_M := if 0 < L ∧ am_cls L = c ∧ (z ≠ 4 ∨ v = 0 ∨ v = 1) then some (am_up M L k v) else none
def am_alen (M : am_M) (L : Int) : Option Int := if 0 < L ∧ am_aty L ≤ 5 then some (am_len M L) else none
/-- a new cell at the label L: fresh, of the told sort -/
def am_newo (c : Nat) (M : am_M) (L : Int) : Option am_M := if 0 < L ∧ L / 256 < am_nb L ∧ am_cls L = c ∧ M (-1) L = 0 then some (am_alloc M L) else none
def am_newa (t : Nat) (n : Int) (M : am_M) (L : Int) : Option am_M := if 0 < L ∧ L / 256 < am_nb L ∧ am_aty L = t ∧ n = am_siz L ∧ M (-1) L = 0 then some (am_alloc M L) else none
def am_copy (M : am_M) (a sp b dp n : Int) : Option am_M := if 0 < a ∧ 0 < b ∧ am_aty a = 1 ∧ am_aty b = 1 ∧ 0 ≤ sp ∧ 0 ≤ dp ∧ 0 ≤ n ∧ sp + n ≤ am_len M a ∧ dp + n ≤ am_len M b then some (am_cpy M a sp b dp n) else none
def am_lk (k : Nat) : am_L → Option am_V
  | [] => none
  | q :: l => bif Nat.beq q.1 k then some q.2 else am_lk k l
def am_st1 (k : Nat) (v : am_V) (l : am_L) : am_L := (k, v) :: l.filter (fun q => !(Nat.beq q.1 k) && !(Nat.beq (q.1 + 1) k && Nat.beq q.2.1 1))
def am_st2 (k : Nat) (v : am_V) (l : am_L) : am_L := (k, v) :: l.filter (fun q => !(Nat.beq q.1 k) && (!(Nat.beq q.1 (k + 1)) && !(Nat.beq (q.1 + 1) k && Nat.beq q.2.1 1)))
/-- the label of the next new cell: mode, number -/
def am_lab (mode a : Int) (l : am_L) (M : am_M) : Option Int :=
  match mode.toNat with
  | 0 => some a
  | 1 => match am_lk 0 l with
    | some (2, t) => some (a + 256 * (t / 256))
    | _ => none
  | 2 => some (a + 256 * M 16 4)
  | 3 => some (a + 256 * M 16 5)
  | 4 => match am_lk 0 l with
    | some (2, t) => some (t + 1)
    | _ => none
  | 5 => match am_lk 0 l with
    | some (2, t) => some (M t 7 + 1)
    | _ => none
  | _ => none
abbrev am_S : Type := am_L × List am_V × am_M
def am_ldv (k t : Nat) (l : am_L) (st : List am_V) (M : am_M) : Option am_S :=
  match am_lk k l with
  | some v => bif Nat.beq v.1 t then some (l, (t, v.2) :: st, M) else none
  | none => none
def am_stv (k t : Nat) (l : am_L) (st : List am_V) (M : am_M) : Option am_S :=
  match st with
  | v :: r => bif Nat.beq v.1 t then some (bif Nat.beq t 1 then am_st2 k (t, v.2) l else am_st1 k (t, v.2) l, r, M) else none
  | [] => none
def am_b0 (f : Int → Int → Option Int) (l : am_L) (st : List am_V) (M : am_M) : Option am_S :=
  match st with
  | (0, y) :: (0, x) :: r => (f x y).bind fun z => some (l, (0, z) :: r, M)
  | _ => none
def am_b1 (f : Int → Int → Option Int) (l : am_L) (st : List am_V) (M : am_M) : Option am_S :=
  match st with
  | (1, y) :: (1, x) :: r => (f x y).bind fun z => some (l, (1, z) :: r, M)
  | _ => none
def am_and (x y : Int) : Int := (Int32.ofInt x &&& Int32.ofInt y).toInt
def am_or (x y : Int) : Int := (Int32.ofInt x ||| Int32.ofInt y).toInt
def am_shl (x y : Int) : Int := (Int32.ofInt x <<< (Int32.ofInt y &&& 31)).toInt
def am_ushr (x y : Int) : Int := ((Int32.ofInt x).toUInt32 >>> ((Int32.ofInt y).toUInt32 &&& Int32.toUInt32 31)).toInt32.toInt
def am_irem (x y : Int) : Option Int := if y = 0 then none else some (Int.tmod x y)
def am_lrem (x y : Int) : Option Int := if y = 0 then none else some (Int.tmod x y)
def am_ldiv (x y : Int) : Option Int := if y = 0 then none else some (am_w64 (Int.tdiv x y))
def am_land (x y : Int) : Int := (Int64.ofInt x &&& Int64.ofInt y).toInt
def am_lor (x y : Int) : Int := (Int64.ofInt x ||| Int64.ofInt y).toInt
def am_lshl (x y : Int) : Int := (Int64.ofInt x <<< ((Int32.ofInt y).toInt64 &&& 63)).toInt
def am_lcmp (x y : Int) : Int := if x < y then -1 else if x = y then 0 else 1
def am_aldv (t tag : Nat) (l : am_L) (st : List am_V) (M : am_M) : Option am_S :=
  match st with
  | (0, i) :: (2, L) :: r => (am_ald t M L i).bind fun v => some (l, (tag, v) :: r, M)
  | _ => none
def am_astv (t tag : Nat) (l : am_L) (st : List am_V) (M : am_M) : Option am_S :=
  match st with
  | (tv, v) :: (0, i) :: (2, L) :: r => bif Nat.beq tv tag then (am_ast t M L i v).bind fun M' => some (l, r, M') else none
  | _ => none
/-- one instruction that goes on to the next -/
def am_s1 (i : Instr) (xs : List Int) (l : am_L) (st : List am_V) (M : am_M) : Option am_S :=
  match i with
  | .iload_n k => am_ldv k.val 0 l st M
  | .iload k => am_ldv k 0 l st M
  | .lload_n k => am_ldv k.val 1 l st M
  | .lload k => am_ldv k 1 l st M
  | .aload_n k => am_ldv k.val 2 l st M
  | .aload k => am_ldv k 2 l st M
  | .istore_n k => am_stv k.val 0 l st M
  | .istore k => am_stv k 0 l st M
  | .lstore_n k => am_stv k.val 1 l st M
  | .lstore k => am_stv k 1 l st M
  | .astore_n k => am_stv k.val 2 l st M
  | .astore k => am_stv k 2 l st M
  | .iconst n => some (l, (0, n) :: st, M)
  | .bipush n => some (l, (0, n) :: st, M)
  | .sipush n => some (l, (0, n) :: st, M)
  | .ldc _ => match xs with
    | v :: _ => some (l, (0, v) :: st, M)
    | [] => none
  | .ldc2_w _ => match xs with
    | v :: _ => some (l, (1, v) :: st, M)
    | [] => none
  | .lconst n => some (l, (1, (n.val : Int)) :: st, M)
  | .aconst_null => some (l, (2, 0) :: st, M)
  | .dup => match st with
    | v :: r => bif Nat.beq v.1 1 then none else some (l, v :: v :: r, M)
    | [] => none
  | .pop => match st with
    | v :: r => bif Nat.beq v.1 1 then none else some (l, r, M)
    | [] => none
  | .iinc k c => match am_lk k l with
    | some (0, x) => some (am_st1 k (0, am_w32 (x + c)) l, st, M)
    | _ => none
  | .iadd => am_b0 (fun x y => some (am_w32 (x + y))) l st M
  | .isub => am_b0 (fun x y => some (am_w32 (x - y))) l st M
  | .imul => am_b0 (fun x y => some (am_w32 (x * y))) l st M
  | .irem => am_b0 am_irem l st M
  | .iand => am_b0 (fun x y => some (am_and x y)) l st M
  | .ior => am_b0 (fun x y => some (am_or x y)) l st M
  | .ishl => am_b0 (fun x y => some (am_shl x y)) l st M
  | .iushr => am_b0 (fun x y => some (am_ushr x y)) l st M
  | .ladd => am_b1 (fun x y => some (am_w64 (x + y))) l st M
  | .lmul => am_b1 (fun x y => some (am_w64 (x * y))) l st M
  | .ldiv => am_b1 am_ldiv l st M
  | .lrem => am_b1 am_lrem l st M
  | .land => am_b1 (fun x y => some (am_land x y)) l st M
  | .lor => am_b1 (fun x y => some (am_lor x y)) l st M
  | .lshl => match st with
    | (0, y) :: (1, x) :: r => some (l, (1, am_lshl x y) :: r, M)
    | _ => none
  | .lcmp => match st with
    | (1, y) :: (1, x) :: r => some (l, (0, am_lcmp x y) :: r, M)
    | _ => none
  | .i2l => match st with
    | (0, x) :: r => some (l, (1, x) :: r, M)
    | _ => none
  | .l2i => match st with
    | (1, x) :: r => some (l, (0, am_w32 x) :: r, M)
    | _ => none
  | .getfield _ => match xs, st with
    | c :: k :: t :: _, (2, L) :: r => (am_gf c.toNat k M L).bind fun v => some (l, (t.toNat, v) :: r, M)
    | _, _ => none
  | .putfield _ => match xs, st with
    | c :: k :: t :: z :: _, (tv, v) :: (2, L) :: r => bif Nat.beq tv t.toNat then (am_pf c.toNat k z M L v).bind fun M' => some (l, r, M') else none
    | _, _ => none
  | .getstatic _ => match xs with
    | L :: _ => some (l, (2, L) :: st, M)
    | [] => none
  | .iaload => am_aldv 0 0 l st M
  | .laload => am_aldv 1 1 l st M
  | .baload => am_aldv 2 0 l st M
  | .aaload => match xs with
    | t :: _ => am_aldv t.toNat 2 l st M
    | [] => none
  | .iastore => am_astv 0 0 l st M
  | .lastore => am_astv 1 1 l st M
  | .bastore => am_astv 2 0 l st M
  | .aastore => match xs with
    | t :: _ => am_astv t.toNat 2 l st M
    | [] => none
  | .arraylength => match st with
    | (2, L) :: r => (am_alen M L).bind fun n => some (l, (0, n) :: r, M)
    | _ => none
  | .new _ => match xs with
    | c :: mode :: a :: _ => (am_lab mode a l M).bind fun L => (am_newo c.toNat M L).bind fun M' => some (l, (2, L) :: st, M')
    | _ => none
  | .newarray _ => match xs, st with
    | t :: mode :: a :: _, (0, n) :: r => (am_lab mode a l M).bind fun L => (am_newa t.toNat n M L).bind fun M' => some (l, (2, L) :: r, M')
    | _, _ => none
  | .anewarray _ => match xs, st with
    | t :: mode :: a :: _, (0, n) :: r => (am_lab mode a l M).bind fun L => (am_newa t.toNat n M L).bind fun M' => some (l, (2, L) :: r, M')
    | _, _ => none
  | .invokespecial _ => match xs, st with
    | [], (2, _) :: r => some (l, r, M)
    | _, _ => none
  | .invokestatic _ => match xs, st with
    | 0 :: _, (0, y) :: (0, x) :: r => some (l, (0, if y < x then y else x) :: r, M)
    | 1 :: _, (0, y) :: (0, x) :: r => some (l, (0, if x < y then y else x) :: r, M)
    | 2 :: _, (0, n) :: (0, dp) :: (2, b) :: (0, sp) :: (2, a) :: r => (am_copy M a sp b dp n).bind fun M' => some (l, r, M')
    | _, _ => none
  | _ => none
end
section
/-! where an instruction leads: on, to a block by a test, by a table, into a call (method, what it gets, the rest of the stack, sort of answer), back with an answer -/
abbrev am_C : Type := am_S ⊕ (Bool × Nat × Nat × List am_V) ⊕ (Int × List Int × Nat × List am_V) ⊕ (Nat × List am_V × List am_V × Nat) ⊕ Int
def am_cnd (c : ClassFile.Cond) (x y : Int) : Bool :=
  match c with
  | .eq => decide (x = y)
  | .ne => !(decide (x = y))
  | .lt => decide (x < y)
  | .ge => decide (y ≤ x)
  | .gt => decide (y < x)
  | .le => decide (x ≤ y)
def am_callOf (z n rt : Int) (st : List am_V) : Option am_C :=
  bif Nat.ble n.toNat st.length then some (.inr (.inr (.inr (.inl (z.toNat, (st.take n.toNat).reverse, st.drop n.toNat, rt.toNat))))) else none
def am_ct (i : Instr) (xs : List Int) (l : am_L) (st : List am_V) (M : am_M) : Option am_C :=
  match i with
  | .nop => match xs with
    | b :: _ => some (.inr (.inl (true, b.toNat, b.toNat, st)))
    | [] => none
  | .goto _ => match xs with
    | b :: _ => some (.inr (.inl (true, b.toNat, b.toNat, st)))
    | [] => none
  | .ifCond c _ => match xs, st with
    | b1 :: b2 :: _, (0, x) :: r => some (.inr (.inl (am_cnd c x 0, b1.toNat, b2.toNat, r)))
    | _, _ => none
  | .if_icmp c _ => match xs, st with
    | b1 :: b2 :: _, (0, y) :: (0, x) :: r => some (.inr (.inl (am_cnd c x y, b1.toNat, b2.toNat, r)))
    | _, _ => none
  | .ifnull _ => match xs, st with
    | b1 :: b2 :: _, (2, x) :: r => some (.inr (.inl (decide (x = 0), b1.toNat, b2.toNat, r)))
    | _, _ => none
  | .ifnonnull _ => match xs, st with
    | b1 :: b2 :: _, (2, x) :: r => some (.inr (.inl (!(decide (x = 0)), b1.toNat, b2.toNat, r)))
    | _, _ => none
  | .tableswitch _ _ _ _ => match xs, st with
    | d :: ps, (0, x) :: r => some (.inr (.inr (.inl (x, ps, d.toNat, r))))
    | _, _ => none
  | .lookupswitch _ _ => match xs, st with
    | d :: ps, (0, x) :: r => some (.inr (.inr (.inl (x, ps, d.toNat, r))))
    | _, _ => none
  | .ireturn => match xs, st with
    | z :: _, [(0, x)] => if z = 1 ∧ ¬ (x = 0 ∨ x = 1) then none else some (.inr (.inr (.inr (.inr x))))
    | _, _ => none
  | .lreturn => match st with
    | [(1, x)] => some (.inr (.inr (.inr (.inr x))))
    | _ => none
  | .areturn => match st with
    | [(2, x)] => some (.inr (.inr (.inr (.inr x))))
    | _ => none
  | .return_ => match st with
    | [] => some (.inr (.inr (.inr (.inr 0))))
    | _ => none
  | .invokevirtual _ => match xs with
    | 3 :: z :: n :: rt :: _ => am_callOf z n rt st
    | _ => none
  | .invokespecial _ => match xs with
    | 3 :: z :: n :: rt :: _ => am_callOf z n rt st
    | [] => (am_s1 i xs l st M).map .inl
    | _ => none
  | .invokestatic _ => match xs with
    | 3 :: z :: n :: rt :: _ => am_callOf z n rt st
    | _ => (am_s1 i xs l st M).map .inl
  | _ => (am_s1 i xs l st M).map .inl
def am_pick : List (Nat × Nat) → am_L → Option (List Int)
  | [], _ => some []
  | q :: qs, l => match am_lk q.1 l with
    | some v => bif Nat.beq v.1 q.2 then (am_pick qs l).map (v.2 :: ·) else none
    | none => none
def am_zip : List (Nat × Nat) → List Int → am_L
  | q :: qs, v :: vs => (q.1, (q.2, v)) :: am_zip qs vs
  | _, _ => []
def am_tg : List (Nat × Nat) → List am_V → Option (List Int)
  | [], [] => some []
  | q :: qs, v :: vs => bif Nat.beq v.1 q.2 then (am_tg qs vs).map (v.2 :: ·) else none
  | _, _ => none
abbrev am_Kt : Type := Nat → List Int → List am_V → am_M → Option am_R
abbrev am_Ct : Type := Nat → List am_V → am_M → Option am_R
def am_J (live : Nat → List (Nat × Nat)) (K : am_Kt) (b : Nat) (l : am_L) (r : List am_V) (M : am_M) : Option am_R := (am_pick (live b) l).bind fun vs => K b vs r M
def am_sw (live : Nat → List (Nat × Nat)) (K : am_Kt) (x : Int) (d : Nat) (l : am_L) (r : List am_V) (M : am_M) : List Int → Option am_R
  | k :: b :: ps => bif decide (x = k) then am_J live K b.toNat l r M else am_sw live K x d l r M ps
  | _ => am_J live K d l r M
def am_ans (rt : Nat) (x : Int) (rest : List am_V) : List am_V := bif Nat.beq rt 3 then rest else (rt, x) :: rest
def am_ex (live : Nat → List (Nat × Nat)) (K : am_Kt) (C : am_Ct) : List am_I → am_L → List am_V → am_M → Option am_R
  | [], _, _, _ => none
  | i :: is, l, st, M =>
    match am_ct i.2.1 i.2.2 l st M with
    | none => none
    | some (.inl s) => am_ex live K C is s.1 s.2.1 s.2.2
    | some (.inr (.inl (c, b1, b2, r))) => bif c then am_J live K b1 l r M else am_J live K b2 l r M
    | some (.inr (.inr (.inl (x, ps, d, r)))) => am_sw live K x d l r M ps
    | some (.inr (.inr (.inr (.inl (z, as, rest, rt))))) => (C z as M).bind fun q => am_ex live K C is l (am_ans rt q.1 rest) q.2
    | some (.inr (.inr (.inr (.inr v)))) => some (v, M)
abbrev am_B : Type := List (Nat × Nat) × List am_I
/-- a program: the blocks of every method -/
abbrev am_P : Type := Nat → Nat → am_B
def am_cm (P : am_P) (f : Nat → am_Kt) : am_Ct := fun z as M => (am_tg (P z 0).1 as).bind fun vs => f z 0 vs [] M
def am_bk (P : am_P) (f : Nat → am_Kt) : Nat → am_Kt := fun y b vs st M => am_ex (fun b' => (P y b').1) (f y) (am_cm P f) (P y b).2 (am_zip (P y b).1 vs) st M
def am_run (P : am_P) : Nat → Nat → am_Kt
  | 0 => fun _ _ _ _ _ => none
  | n + 1 => am_bk P (am_run P n)
theorem am_J_mono {live : Nat → List (Nat × Nat)} {K K' : am_Kt} (hK : ∀ b vs r M q, K b vs r M = some q → K' b vs r M = some q) {b : Nat} {l : am_L} {r : List am_V} {M : am_M} {q : am_R} (h : am_J live K b l r M = some q) : am_J live K' b l r M = some q := by
  unfold am_J at h ⊢
  cases hp : am_pick (live b) l with
  | none => rw [hp] at h; cases h
  | some vs => rw [hp] at h; exact hK _ _ _ _ _ h
theorem am_sw_mono {live : Nat → List (Nat × Nat)} {K K' : am_Kt} (hK : ∀ b vs r M q, K b vs r M = some q → K' b vs r M = some q) {x : Int} {d : Nat} {l : am_L} {r : List am_V} {M : am_M} {q : am_R} : ∀ (n : Nat) (ps : List Int), ps.length ≤ n → am_sw live K x d l r M ps = some q → am_sw live K' x d l r M ps = some q := by
  intro n
  induction n with
  | zero =>
    intro ps hn h
    cases ps with
    | nil => exact am_J_mono hK h
    | cons a ps => simp at hn
  | succ n ih =>
    intro ps hn h
    match ps, hn, h with
    | [], _, h => exact am_J_mono hK h
    | [_], _, h => exact am_J_mono hK h
    | k :: b :: ps, hn, h =>
      unfold am_sw at h ⊢
      cases hd : decide (x = k) with
      | true => rw [hd] at h; exact am_J_mono hK h
      | false => rw [hd] at h; exact ih ps (by simp at hn; omega) h
theorem am_ex_mono {live : Nat → List (Nat × Nat)} {K K' : am_Kt} {C C' : am_Ct} (hK : ∀ b vs r M q, K b vs r M = some q → K' b vs r M = some q) (hC : ∀ z as M q, C z as M = some q → C' z as M = some q) : ∀ (is : List am_I) (l : am_L) (st : List am_V) (M : am_M) (q : am_R), am_ex live K C is l st M = some q → am_ex live K' C' is l st M = some q := by
  intro is
  induction is with
  | nil => intro l st M q h; exact h
  | cons i is ih =>
    intro l st M q h
    unfold am_ex at h ⊢
    cases hc : am_ct i.2.1 i.2.2 l st M with
    | none => rw [hc] at h; cases h
    | some w =>
      rw [hc] at h
      rcases w with s | ⟨c, b1, b2, r⟩ | ⟨x, ps, d, r⟩ | ⟨z, as, rest, rt⟩ | v
      · exact ih _ _ _ _ h
      · cases c
        · exact am_J_mono hK h
        · exact am_J_mono hK h
      · exact am_sw_mono hK _ ps (Nat.le_refl _) h
      · dsimp only at h ⊢
        cases hz : C z as M with
        | none => rw [hz] at h; cases h
        | some w => rw [hz] at h; rw [hC _ _ _ _ hz]; exact ih _ _ _ _ h
      · exact h
theorem am_cm_mono {P : am_P} {f g : Nat → am_Kt} (h : ∀ y b vs st M q, f y b vs st M = some q → g y b vs st M = some q) : ∀ z as M q, am_cm P f z as M = some q → am_cm P g z as M = some q := by
  intro z as M q hq
  unfold am_cm at hq ⊢
  cases ht : am_tg (P z 0).1 as with
  | none => rw [ht] at hq; cases hq
  | some vs => rw [ht] at hq; exact h _ _ _ _ _ _ hq
theorem am_bk_mono {P : am_P} {f g : Nat → am_Kt} (h : ∀ y b vs st M q, f y b vs st M = some q → g y b vs st M = some q) : ∀ y b vs st M q, am_bk P f y b vs st M = some q → am_bk P g y b vs st M = some q := by
  intro y b vs st M q hq
  exact am_ex_mono (fun b vs r M q => h y b vs r M q) (am_cm_mono h) _ _ _ _ _ hq
theorem am_run_succ {P : am_P} : ∀ (n : Nat) (y b : Nat) (vs : List Int) (st : List am_V) (M : am_M) (q : am_R), am_run P n y b vs st M = some q → am_run P (n + 1) y b vs st M = some q := by
  intro n
  induction n with
  | zero => intro y b vs st M q h; cases h
  | succ n ih => intro y b vs st M q h; exact am_bk_mono ih _ _ _ _ _ _ h
theorem am_run_le {P : am_P} {n m : Nat} (h : n ≤ m) {y b : Nat} {vs : List Int} {st : List am_V} {M : am_M} {q : am_R} (hq : am_run P n y b vs st M = some q) : am_run P m y b vs st M = some q := by
  induction h with
  | refl => exact hq
  | step _ ih => exact am_run_succ _ _ _ _ _ _ _ ih
theorem am_run_det {P : am_P} {n m : Nat} {y b : Nat} {vs : List Int} {st : List am_V} {M : am_M} {q q' : am_R} (h : am_run P n y b vs st M = some q) (h' : am_run P m y b vs st M = some q') : q = q' := by
  have h1 := am_run_le (Nat.le_max_left n m) h
  have h2 := am_run_le (Nat.le_max_right n m) h'
  exact Option.some.inj (h1.symm.trans h2)
noncomputable def am_ev (P : am_P) : Nat → am_Kt := fun y b vs st M => @dite _ (∃ q : am_R, ∃ n, am_run P n y b vs st M = some q) (Classical.propDecidable _) (fun h => some (Classical.choose h)) (fun _ => none)
theorem am_ev_iff {P : am_P} {y b : Nat} {vs : List Int} {st : List am_V} {M : am_M} {q : am_R} : am_ev P y b vs st M = some q ↔ ∃ n, am_run P n y b vs st M = some q := by
  unfold am_ev
  by_cases h : ∃ q : am_R, ∃ n, am_run P n y b vs st M = some q
  · rw [dif_pos h]
    constructor
    · intro e
      have e' := Option.some.inj e
      have hs := Classical.choose_spec h
      rw [e'] at hs
      exact hs
    · rintro ⟨n, hn⟩
      obtain ⟨m, hm⟩ := Classical.choose_spec h
      rw [am_run_det hm hn]
  · rw [dif_neg h]
    constructor
    · intro e; cases e
    · rintro ⟨n, hn⟩; exact absurd ⟨q, n, hn⟩ h
theorem am_ev_ge {P : am_P} {n : Nat} : ∀ (y b : Nat) (vs : List Int) (st : List am_V) (M : am_M) (q : am_R), am_run P n y b vs st M = some q → am_ev P y b vs st M = some q := fun _ _ _ _ _ _ h => am_ev_iff.mpr ⟨n, h⟩
theorem am_J_cont {P : am_P} {y : Nat} {live : Nat → List (Nat × Nat)} {b : Nat} {l : am_L} {r : List am_V} {M : am_M} {q : am_R} (h : am_J live (am_ev P y) b l r M = some q) : ∃ n, am_J live (am_run P n y) b l r M = some q := by
  unfold am_J at h ⊢
  cases hp : am_pick (live b) l with
  | none => rw [hp] at h; cases h
  | some vs => rw [hp] at h; obtain ⟨n, hn⟩ := am_ev_iff.mp h; exact ⟨n, hn⟩
theorem am_sw_cont {P : am_P} {y : Nat} {live : Nat → List (Nat × Nat)} {x : Int} {d : Nat} {l : am_L} {r : List am_V} {M : am_M} {q : am_R} : ∀ (n : Nat) (ps : List Int), ps.length ≤ n → am_sw live (am_ev P y) x d l r M ps = some q → ∃ n, am_sw live (am_run P n y) x d l r M ps = some q := by
  intro n
  induction n with
  | zero =>
    intro ps hn h
    cases ps with
    | nil => exact am_J_cont h
    | cons a ps => simp at hn
  | succ n ih =>
    intro ps hn h
    match ps, hn, h with
    | [], _, h => exact am_J_cont h
    | [_], _, h => exact am_J_cont h
    | k :: b :: ps, hn, h =>
      unfold am_sw at h
      cases hd : decide (x = k) with
      | true => rw [hd] at h; obtain ⟨m, hm⟩ := am_J_cont h; exact ⟨m, by unfold am_sw; rw [hd]; exact hm⟩
      | false => rw [hd] at h; obtain ⟨m, hm⟩ := ih ps (by simp at hn; omega) h; exact ⟨m, by unfold am_sw; rw [hd]; exact hm⟩
theorem am_cm_cont {P : am_P} {z : Nat} {as : List am_V} {M : am_M} {q : am_R} (h : am_cm P (am_ev P) z as M = some q) : ∃ n, am_cm P (am_run P n) z as M = some q := by
  unfold am_cm at h ⊢
  cases ht : am_tg (P z 0).1 as with
  | none => rw [ht] at h; cases h
  | some vs => rw [ht] at h; obtain ⟨n, hn⟩ := am_ev_iff.mp h; exact ⟨n, hn⟩
theorem am_ex_cont {P : am_P} {y : Nat} {live : Nat → List (Nat × Nat)} : ∀ (is : List am_I) (l : am_L) (st : List am_V) (M : am_M) (q : am_R), am_ex live (am_ev P y) (am_cm P (am_ev P)) is l st M = some q → ∃ n, am_ex live (am_run P n y) (am_cm P (am_run P n)) is l st M = some q := by
  intro is
  induction is with
  | nil => intro l st M q h; cases h
  | cons i is ih =>
    intro l st M q h
    unfold am_ex at h
    cases hc : am_ct i.2.1 i.2.2 l st M with
    | none => rw [hc] at h; cases h
    | some w =>
      rw [hc] at h
      rcases w with s | ⟨c, b1, b2, r⟩ | ⟨x, ps, d, r⟩ | ⟨z, as, rest, rt⟩ | v
      · obtain ⟨n, hn⟩ := ih _ _ _ _ h
        exact ⟨n, by unfold am_ex; rw [hc]; exact hn⟩
      · cases c
        · obtain ⟨n, hn⟩ := am_J_cont h; exact ⟨n, by unfold am_ex; rw [hc]; exact hn⟩
        · obtain ⟨n, hn⟩ := am_J_cont h; exact ⟨n, by unfold am_ex; rw [hc]; exact hn⟩
      · obtain ⟨n, hn⟩ := am_sw_cont _ ps (Nat.le_refl _) h; exact ⟨n, by unfold am_ex; rw [hc]; exact hn⟩
      · dsimp only at h
        cases hz : am_cm P (am_ev P) z as M with
        | none => rw [hz] at h; cases h
        | some w =>
          rw [hz] at h
          obtain ⟨n1, h1⟩ := am_cm_cont hz
          obtain ⟨n2, h2⟩ := ih _ _ _ _ h
          refine ⟨max n1 n2, ?_⟩
          unfold am_ex
          rw [hc]
          dsimp only
          rw [am_cm_mono (fun _ _ _ _ _ _ hh => am_run_le (Nat.le_max_left n1 n2) hh) _ _ _ _ h1]
          exact am_ex_mono (fun _ _ _ _ _ hh => am_run_le (Nat.le_max_right n1 n2) hh) (am_cm_mono (fun _ _ _ _ _ _ hh => am_run_le (Nat.le_max_right n1 n2) hh)) _ _ _ _ _ h2
      · exact ⟨0, by unfold am_ex; rw [hc]; exact h⟩
/-- the equation of a block -/
theorem am_ev_eq (P : am_P) (y b : Nat) (vs : List Int) (st : List am_V) (M : am_M) : am_ev P y b vs st M = am_bk P (am_ev P) y b vs st M := by
  apply Option.ext
  intro q
  constructor
  · intro h
    obtain ⟨n, hn⟩ := am_ev_iff.mp h
    cases n with
    | zero => cases hn
    | succ n => exact am_bk_mono am_ev_ge _ _ _ _ _ _ hn
  · intro h
    obtain ⟨n, hn⟩ := am_ex_cont _ _ _ _ _ h
    exact am_ev_iff.mpr ⟨n + 1, hn⟩
/-- a call, without a bound on its steps -/
noncomputable def am_evm (P : am_P) : am_Ct := am_cm P (am_ev P)
end
