/-! AM: a small machine over labelled cells. A label is kind + 256 * index; 0 is null. M label place = what stands there, as an Int.
Row -1: which labels are made; row -2: how many cells and slots are made. -/
abbrev am_V : Type := Nat × Int
abbrev am_M : Type := Int → Int → Int
abbrev am_L : Type := List (Nat × am_V)
abbrev am_I : Type := Nat × Instr × List Int
abbrev am_R : Type := Int × am_M
def am_w32 (x : Int) : Int := Int.bmod x 4294967296
def am_w64 (x : Int) : Int := Int.bmod x 18446744073709551616
/-- kind, number of the sort of object (99: none), kind of array (99: none; 0 int, 1 long, 2 boolean, 3 Weaver, 4 Band, 5 an old int array), fields or length, how many -/
def am_KT : List (Int × Nat × Nat × Nat × Nat) := [
  (10, 0, 99, 12, 60), (11, 1, 99, 4, 40), (12, 2, 99, 4, 1), (20, 3, 99, 2, 40), (30, 3, 99, 2, 60), (14, 4, 99, 6, 40), (15, 5, 99, 16, 40), (16, 6, 99, 10, 1), (17, 7, 99, 55, 1),
  (21, 99, 1, 8, 40), (22, 99, 1, 16, 40), (23, 99, 1, 32, 40), (24, 99, 1, 64, 40), (25, 99, 1, 128, 40), (26, 99, 1, 256, 40), (27, 99, 1, 300, 40),
  (31, 99, 1, 8, 60), (32, 99, 1, 16, 60), (33, 99, 1, 32, 60), (34, 99, 1, 64, 60), (35, 99, 1, 128, 60), (36, 99, 1, 256, 60), (37, 99, 1, 300, 60),
  (41, 99, 1, 8, 60), (42, 99, 1, 16, 60), (43, 99, 1, 32, 60), (44, 99, 1, 64, 60), (45, 99, 1, 128, 60), (46, 99, 1, 256, 60), (47, 99, 1, 512, 60), (48, 99, 1, 1024, 60),
  (50, 99, 3, 40, 1), (51, 99, 4, 60, 1), (52, 99, 0, 100, 2), (53, 99, 0, 40, 32), (54, 99, 1, 40, 16), (55, 99, 4, 3, 40), (56, 99, 4, 2, 40), (57, 99, 1, 30, 40),
  (58, 99, 2, 2, 40), (72, 99, 2, 2, 40), (59, 99, 0, 12, 40), (73, 99, 0, 12, 40), (74, 99, 0, 12, 40), (60, 99, 1, 4, 40),
  (61, 99, 0, 60, 32), (62, 99, 0, 80, 1), (63, 99, 0, 120, 1), (64, 99, 0, 480, 4), (65, 99, 1, 60, 2), (66, 99, 1, 160, 1), (67, 99, 1, 1200, 1), (68, 99, 1, 8000, 1), (69, 99, 1, 44000, 1), (70, 99, 0, 44000, 1), (71, 99, 2, 40, 1),
  (1, 99, 5, 0, 0), (2, 99, 5, 14, 0), (3, 99, 5, 14, 0)]
def am_find (k : Int) : List (Int × Nat × Nat × Nat × Nat) → Nat × Nat × Nat × Nat
  | [] => (99, 99, 0, 0)
  | q :: l => if q.1 = k then q.2 else am_find k l
def am_kt (L : Int) : Nat × Nat × Nat × Nat := am_find (L % 256) am_KT
def am_cls (L : Int) : Nat := (am_kt L).1
def am_aty (L : Int) : Nat := (am_kt L).2.1
def am_siz (L : Int) : Nat := (am_kt L).2.2.1
def am_nb (L : Int) : Nat := (am_kt L).2.2.2
/-- a label that may be made -/
def am_inU (L : Int) : Prop := 0 < L ∧ L / 256 < am_nb L
def am_len (M : am_M) (L : Int) : Int := if L = 1 then M 1 (-1) else (am_siz L : Int)
def am_up (M : am_M) (L i v : Int) : am_M := fun L' i' => if L' = L ∧ i' = i then v else M L' i'
def am_alloc (M : am_M) (L : Int) : am_M := fun L' i => if L' = -1 then (if i = L then 1 else M (-1) i) else if L' = -2 then (if i = 0 then M (-2) 0 + 1 else if i = 1 then M (-2) 1 + am_siz L else M (-2) i) else if L' = L then 0 else M L' i
def am_cpy (M : am_M) (a sp b dp n : Int) : am_M := fun L' i => if L' = b ∧ dp ≤ i ∧ i < dp + n then M a (sp + (i - dp)) else M L' i
def am_ald (t : Nat) (M : am_M) (L i : Int) : Option Int := if 0 < L ∧ (am_aty L = t ∨ t = 0 ∧ am_aty L = 5) ∧ 0 ≤ i ∧ i < am_len M L then some (M L i) else none
abbrev am_vok (t : Nat) (v : Int) : Prop := (t ≠ 2 ∨ v = 0 ∨ v = 1) ∧ (t ≠ 3 ∨ v = 0 ∨ 0 < v ∧ am_cls v = 5) ∧ (t ≠ 4 ∨ v = 0 ∨ 0 < v ∧ am_cls v = 0)
def am_ast (t : Nat) (M : am_M) (L i v : Int) : Option am_M := if 0 < L ∧ am_aty L = t ∧ 0 ≤ i ∧ i < am_len M L ∧ am_vok t v then some (am_up M L i v) else none
def am_gf (c : Nat) (k : Int) (M : am_M) (L : Int) : Option Int := if 0 < L ∧ am_cls L = c then some (M L k) else none
/-- z = 4: the field is a boolean -/
def am_pf (c : Nat) (k z : Int) (M : am_M) (L v : Int) : Option am_M := if 0 < L ∧ am_cls L = c ∧ (z ≠ 4 ∨ v = 0 ∨ v = 1) then some (am_up M L k v) else none
def am_alen (M : am_M) (L : Int) : Option Int := if 0 < L ∧ am_aty L ≤ 5 then some (am_len M L) else none
/-- a new cell at the label L: fresh, of the told sort -/
def am_newo (c : Nat) (M : am_M) (L : Int) : Option am_M := if 0 < L ∧ L / 256 < am_nb L ∧ am_cls L = c ∧ M (-1) L = 0 then some (am_alloc M L) else none
def am_newa (t : Nat) (n : Int) (M : am_M) (L : Int) : Option am_M := if 0 < L ∧ L / 256 < am_nb L ∧ am_aty L = t ∧ n = am_siz L ∧ M (-1) L = 0 then some (am_alloc M L) else none
def am_copy (M : am_M) (a sp b dp n : Int) : Option am_M := if 0 < a ∧ 0 < b ∧ am_aty a = 1 ∧ am_aty b = 1 ∧ 0 ≤ sp ∧ 0 ≤ dp ∧ 0 ≤ n ∧ sp + n ≤ am_len M a ∧ dp + n ≤ am_len M b then some (am_cpy M a sp b dp n) else none
def am_lk (k : Nat) : am_L → Option am_V
  | [] => none
  | q :: l => bif Nat.beq q.1 k then some q.2 else am_lk k l
def am_st1 (k : Nat) (v : am_V) (l : am_L) : am_L := (k, v) :: l.filter (fun q => !(Nat.beq q.1 k) && !(Nat.beq (q.1 + 1) k && Nat.beq q.2.1 1))
def am_st2 (k : Nat) (v : am_V) (l : am_L) : am_L := (k, v) :: l.filter (fun q => !(Nat.beq q.1 k) && (!(Nat.beq q.1 (k + 1)) && !(Nat.beq (q.1 + 1) k && Nat.beq q.2.1 1)))
/-- the label of the next new cell: mode, number -/
def am_lab (mode a : Int) (l : am_L) (M : am_M) : Option Int :=
  match mode.toNat with
  | 0 => some a
  | 1 => match am_lk 0 l with
    | some (2, t) => some (a + 256 * (t / 256))
    | _ => none
  | 2 => some (a + 256 * M 16 4)
  | 3 => some (a + 256 * M 16 5)
  | 4 => match am_lk 0 l with
    | some (2, t) => some (t + 1)
    | _ => none
  | 5 => match am_lk 0 l with
    | some (2, t) => some (M t 7 + 1)
    | _ => none
  | _ => none
abbrev am_S : Type := am_L × List am_V × am_M
def am_ldv (k t : Nat) (l : am_L) (st : List am_V) (M : am_M) : Option am_S :=
  match am_lk k l with
  | some v => bif Nat.beq v.1 t then some (l, (t, v.2) :: st, M) else none
  | none => none
def am_stv (k t : Nat) (l : am_L) (st : List am_V) (M : am_M) : Option am_S :=
  match st with
  | v :: r => bif Nat.beq v.1 t then some (bif Nat.beq t 1 then am_st2 k (t, v.2) l else am_st1 k (t, v.2) l, r, M) else none
  | [] => none
def am_b0 (f : Int → Int → Option Int) (l : am_L) (st : List am_V) (M : am_M) : Option am_S :=
  match st with
  | (0, y) :: (0, x) :: r => (f x y).bind fun z => some (l, (0, z) :: r, M)
  | _ => none
def am_b1 (f : Int → Int → Option Int) (l : am_L) (st : List am_V) (M : am_M) : Option am_S :=
  match st with
  | (1, y) :: (1, x) :: r => (f x y).bind fun z => some (l, (1, z) :: r, M)
  | _ => none
def am_and (x y : Int) : Int := (Int32.ofInt x &&& Int32.ofInt y).toInt
def am_or (x y : Int) : Int := (Int32.ofInt x ||| Int32.ofInt y).toInt
def am_shl (x y : Int) : Int := (Int32.ofInt x <<< (Int32.ofInt y &&& 31)).toInt
def am_ushr (x y : Int) : Int := ((Int32.ofInt x).toUInt32 >>> ((Int32.ofInt y).toUInt32 &&& Int32.toUInt32 31)).toInt32.toInt
def am_irem (x y : Int) : Option Int := if y = 0 then none else some (Int.tmod x y)
def am_lrem (x y : Int) : Option Int := if y = 0 then none else some (Int.tmod x y)
def am_ldiv (x y : Int) : Option Int := if y = 0 then none else some (am_w64 (Int.tdiv x y))
def am_land (x y : Int) : Int := (Int64.ofInt x &&& Int64.ofInt y).toInt
def am_lor (x y : Int) : Int := (Int64.ofInt x ||| Int64.ofInt y).toInt
def am_lshl (x y : Int) : Int := (Int64.ofInt x <<< ((Int32.ofInt y).toInt64 &&& 63)).toInt
def am_lcmp (x y : Int) : Int := if x < y then -1 else if x = y then 0 else 1
def am_aldv (t tag : Nat) (l : am_L) (st : List am_V) (M : am_M) : Option am_S :=
  match st with
  | (0, i) :: (2, L) :: r => (am_ald t M L i).bind fun v => some (l, (tag, v) :: r, M)
  | _ => none
def am_astv (t tag : Nat) (l : am_L) (st : List am_V) (M : am_M) : Option am_S :=
  match st with
  | (tv, v) :: (0, i) :: (2, L) :: r => bif Nat.beq tv tag then (am_ast t M L i v).bind fun M' => some (l, r, M') else none
  | _ => none
/-- one instruction that goes on to the next -/
def am_s1 (i : Instr) (xs : List Int) (l : am_L) (st : List am_V) (M : am_M) : Option am_S :=
  match i with
  | .iload_n k => am_ldv k.val 0 l st M
  | .iload k => am_ldv k 0 l st M
  | .lload_n k => am_ldv k.val 1 l st M
  | .lload k => am_ldv k 1 l st M
  | .aload_n k => am_ldv k.val 2 l st M
  | .aload k => am_ldv k 2 l st M
  | .istore_n k => am_stv k.val 0 l st M
  | .istore k => am_stv k 0 l st M
  | .lstore_n k => am_stv k.val 1 l st M
  | .lstore k => am_stv k 1 l st M
  | .astore_n k => am_stv k.val 2 l st M
  | .astore k => am_stv k 2 l st M
  | .iconst n => some (l, (0, n) :: st, M)
  | .bipush n => some (l, (0, n) :: st, M)
  | .sipush n => some (l, (0, n) :: st, M)
  | .ldc _ => match xs with
    | v :: _ => some (l, (0, v) :: st, M)
    | [] => none
  | .ldc_w _ => match xs with
    | v :: _ => some (l, (0, v) :: st, M)
    | [] => none
  | .dup2 => match st with
    | v :: w :: r => bif Nat.beq v.1 1 || Nat.beq w.1 1 then none else some (l, v :: w :: v :: w :: r, M)
    | _ => none
  | .ldc2_w _ => match xs with
    | v :: _ => some (l, (1, v) :: st, M)
    | [] => none
  | .lconst n => some (l, (1, (n.val : Int)) :: st, M)
  | .aconst_null => some (l, (2, 0) :: st, M)
  | .dup => match st with
    | v :: r => bif Nat.beq v.1 1 then none else some (l, v :: v :: r, M)
    | [] => none
  | .pop => match st with
    | v :: r => bif Nat.beq v.1 1 then none else some (l, r, M)
    | [] => none
  | .iinc k c => match am_lk k l with
    | some (0, x) => some (am_st1 k (0, am_w32 (x + c)) l, st, M)
    | _ => none
  | .iadd => am_b0 (fun x y => some (am_w32 (x + y))) l st M
  | .isub => am_b0 (fun x y => some (am_w32 (x - y))) l st M
  | .imul => am_b0 (fun x y => some (am_w32 (x * y))) l st M
  | .irem => am_b0 am_irem l st M
  | .iand => am_b0 (fun x y => some (am_and x y)) l st M
  | .ior => am_b0 (fun x y => some (am_or x y)) l st M
  | .ishl => am_b0 (fun x y => some (am_shl x y)) l st M
  | .iushr => am_b0 (fun x y => some (am_ushr x y)) l st M
  | .ladd => am_b1 (fun x y => some (am_w64 (x + y))) l st M
  | .lmul => am_b1 (fun x y => some (am_w64 (x * y))) l st M
  | .ldiv => am_b1 am_ldiv l st M
  | .lrem => am_b1 am_lrem l st M
  | .land => am_b1 (fun x y => some (am_land x y)) l st M
  | .lor => am_b1 (fun x y => some (am_lor x y)) l st M
  | .lshl => match st with
    | (0, y) :: (1, x) :: r => some (l, (1, am_lshl x y) :: r, M)
    | _ => none
  | .lcmp => match st with
    | (1, y) :: (1, x) :: r => some (l, (0, am_lcmp x y) :: r, M)
    | _ => none
  | .i2l => match st with
    | (0, x) :: r => some (l, (1, x) :: r, M)
    | _ => none
  | .l2i => match st with
    | (1, x) :: r => some (l, (0, am_w32 x) :: r, M)
    | _ => none
  | .getfield _ => match xs, st with
    | c :: k :: t :: _, (2, L) :: r => (am_gf c.toNat k M L).bind fun v => some (l, (t.toNat, v) :: r, M)
    | _, _ => none
  | .putfield _ => match xs, st with
    | c :: k :: t :: z :: _, (tv, v) :: (2, L) :: r => bif Nat.beq tv t.toNat then (am_pf c.toNat k z M L v).bind fun M' => some (l, r, M') else none
    | _, _ => none
  | .getstatic _ => match xs with
    | L :: _ => some (l, (2, L) :: st, M)
    | [] => none
  | .iaload => am_aldv 0 0 l st M
  | .laload => am_aldv 1 1 l st M
  | .baload => am_aldv 2 0 l st M
  | .aaload => match xs with
    | t :: _ => am_aldv t.toNat 2 l st M
    | [] => none
  | .iastore => am_astv 0 0 l st M
  | .lastore => am_astv 1 1 l st M
  | .bastore => am_astv 2 0 l st M
  | .aastore => match xs with
    | t :: _ => am_astv t.toNat 2 l st M
    | [] => none
  | .arraylength => match st with
    | (2, L) :: r => (am_alen M L).bind fun n => some (l, (0, n) :: r, M)
    | _ => none
  | .new _ => match xs with
    | c :: mode :: a :: _ => (am_lab mode a l M).bind fun L => (am_newo c.toNat M L).bind fun M' => some (l, (2, L) :: st, M')
    | _ => none
  | .newarray _ => match xs, st with
    | t :: mode :: a :: _, (0, n) :: r => (am_lab mode a l M).bind fun L => (am_newa t.toNat n M L).bind fun M' => some (l, (2, L) :: r, M')
    | _, _ => none
  | .anewarray _ => match xs, st with
    | t :: mode :: a :: _, (0, n) :: r => (am_lab mode a l M).bind fun L => (am_newa t.toNat n M L).bind fun M' => some (l, (2, L) :: r, M')
    | _, _ => none
  | .invokespecial _ => match xs, st with
    | [], (2, L) :: r => if L = 0 then none else bif Nat.ble r.length 4 then some (l, r, M) else none
    | _, _ => none
  | .invokestatic _ => match xs, st with
    | 0 :: _, (0, y) :: (0, x) :: r => bif Nat.ble r.length 4 then some (l, (0, if y < x then y else x) :: r, M) else none
    | 1 :: _, (0, y) :: (0, x) :: r => bif Nat.ble r.length 4 then some (l, (0, if x < y then y else x) :: r, M) else none
    | 2 :: _, (0, n) :: (0, dp) :: (2, b) :: (0, sp) :: (2, a) :: r => bif Nat.ble r.length 4 then (am_copy M a sp b dp n).bind fun M' => some (l, r, M') else none
    | _, _ => none
  | _ => none
