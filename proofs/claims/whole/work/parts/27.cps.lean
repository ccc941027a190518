/-! the same machine with its rest as a function: a block's equation holds by computing -/
abbrev am_Kc : Type := am_L → List am_V → am_M → Option am_R
def am_ldk (k' t : Nat) (l : am_L) (st : List am_V) (M : am_M) (k : am_Kc) : Option am_R :=
  match am_lk k' l with
  | some v => bif Nat.beq v.1 t then k l ((t, v.2) :: st) M else none
  | none => none
def am_stk (k' t : Nat) (l : am_L) (st : List am_V) (M : am_M) (k : am_Kc) : Option am_R :=
  match st with
  | v :: r => bif Nat.beq v.1 t then k (bif Nat.beq t 1 then am_st2 k' (t, v.2) l else am_st1 k' (t, v.2) l) r M else none
  | [] => none
theorem am_ldk_eq (k' t : Nat) (l : am_L) (st : List am_V) (M : am_M) (k : am_Kc) : am_ldk k' t l st M k = (am_ldv k' t l st M).bind fun s => k s.1 s.2.1 s.2.2 := by
  unfold am_ldk am_ldv
  cases am_lk k' l with
  | none => rfl
  | some v => dsimp only; cases Nat.beq v.1 t <;> rfl
theorem am_stk_eq (k' t : Nat) (l : am_L) (st : List am_V) (M : am_M) (k : am_Kc) : am_stk k' t l st M k = (am_stv k' t l st M).bind fun s => k s.1 s.2.1 s.2.2 := by
  unfold am_stk am_stv
  cases st with
  | nil => rfl
  | cons v r => dsimp only; cases Nat.beq v.1 t <;> rfl
def am_s1c (i : Instr) (xs : List Int) (l : am_L) (st : List am_V) (M : am_M) (k : am_Kc) : Option am_R :=
  match i with
  | .iload_n k' => am_ldk (k'.val) 0 l st M k
  | .iload k' => am_ldk (k') 0 l st M k
  | .lload_n k' => am_ldk (k'.val) 1 l st M k
  | .lload k' => am_ldk (k') 1 l st M k
  | .aload_n k' => am_ldk (k'.val) 2 l st M k
  | .aload k' => am_ldk (k') 2 l st M k
  | .istore_n k' => am_stk (k'.val) 0 l st M k
  | .istore k' => am_stk (k') 0 l st M k
  | .lstore_n k' => am_stk (k'.val) 1 l st M k
  | .lstore k' => am_stk (k') 1 l st M k
  | .astore_n k' => am_stk (k'.val) 2 l st M k
  | .astore k' => am_stk (k') 2 l st M k
  | .iconst n => k l ((0, n) :: st) M
  | .bipush n => k l ((0, n) :: st) M
  | .sipush n => k l ((0, n) :: st) M
  | .ldc _ => match xs with
    | v :: _ => k l ((0, v) :: st) M
    | [] => none
  | .ldc_w _ => match xs with
    | v :: _ => k l ((0, v) :: st) M
    | [] => none
  | .ldc2_w _ => match xs with
    | v :: _ => k l ((1, v) :: st) M
    | [] => none
  | .getstatic _ => match xs with
    | L :: _ => k l ((2, L) :: st) M
    | [] => none
  | .lconst n => k l ((1, (n.val : Int)) :: st) M
  | .aconst_null => k l ((2, 0) :: st) M
  | .dup => match st with
    | v :: r => bif Nat.beq v.1 1 then none else k l (v :: v :: r) M
    | [] => none
  | .pop => match st with
    | v :: r => bif Nat.beq v.1 1 then none else k l r M
    | [] => none
  | .dup2 => match st with
    | v :: w :: r => bif Nat.beq v.1 1 || Nat.beq w.1 1 then none else k l (v :: w :: v :: w :: r) M
    | _ => none
  | .iinc k' c => match am_lk k' l with
    | some (0, x) => k (am_st1 k' (0, am_w32 (x + c)) l) st M
    | _ => none
  | .iadd => match st with
    | (0, y) :: (0, x) :: r => k l ((0, am_w32 (x + y)) :: r) M
    | _ => none
  | .isub => match st with
    | (0, y) :: (0, x) :: r => k l ((0, am_w32 (x - y)) :: r) M
    | _ => none
  | .imul => match st with
    | (0, y) :: (0, x) :: r => k l ((0, am_w32 (x * y)) :: r) M
    | _ => none
  | .iand => match st with
    | (0, y) :: (0, x) :: r => k l ((0, am_and x y) :: r) M
    | _ => none
  | .ior => match st with
    | (0, y) :: (0, x) :: r => k l ((0, am_or x y) :: r) M
    | _ => none
  | .ishl => match st with
    | (0, y) :: (0, x) :: r => k l ((0, am_shl x y) :: r) M
    | _ => none
  | .iushr => match st with
    | (0, y) :: (0, x) :: r => k l ((0, am_ushr x y) :: r) M
    | _ => none
  | .ladd => match st with
    | (1, y) :: (1, x) :: r => k l ((1, am_w64 (x + y)) :: r) M
    | _ => none
  | .lmul => match st with
    | (1, y) :: (1, x) :: r => k l ((1, am_w64 (x * y)) :: r) M
    | _ => none
  | .land => match st with
    | (1, y) :: (1, x) :: r => k l ((1, am_land x y) :: r) M
    | _ => none
  | .lor => match st with
    | (1, y) :: (1, x) :: r => k l ((1, am_lor x y) :: r) M
    | _ => none
  | .lshl => match st with
    | (0, y) :: (1, x) :: r => k l ((1, am_lshl x y) :: r) M
    | _ => none
  | .lcmp => match st with
    | (1, y) :: (1, x) :: r => k l ((0, am_lcmp x y) :: r) M
    | _ => none
  | .i2l => match st with
    | (0, x) :: r => k l ((1, x) :: r) M
    | _ => none
  | .l2i => match st with
    | (1, x) :: r => k l ((0, am_w32 x) :: r) M
    | _ => none
  | .irem => match st with
    | (0, y) :: (0, x) :: r => (am_irem x y).bind fun z => k l ((0, z) :: r) M
    | _ => none
  | .ldiv => match st with
    | (1, y) :: (1, x) :: r => (am_ldiv x y).bind fun z => k l ((1, z) :: r) M
    | _ => none
  | .lrem => match st with
    | (1, y) :: (1, x) :: r => (am_lrem x y).bind fun z => k l ((1, z) :: r) M
    | _ => none
  | .getfield _ => match xs, st with
    | c :: k' :: t :: _, (2, L) :: r => (am_gf c.toNat k' M L).bind fun v => k l ((t.toNat, v) :: r) M
    | _, _ => none
  | .putfield _ => match xs, st with
    | c :: k' :: t :: z :: _, (tv, v) :: (2, L) :: r => bif Nat.beq tv t.toNat then (am_pf c.toNat k' z M L v).bind fun M' => k l r M' else none
    | _, _ => none
  | .iaload => match st with
    | (0, i) :: (2, L) :: r => (am_ald 0 M L i).bind fun v => k l ((0, v) :: r) M
    | _ => none
  | .laload => match st with
    | (0, i) :: (2, L) :: r => (am_ald 1 M L i).bind fun v => k l ((1, v) :: r) M
    | _ => none
  | .baload => match st with
    | (0, i) :: (2, L) :: r => (am_ald 2 M L i).bind fun v => k l ((0, v) :: r) M
    | _ => none
  | .aaload => match xs with
    | t :: _ => match st with
      | (0, i) :: (2, L) :: r => (am_ald t.toNat M L i).bind fun v => k l ((2, v) :: r) M
      | _ => none
    | [] => none
  | .iastore => match st with
    | (tv, v) :: (0, i) :: (2, L) :: r => bif Nat.beq tv 0 then (am_ast 0 M L i v).bind fun M' => k l r M' else none
    | _ => none
  | .lastore => match st with
    | (tv, v) :: (0, i) :: (2, L) :: r => bif Nat.beq tv 1 then (am_ast 1 M L i v).bind fun M' => k l r M' else none
    | _ => none
  | .bastore => match st with
    | (tv, v) :: (0, i) :: (2, L) :: r => bif Nat.beq tv 0 then (am_ast 2 M L i v).bind fun M' => k l r M' else none
    | _ => none
  | .aastore => match xs with
    | t :: _ => match st with
      | (tv, v) :: (0, i) :: (2, L) :: r => bif Nat.beq tv 2 then (am_ast t.toNat M L i v).bind fun M' => k l r M' else none
      | _ => none
    | [] => none
  | .arraylength => match st with
    | (2, L) :: r => (am_alen M L).bind fun n => k l ((0, n) :: r) M
    | _ => none
  | .new _ => match xs with
    | c :: mode :: a :: _ => (am_lab mode a l M).bind fun L => (am_newo c.toNat M L).bind fun M' => k l ((2, L) :: st) M'
    | _ => none
  | .newarray _ => match xs, st with
    | t :: mode :: a :: _, (0, n) :: r => (am_lab mode a l M).bind fun L => (am_newa t.toNat n M L).bind fun M' => k l ((2, L) :: r) M'
    | _, _ => none
  | .anewarray _ => match xs, st with
    | t :: mode :: a :: _, (0, n) :: r => (am_lab mode a l M).bind fun L => (am_newa t.toNat n M L).bind fun M' => k l ((2, L) :: r) M'
    | _, _ => none
  | .invokespecial _ => match xs, st with
    | [], (2, L) :: r => if L = 0 then none else bif Nat.ble r.length 4 then k l r M else none
    | _, _ => none
  | .invokestatic _ => match xs, st with
    | 0 :: _, (0, y) :: (0, x) :: r => bif Nat.ble r.length 4 then k l ((0, if y < x then y else x) :: r) M else none
    | 1 :: _, (0, y) :: (0, x) :: r => bif Nat.ble r.length 4 then k l ((0, if x < y then y else x) :: r) M else none
    | 2 :: _, (0, n) :: (0, dp) :: (2, b) :: (0, sp) :: (2, a) :: r => bif Nat.ble r.length 4 then (am_copy M a sp b dp n).bind fun M' => k l r M' else none
    | _, _ => none
  | _ => match am_s1 i xs l st M with
    | some s => k s.1 s.2.1 s.2.2
    | none => none
theorem am_bb {α β γ : Type} (o : Option α) (f : α → Option β) (g : β → Option γ) : (o.bind f).bind g = o.bind fun a => (f a).bind g := by cases o <;> rfl
theorem am_dft {i : Instr} {xs : List Int} {l : am_L} {st : List am_V} {M : am_M} {k : am_Kc} : (match am_s1 i xs l st M with
    | some s => k s.1 s.2.1 s.2.2
    | none => none) = (am_s1 i xs l st M).bind fun s => k s.1 s.2.1 s.2.2 := by
  cases am_s1 i xs l st M <;> rfl
def am_spc (i : Instr) : Bool := match i with
  | .iload_n _ => true
  | .iload _ => true
  | .lload_n _ => true
  | .lload _ => true
  | .aload_n _ => true
  | .aload _ => true
  | .istore_n _ => true
  | .istore _ => true
  | .lstore_n _ => true
  | .lstore _ => true
  | .astore_n _ => true
  | .astore _ => true
  | .iconst _ => true
  | .bipush _ => true
  | .sipush _ => true
  | .ldc _ => true
  | .ldc_w _ => true
  | .ldc2_w _ => true
  | .getstatic _ => true
  | .lconst _ => true
  | .aconst_null => true
  | .dup => true
  | .pop => true
  | .dup2 => true
  | .iinc _ _ => true
  | .iadd => true
  | .isub => true
  | .imul => true
  | .iand => true
  | .ior => true
  | .ishl => true
  | .iushr => true
  | .ladd => true
  | .lmul => true
  | .land => true
  | .lor => true
  | .lshl => true
  | .lcmp => true
  | .i2l => true
  | .l2i => true
  | .irem => true
  | .ldiv => true
  | .lrem => true
  | .getfield _ => true
  | .putfield _ => true
  | .iaload => true
  | .laload => true
  | .baload => true
  | .aaload => true
  | .iastore => true
  | .lastore => true
  | .bastore => true
  | .aastore => true
  | .arraylength => true
  | .new _ => true
  | .newarray _ => true
  | .anewarray _ => true
  | .invokespecial _ => true
  | .invokestatic _ => true
  | _ => false
theorem am_s1c_d {i : Instr} {xs : List Int} {l : am_L} {st : List am_V} {M : am_M} {k : am_Kc} (h : am_spc i = false) : am_s1c i xs l st M k = (match am_s1 i xs l st M with
    | some s => k s.1 s.2.1 s.2.2
    | none => none) := by
  cases i <;> first | rfl | (cases h; done)
theorem am_s1c_d2 {i : Instr} {xs : List Int} {l : am_L} {st : List am_V} {M : am_M} {k : am_Kc} (h : am_spc i = false) : am_s1c i xs l st M k = (am_s1 i xs l st M).bind fun s => k s.1 s.2.1 s.2.2 := (am_s1c_d h).trans am_dft
theorem am_s1c_eq (i : Instr) (xs : List Int) (l : am_L) (st : List am_V) (M : am_M) (k : am_Kc) : am_s1c i xs l st M k = (am_s1 i xs l st M).bind fun s => k s.1 s.2.1 s.2.2 := by
  have cb : ∀ {α β : Type} (b : Bool) (o : Option α) (f : α → Option β), (bif b then o else none).bind f = bif b then o.bind f else none := by
    intro α β b o f
    cases b <;> rfl
  cases i with
  | iload_n a0 => exact am_ldk_eq _ _ l st M k
  | iload a0 => exact am_ldk_eq _ _ l st M k
  | lload_n a0 => exact am_ldk_eq _ _ l st M k
  | lload a0 => exact am_ldk_eq _ _ l st M k
  | aload_n a0 => exact am_ldk_eq _ _ l st M k
  | aload a0 => exact am_ldk_eq _ _ l st M k
  | istore_n a0 => exact am_stk_eq _ _ l st M k
  | istore a0 => exact am_stk_eq _ _ l st M k
  | lstore_n a0 => exact am_stk_eq _ _ l st M k
  | lstore a0 => exact am_stk_eq _ _ l st M k
  | astore_n a0 => exact am_stk_eq _ _ l st M k
  | astore a0 => exact am_stk_eq _ _ l st M k
  | iconst a0 => rfl
  | bipush a0 => rfl
  | sipush a0 => rfl
  | ldc a0 => cases xs <;> rfl
  | ldc_w a0 => cases xs <;> rfl
  | ldc2_w a0 => cases xs <;> rfl
  | getstatic a0 => cases xs <;> rfl
  | lconst a0 => rfl
  | aconst_null => rfl
  | dup => 
    cases st with
    | nil => rfl
    | cons v r => unfold am_s1c am_s1; dsimp only; cases Nat.beq v.1 1 <;> rfl
  | pop => 
    cases st with
    | nil => rfl
    | cons v r => unfold am_s1c am_s1; dsimp only; cases Nat.beq v.1 1 <;> rfl
  | dup2 => 
    match st with
    | [] => rfl
    | [_] => rfl
    | v :: w :: r => unfold am_s1c am_s1; dsimp only; cases (Nat.beq v.1 1 || Nat.beq w.1 1) <;> rfl
  | iinc a0 a1 => 
    unfold am_s1c am_s1
    dsimp only
    split <;> simp_all
  | iadd => 
    unfold am_s1c am_s1 am_b0
    dsimp only
    split <;> simp
  | isub => 
    unfold am_s1c am_s1 am_b0
    dsimp only
    split <;> simp
  | imul => 
    unfold am_s1c am_s1 am_b0
    dsimp only
    split <;> simp
  | iand => 
    unfold am_s1c am_s1 am_b0
    dsimp only
    split <;> simp
  | ior => 
    unfold am_s1c am_s1 am_b0
    dsimp only
    split <;> simp
  | ishl => 
    unfold am_s1c am_s1 am_b0
    dsimp only
    split <;> simp
  | iushr => 
    unfold am_s1c am_s1 am_b0
    dsimp only
    split <;> simp
  | ladd => 
    unfold am_s1c am_s1 am_b1
    dsimp only
    split <;> simp
  | lmul => 
    unfold am_s1c am_s1 am_b1
    dsimp only
    split <;> simp
  | land => 
    unfold am_s1c am_s1 am_b1
    dsimp only
    split <;> simp
  | lor => 
    unfold am_s1c am_s1 am_b1
    dsimp only
    split <;> simp
  | lshl => 
    unfold am_s1c am_s1
    dsimp only
    split <;> simp
  | lcmp => 
    unfold am_s1c am_s1
    dsimp only
    split <;> simp
  | i2l => 
    unfold am_s1c am_s1
    dsimp only
    split <;> simp
  | l2i => 
    unfold am_s1c am_s1
    dsimp only
    split <;> simp
  | irem =>
    unfold am_s1c am_s1 am_b0
    dsimp only
    split <;> simp [am_bb]
  | ldiv =>
    unfold am_s1c am_s1 am_b1
    dsimp only
    split <;> simp [am_bb]
  | lrem =>
    unfold am_s1c am_s1 am_b1
    dsimp only
    split <;> simp [am_bb]
  | getfield idx =>
    unfold am_s1c am_s1
    dsimp only
    split <;> simp [am_bb]
  | putfield idx =>
    unfold am_s1c am_s1
    dsimp only
    split <;> simp [am_bb, cb]
  | iaload =>
    unfold am_s1c am_s1 am_aldv
    dsimp only
    split <;> simp [am_bb]
  | laload =>
    unfold am_s1c am_s1 am_aldv
    dsimp only
    split <;> simp [am_bb]
  | baload =>
    unfold am_s1c am_s1 am_aldv
    dsimp only
    split <;> simp [am_bb]
  | aaload =>
    unfold am_s1c am_s1 am_aldv
    dsimp only
    cases xs with
    | nil => rfl
    | cons t xs =>
      dsimp only
      split <;> simp [am_bb]
  | iastore =>
    unfold am_s1c am_s1 am_astv
    dsimp only
    split <;> simp [am_bb, cb]
  | lastore =>
    unfold am_s1c am_s1 am_astv
    dsimp only
    split <;> simp [am_bb, cb]
  | bastore =>
    unfold am_s1c am_s1 am_astv
    dsimp only
    split <;> simp [am_bb, cb]
  | aastore =>
    unfold am_s1c am_s1 am_astv
    dsimp only
    cases xs with
    | nil => rfl
    | cons t xs =>
      dsimp only
      split <;> simp [am_bb, cb]
  | arraylength =>
    unfold am_s1c am_s1
    dsimp only
    split <;> simp [am_bb]
  | new idx =>
    unfold am_s1c am_s1
    dsimp only
    split <;> simp [am_bb]
  | newarray a =>
    unfold am_s1c am_s1
    dsimp only
    split <;> simp [am_bb]
  | anewarray idx =>
    unfold am_s1c am_s1
    dsimp only
    split <;> simp [am_bb]
  | invokespecial idx =>
    unfold am_s1c am_s1
    dsimp only
    split
    · rename_i L r
      by_cases h : L = 0 <;> simp [h, cb]
    · simp
  | invokestatic idx =>
    unfold am_s1c am_s1
    dsimp only
    split <;> simp [am_bb, cb]
  | _ => exact am_s1c_d2 rfl
/-- what comes behind an instruction -/
def am_fin (live : Nat → List (Nat × Nat)) (K : am_Kt) (C : am_Ct) (go : am_Kc) (l : am_L) (M : am_M) (w : Option am_C) : Option am_R :=
  match w with
  | none => none
  | some (.inl s) => go s.1 s.2.1 s.2.2
  | some (.inr (.inl (c, b1, b2, r))) => bif c then am_J live K b1 l r M else am_J live K b2 l r M
  | some (.inr (.inr (.inl (x, ps, d, r)))) => am_sw live K x d l r M ps
  | some (.inr (.inr (.inr (.inl (z, as, rest, rt))))) => (C z as M).bind fun q => go l (am_ans rt q.1 rest) q.2
  | some (.inr (.inr (.inr (.inr v)))) => some (v, M)
theorem am_ex_cons (live : Nat → List (Nat × Nat)) (K : am_Kt) (C : am_Ct) (i : am_I) (is : List am_I) (l : am_L) (st : List am_V) (M : am_M) : am_ex live K C (i :: is) l st M = am_fin live K C (am_ex live K C is) l M (am_ct i.2.1 i.2.2 l st M) := rfl
def am_cl (C : am_Ct) (go : am_Kc) (z n rt : Int) (l : am_L) (st : List am_V) (M : am_M) : Option am_R :=
  bif Nat.ble n.toNat st.length && Nat.ble (st.drop n.toNat).length 4 then (C z.toNat (st.take n.toNat).reverse M).bind fun q => go l (am_ans rt.toNat q.1 (st.drop n.toNat)) q.2 else none
theorem am_cl_eq (live : Nat → List (Nat × Nat)) (K : am_Kt) (C : am_Ct) (go : am_Kc) (z n rt : Int) (l : am_L) (st : List am_V) (M : am_M) : am_fin live K C go l M (am_callOf z n rt st) = am_cl C go z n rt l st M := by
  unfold am_callOf am_cl
  cases Nat.ble n.toNat st.length && Nat.ble (st.drop n.toNat).length 4 <;> rfl
def am_ic (live : Nat → List (Nat × Nat)) (K : am_Kt) (C : am_Ct) (go : am_Kc) (i : Instr) (xs : List Int) (l : am_L) (st : List am_V) (M : am_M) : Option am_R :=
  match i with
  | .invokevirtual _ => match xs with
    | 3 :: z :: n :: rt :: cz :: _ => match st.drop (n.toNat - 1) with
      | (2, L) :: _ => if 0 < L ∧ am_cls L = cz.toNat then am_cl C go z n rt l st M else none
      | _ => none
    | _ => none
  | .invokespecial _ => match xs with
    | 3 :: z :: n :: rt :: _ => match st.drop (n.toNat - 1) with
      | (2, L) :: _ => if L = 0 then none else am_cl C go z n rt l st M
      | _ => none
    | [] => am_s1c i [] l st M go
    | _ => none
  | .invokestatic _ => match xs with
    | 3 :: z :: n :: rt :: _ => am_cl C go z n rt l st M
    | _ => am_s1c i xs l st M go
  | .ireturn => match xs, st with
    | z :: _, [(0, x)] => bif decide (z = 1) then (if x = 0 ∨ x = 1 then some (x, M) else none) else some (x, M)
    | _, _ => none
  | _ => match am_kd i with
    | 0 => am_s1c i xs l st M go
    | _ => am_fin live K C go l M (am_ct i xs l st M)
theorem am_fin_s1 {live : Nat → List (Nat × Nat)} {K : am_Kt} {C : am_Ct} {go : am_Kc} {i : Instr} {xs : List Int} {l : am_L} {st : List am_V} {M : am_M} : am_fin live K C go l M ((am_s1 i xs l st M).map .inl) = am_s1c i xs l st M go := by
  rw [am_s1c_eq]
  cases am_s1 i xs l st M <;> rfl
theorem am_fin_0 {live : Nat → List (Nat × Nat)} {K : am_Kt} {C : am_Ct} {go : am_Kc} {i : Instr} {xs : List Int} {l : am_L} {st : List am_V} {M : am_M} (hk : am_kd i = 0) : am_fin live K C go l M (am_ct i xs l st M) = am_s1c i xs l st M go := (congrArg (am_fin live K C go l M) (am_ct_0 hk)).trans am_fin_s1
theorem am_ic_eq (live : Nat → List (Nat × Nat)) (K : am_Kt) (C : am_Ct) (go : am_Kc) (i : Instr) (xs : List Int) (l : am_L) (st : List am_V) (M : am_M) : am_fin live K C go l M (am_ct i xs l st M) = am_ic live K C go i xs l st M := by
  cases i with
  | invokevirtual idx =>
    unfold am_ct am_ic
    dsimp only
    split
    · rename_i z n rt cz tl
      show am_fin live K C go l M (match st.drop (n.toNat - 1) with
        | (2, L) :: _ => if 0 < L ∧ am_cls L = cz.toNat then am_callOf z n rt st else none
        | _ => none) = (match st.drop (n.toNat - 1) with
        | (2, L) :: _ => if 0 < L ∧ am_cls L = cz.toNat then am_cl C go z n rt l st M else none
        | _ => none)
      cases hd : st.drop (n.toNat - 1) with
      | nil => rfl
      | cons v tl' =>
        obtain ⟨t, L⟩ := v
        match t with
        | 0 => rfl
        | 1 => rfl
        | 2 =>
          show am_fin live K C go l M (if 0 < L ∧ am_cls L = cz.toNat then am_callOf z n rt st else none) = if 0 < L ∧ am_cls L = cz.toNat then am_cl C go z n rt l st M else none
          by_cases h : 0 < L ∧ am_cls L = cz.toNat
          · rw [if_pos h, if_pos h]; exact am_cl_eq live K C go _ _ _ l st M
          · rw [if_neg h, if_neg h]; rfl
        | t + 3 => rfl
    · rename_i hne
      split
      · exact (hne _ _ _ _ _ rfl).elim
      · rfl
  | invokespecial idx =>
    unfold am_ct am_ic
    dsimp only
    split
    · rename_i z n rt tl
      show am_fin live K C go l M (match st.drop (n.toNat - 1) with
        | (2, L) :: _ => if L = 0 then none else am_callOf z n rt st
        | _ => none) = (match st.drop (n.toNat - 1) with
        | (2, L) :: _ => if L = 0 then none else am_cl C go z n rt l st M
        | _ => none)
      cases hd : st.drop (n.toNat - 1) with
      | nil => rfl
      | cons v tl' =>
        obtain ⟨t, L⟩ := v
        match t with
        | 0 => rfl
        | 1 => rfl
        | 2 =>
          show am_fin live K C go l M (if L = 0 then none else am_callOf z n rt st) = if L = 0 then none else am_cl C go z n rt l st M
          by_cases h : L = 0
          · rw [if_pos h, if_pos h]; rfl
          · rw [if_neg h, if_neg h]; exact am_cl_eq live K C go _ _ _ l st M
        | t + 3 => rfl
    · exact am_fin_s1
    · rename_i hne1 hne2
      split
      · exact (hne1 _ _ _ _ rfl).elim
      · exact (hne2 rfl).elim
      · rfl
  | invokestatic idx =>
    unfold am_ct am_ic
    dsimp only
    split
    · exact am_cl_eq live K C go _ _ _ l st M
    · rename_i hne
      split
      · exact (hne _ _ _ _ rfl).elim
      · exact am_fin_s1
  | ireturn =>
    unfold am_ct am_ic
    dsimp only
    split
    · rename_i z tl x
      show am_fin live K C go l M (if z = 1 ∧ ¬ (x = 0 ∨ x = 1) then none else some (.inr (.inr (.inr (.inr x))))) = bif decide (z = 1) then (if x = 0 ∨ x = 1 then some (x, M) else none) else some (x, M)
      by_cases hz : z = 1
      · rw [decide_eq_true hz]
        by_cases hx : x = 0 ∨ x = 1
        · rw [if_neg (fun q => q.2 hx)]
          show some (x, M) = if x = 0 ∨ x = 1 then some (x, M) else none
          rw [if_pos hx]
        · rw [if_pos ⟨hz, hx⟩]
          show none = if x = 0 ∨ x = 1 then some (x, M) else none
          rw [if_neg hx]
      · rw [decide_eq_false hz, if_neg (fun q => hz q.1)]
        rfl
    · rename_i hne
      split
      · first | exact (hne _ _ _ rfl rfl).elim | simp_all
      · rfl
  | nop => rfl
  | goto off => rfl
  | ifCond c off => rfl
  | if_icmp c off => rfl
  | ifnull off => rfl
  | ifnonnull off => rfl
  | tableswitch d lo hi offs => rfl
  | lookupswitch d prs => rfl
  | lreturn => rfl
  | areturn => rfl
  | return_ => rfl
  | _ => exact am_fin_0 rfl
def am_exc (live : Nat → List (Nat × Nat)) (K : am_Kt) (C : am_Ct) : List am_I → am_Kc
  | [] => fun _ _ _ => none
  | i :: is => fun l st M => am_ic live K C (am_exc live K C is) i.2.1 i.2.2 l st M
theorem am_ex_c (live : Nat → List (Nat × Nat)) (K : am_Kt) (C : am_Ct) : ∀ (is : List am_I), am_ex live K C is = am_exc live K C is
  | [] => rfl
  | i :: is => by
    funext l st M
    rw [am_ex_cons, am_ex_c live K C is, am_ic_eq]
    rfl
/-- a block's equation, to be computed -/
theorem am_blk (P : am_P) (y b : Nat) (vs : List Int) (st : List am_V) (M : am_M) : am_ev P y b vs st M = am_exc (fun b' => (P y b').1) (am_ev P y) (am_evm P) (P y b).2 (am_zip (P y b).1 vs) st M := by
  rw [am_ev_eq]
  unfold am_bk
  rw [am_ex_c]
  rfl
