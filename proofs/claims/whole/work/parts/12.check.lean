def am_w (p : Int) (w : Cond) : Bool := decide (lw_tbl[p.toNat]? = some w) && goodWord w
def am_wn (p : Int) (w : Cond) : Bool := decide (lw_tbl[p.toNat]? = some w) && am_isN w
theorem am_w_in {p : Int} {w : Cond} (h : am_w p w = true) : w ∈ am_tbl := by
  unfold am_w at h
  simp only [Bool.and_eq_true, decide_eq_true_eq] at h
  exact am_tbl_at p.toNat h.1 h.2
theorem am_wn_in {p : Int} {w : Cond} (h : am_wn p w = true) : w ∈ am_nst := by
  unfold am_wn at h
  simp only [Bool.and_eq_true, decide_eq_true_eq] at h
  exact List.mem_filter.mpr ⟨List.mem_of_getElem? h.1, h.2⟩
/-- how long an instruction is -/
def am_il (i : Instr) : Nat := match i with
  | .iload _ => 2
  | .lload _ => 2
  | .aload _ => 2
  | .istore _ => 2
  | .lstore _ => 2
  | .astore _ => 2
  | .bipush _ => 2
  | .ldc _ => 2
  | .newarray _ => 2
  | .sipush _ => 3
  | .iinc _ _ => 3
  | .ldc2_w _ => 3
  | .ldc_w _ => 3
  | .getfield _ => 3
  | .putfield _ => 3
  | .getstatic _ => 3
  | .new _ => 3
  | .anewarray _ => 3
  | .invokevirtual _ => 3
  | .invokespecial _ => 3
  | .invokestatic _ => 3
  | .goto _ => 3
  | .ifCond _ _ => 3
  | .if_icmp _ _ => 3
  | .ifnull _ => 3
  | .ifnonnull _ => 3
  | _ => 1
def am_tyb (t : Nat) (z : Int) (ty : FieldType) : Bool := match t, ty with
  | 0, .int => true
  | 0, .boolean => decide (z = 4)
  | 1, .long => true
  | 2, .object _ => true
  | 2, .array _ => true
  | _, _ => false
theorem am_tyb_of {t : Nat} {z : Int} {ty : FieldType} (h : am_tyb t z ty = true) : (t = 0 ∧ ty = .int) ∨ (t = 0 ∧ z = 4 ∧ ty = .boolean) ∨ (t = 1 ∧ ty = .long) ∨ (t = 2 ∧ ((∃ n, ty = .object n) ∨ ∃ n, ty = .array n)) := by
  unfold am_tyb at h
  split at h
  · exact Or.inl ⟨rfl, rfl⟩
  · exact Or.inr (Or.inl ⟨rfl, of_decide_eq_true h, rfl⟩)
  · exact Or.inr (Or.inr (Or.inl ⟨rfl, rfl⟩))
  · exact Or.inr (Or.inr (Or.inr ⟨rfl, Or.inl ⟨_, rfl⟩⟩))
  · exact Or.inr (Or.inr (Or.inr ⟨rfl, Or.inr ⟨_, rfl⟩⟩))
  · cases h
/-- the parts of a check, by a table's row -/
def am_ckG (own : String) (idx : Nat) (q : vw_C) (c k : Nat) (t : Nat) (p h : Int) : Bool :=
  decide (k < q.2.2) && decide (t = am_ftag c k) && (bif decide (h = 0) then am_w p (.fieldLink own idx (q.2.1 k).1 (q.2.1 k).2.1 (q.2.1 k).2.2.1) else am_wn p (.fieldLinkNest own idx (q.2.1 k).1 (q.2.1 k).2.1 (q.2.1 k).2.2.1 "WeaveHall"))
def am_okb (own : String) (nL : Nat) (ini : Bool) (i : Instr) (xs : List Int) : Bool := match i with
  | .istore_n k => decide (k.val < nL)
  | .astore_n k => decide (k.val < nL)
  | .lstore_n k => decide (k.val + 1 < nL)
  | .istore k => decide (k < nL)
  | .astore k => decide (k < nL)
  | .lstore k => decide (k + 1 < nL)
  | .iinc k _ => decide (k < nL)
  | .iconst n => decide (-128 ≤ n) && decide (n ≤ 127)
  | .bipush n => decide (-128 ≤ n) && decide (n ≤ 127)
  | .sipush n => decide (-32768 ≤ n) && decide (n ≤ 32767)
  | .ldc idx => match xs with
    | v :: p :: _ => am_w p (.constant own idx (Int32.ofInt v)) && decide (am_r32 v)
    | _ => false
  | .ldc_w idx => match xs with
    | v :: p :: _ => am_w p (.constant own idx (Int32.ofInt v)) && decide (am_r32 v)
    | _ => false
  | .ldc2_w idx => match xs with
    | v :: p :: _ => am_w p (.constantLong own idx (Int64.ofInt v)) && decide (am_r64 v)
    | _ => false
  | .getfield idx => match xs with
    | c :: k :: t :: p :: h :: _ => match vwCl[c.toNat]? with
      | some q => decide (0 ≤ k) && am_ckG own idx q c.toNat k.toNat t.toNat p h
      | none => false
    | _ => false
  | .putfield idx => match xs with
    | c :: k :: t :: z :: p :: h :: _ => match vwCl[c.toNat]? with
      | some q => decide (0 ≤ k) && am_ckG own idx q c.toNat k.toNat t.toNat p h && am_tyb t.toNat z (am_tyq c.toNat k.toNat) && (decide ((q.2.1 k.toNat).2.2.2 = false) || (ini && decide (h = 0) && decide ((q.2.1 k.toNat).1 = own)))
      | none => false
    | _ => false
  | .getstatic idx => match xs with
    | L :: p :: _ => (decide (L = 2) && am_w p (.fieldLink own idx RX6 "PORTS_IN" "[I")) || (decide (L = 3) && am_w p (.fieldLink own idx RX6 "PORTS_OUT" "[I"))
    | _ => false
  | .aaload => match xs with
    | t :: _ => decide (t = 3) || decide (t = 4)
    | _ => false
  | .aastore => match xs with
    | t :: _ => decide (t = 3) || decide (t = 4)
    | _ => false
  | .new idx => match xs with
    | c :: _ :: _ :: p1 :: p2 :: p3 :: _ => match vwCl[c.toNat]? with
      | some q => am_w p1 (.classLink own idx q.1) && am_w p2 (.instantiable q.1 q.2.2) && am_w p3 (.initialized q.1)
      | none => false
    | _ => false
  | .newarray at' => match xs with
    | t :: _ :: _ :: p1 :: _ => ((decide (t = 0) && decide (at' = .int)) || (decide (t = 1) && decide (at' = .long)) || (decide (t = 2) && decide (at' = .boolean))) && am_w p1 (.arrayClass (newarray.typeOf at'))
    | _ => false
  | .anewarray idx => match xs with
    | t :: _ :: _ :: p1 :: _ => (decide (t = 3) && am_w p1 (.classLink own idx RX5)) || (decide (t = 4) && am_w p1 (.classLink own idx RX0))
    | _ => false
  | .invokespecial idx => match xs with
    | [] => decide (Cond.methodLink own idx objectInit ∈ lw_tbl)
    | _ => false
  | .invokestatic idx => match xs with
    | 0 :: p :: _ => am_w p (.methodLink own idx Lib.Math.min.name)
    | 1 :: p :: _ => am_w p (.methodLink own idx Lib.Math.max.name)
    | 2 :: p :: _ => am_w p (.methodLink own idx arraycopyName)
    | _ => false
  | _ => true
theorem am_tbl_in {w : Cond} (h : decide (w ∈ lw_tbl) = true) (hg : goodWord w = true) : w ∈ am_tbl := List.mem_filter.mpr ⟨of_decide_eq_true h, hg⟩
theorem am_k1 : Cond.instanceMethod objectInit ∈ am_tbl := am_tbl_in (by decide +kernel) rfl
theorem am_k2 : Cond.code objectInit ⟨#[0xb1]⟩ 1 none ∈ am_tbl := am_tbl_in (by decide +kernel) rfl
theorem am_k3 : Cond.static Lib.Math.min.name ∈ am_tbl := am_tbl_in (by decide +kernel) rfl
theorem am_k4 : Cond.initialized "java/lang/Math" ∈ am_tbl := am_tbl_in (by decide +kernel) rfl
theorem am_k5 : Cond.code Lib.Math.min.name Lib.Math.min.code 2 (some .int) ∈ am_tbl := am_tbl_in (by decide +kernel) rfl
theorem am_k6 : Cond.static Lib.Math.max.name ∈ am_tbl := am_tbl_in (by decide +kernel) rfl
theorem am_k7 : Cond.code Lib.Math.max.name Lib.Math.max.code 2 (some .int) ∈ am_tbl := am_tbl_in (by decide +kernel) rfl
theorem am_k8 : Cond.native arraycopyName ∈ am_tbl := am_tbl_in (by decide +kernel) rfl
theorem am_k9 : Cond.static arraycopyName ∈ am_tbl := am_tbl_in (by decide +kernel) rfl
theorem am_k10 : Cond.initialized "java/lang/System" ∈ am_tbl := am_tbl_in (by decide +kernel) rfl
theorem am_k11 : nativeFrameWords "java/lang/System" "arraycopy" 5 ≤ 20 := by decide +kernel
def am_nd (i : Instr) : Bool := match i with
  | .invokespecial _ => true
  | .invokestatic _ => true
  | _ => false
