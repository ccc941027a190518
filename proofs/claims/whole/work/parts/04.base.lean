/-! values of the small machine as the machine has them -/
def am_val (ad : Int → Nat) (v : am_V) : Value := match v.1 with
  | 0 => .int (Int32.ofInt v.2)
  | 1 => .long (Int64.ofInt v.2)
  | _ => if v.2 = 0 then .null else .ref (ad v.2)
def am_rf (ad : Int → Nat) (x : Int) : Option Nat := if x = 0 then none else some (ad x)
abbrev am_r32 (x : Int) : Prop := -2147483648 ≤ x ∧ x < 2147483648
abbrev am_r64 (x : Int) : Prop := -9223372036854775808 ≤ x ∧ x < 9223372036854775808
def am_wv (al : List Int) (v : am_V) : Prop := (v.1 = 0 → am_r32 v.2) ∧ (v.1 = 1 → am_r64 v.2) ∧ (2 ≤ v.1 → v.2 = 0 ∨ v.2 ∈ al ∨ v.2 = 1 ∨ v.2 = 2 ∨ v.2 = 3)
theorem am_val0 (ad : Int → Nat) (x : Int) : am_val ad (0, x) = .int (Int32.ofInt x) := rfl
theorem am_val1 (ad : Int → Nat) (x : Int) : am_val ad (1, x) = .long (Int64.ofInt x) := rfl
theorem am_val2 (ad : Int → Nat) (x : Int) : am_val ad (2, x) = va_rf (am_rf ad x) := by
  show (if x = 0 then Value.null else .ref (ad x)) = va_rf (if x = 0 then none else some (ad x))
  by_cases h : x = 0 <;> simp [h, va_rf]
theorem am_val2n (ad : Int → Nat) : am_val ad (2, 0) = .null := rfl
theorem am_val2r (ad : Int → Nat) {x : Int} (h : x ≠ 0) : am_val ad (2, x) = .ref (ad x) := by
  show (if x = 0 then Value.null else .ref (ad x)) = _
  rw [if_neg h]
theorem am_val_cat (ad : Int → Nat) (v : am_V) : ((am_val ad v).category == 2) = Nat.beq v.1 1 := by
  obtain ⟨t, x⟩ := v
  match t with
  | 0 => rfl
  | 1 => rfl
  | t + 2 =>
    show (Value.category (if x = 0 then Value.null else .ref (ad x)) == 2) = _
    by_cases h : x = 0 <;> simp [h, Value.category, Nat.beq]
theorem am_val_cat1 (ad : Int → Nat) {v : am_V} (h : v.1 ≠ 1) : (am_val ad v).category = 1 := by
  obtain ⟨t, x⟩ := v
  match t with
  | 0 => rfl
  | 1 => exact absurd rfl h
  | t + 2 =>
    show (Value.category (if x = 0 then Value.null else .ref (ad x))) = 1
    by_cases h : x = 0 <;> simp [h, Value.category]
theorem am_w32_r (x : Int) : am_r32 (am_w32 x) := by
  have h1 := Int.le_bmod (x := x) (m := 4294967296) (by decide)
  have h2 := Int.bmod_lt (x := x) (m := 4294967296) (by decide)
  unfold am_w32 am_r32
  omega
theorem am_w64_r (x : Int) : am_r64 (am_w64 x) := by
  have h1 := Int.le_bmod (x := x) (m := 18446744073709551616) (by decide)
  have h2 := Int.bmod_lt (x := x) (m := 18446744073709551616) (by decide)
  unfold am_w64 am_r64
  omega
theorem am_w32_id {x : Int} (h1 : -2147483648 ≤ x) (h2 : x < 2147483648) : am_w32 x = x := Int.bmod_eq_of_le (by omega) (by omega)
theorem am_w64_id {x : Int} (h1 : -9223372036854775808 ≤ x) (h2 : x < 9223372036854775808) : am_w64 x = x := Int.bmod_eq_of_le (by omega) (by omega)
theorem am_i32_w (x : Int) : Int32.ofInt (am_w32 x) = Int32.ofInt x := by
  apply Int32.toInt_inj.mp
  rw [Int32.toInt_ofInt, Int32.toInt_ofInt]
  show Int.bmod (Int.bmod x 4294967296) 4294967296 = Int.bmod x 4294967296
  exact Int.bmod_bmod
theorem am_i64_w (x : Int) : Int64.ofInt (am_w64 x) = Int64.ofInt x := by
  apply Int64.toInt_inj.mp
  rw [Int64.toInt_ofInt, Int64.toInt_ofInt]
  show Int.bmod (Int.bmod x 18446744073709551616) 18446744073709551616 = Int.bmod x 18446744073709551616
  exact Int.bmod_bmod
theorem am_i32_t {x : Int} (h : am_r32 x) : (Int32.ofInt x).toInt = x := Int32.toInt_ofInt_of_le h.1 h.2
theorem am_i64_t {x : Int} (h : am_r64 x) : (Int64.ofInt x).toInt = x := Int64.toInt_ofInt_of_le h.1 h.2
theorem am_t32_r (x : Int32) : am_r32 x.toInt := ⟨x.le_toInt, x.toInt_lt⟩
theorem am_t64_r (x : Int64) : am_r64 x.toInt := ⟨x.le_toInt, x.toInt_lt⟩
theorem am_i32_inj {x y : Int} (hx : am_r32 x) (hy : am_r32 y) : Int32.ofInt x = Int32.ofInt y ↔ x = y := by
  constructor
  · intro h
    have := congrArg Int32.toInt h
    rwa [am_i32_t hx, am_i32_t hy] at this
  · intro h; rw [h]
theorem am_i32_lt {x y : Int} (hx : am_r32 x) (hy : am_r32 y) : Int32.ofInt x < Int32.ofInt y ↔ x < y := by
  rw [Int32.lt_iff_toInt_lt, am_i32_t hx, am_i32_t hy]
theorem am_i32_le {x y : Int} (hx : am_r32 x) (hy : am_r32 y) : Int32.ofInt x ≤ Int32.ofInt y ↔ x ≤ y := by
  rw [Int32.le_iff_toInt_le, am_i32_t hx, am_i32_t hy]
theorem am_i64_inj {x y : Int} (hx : am_r64 x) (hy : am_r64 y) : Int64.ofInt x = Int64.ofInt y ↔ x = y := by
  constructor
  · intro h
    have := congrArg Int64.toInt h
    rwa [am_i64_t hx, am_i64_t hy] at this
  · intro h; rw [h]
theorem am_i64_lt {x y : Int} (hx : am_r64 x) (hy : am_r64 y) : Int64.ofInt x < Int64.ofInt y ↔ x < y := by
  rw [Int64.lt_iff_toInt_lt, am_i64_t hx, am_i64_t hy]
theorem am_irem_i {x y : Int} (hx : am_r32 x) (hy : am_r32 y) : Int32.ofInt x - Int32.ofInt x / Int32.ofInt y * Int32.ofInt y = Int32.ofInt (Int.tmod x y) := by
  apply Int32.toInt_inj.mp
  rw [rem_toInt, am_i32_t hx, am_i32_t hy]
  have h : (Int32.ofInt x - Int32.ofInt x / Int32.ofInt y * Int32.ofInt y).toInt = Int.tmod x y := by rw [rem_toInt, am_i32_t hx, am_i32_t hy]
  rw [← h, Int32.ofInt_toInt]
theorem am_irem_r {x y : Int} (hx : am_r32 x) (hy : am_r32 y) : am_r32 (Int.tmod x y) := by
  have h : (Int32.ofInt x - Int32.ofInt x / Int32.ofInt y * Int32.ofInt y).toInt = Int.tmod x y := by rw [rem_toInt, am_i32_t hx, am_i32_t hy]
  rw [← h]
  exact am_t32_r _
theorem am_lrem64 (x y : Int64) : x - (x / y) * y = x % y := by
  apply Int64.toInt_inj.mp
  have h1 := Int64.le_toInt (x % y)
  have h2 := Int64.toInt_lt (x % y)
  rw [Int64.toInt_sub, Int64.toInt_mul, Int64.toInt_div, Int.bmod_mul_bmod, Int.sub_bmod_bmod, Int.mul_comm (x.toInt.tdiv y.toInt), ← Int.tmod_def, ← Int64.toInt_mod]
  exact Int.bmod_eq_of_le_mul_two (by omega) (by omega)
theorem am_lrem_i {x y : Int} (hx : am_r64 x) (hy : am_r64 y) : Int64.ofInt x - Int64.ofInt x / Int64.ofInt y * Int64.ofInt y = Int64.ofInt (Int.tmod x y) := by
  have h : (Int64.ofInt x % Int64.ofInt y).toInt = Int.tmod x y := by rw [Int64.toInt_mod, am_i64_t hx, am_i64_t hy]
  rw [am_lrem64, ← h, Int64.ofInt_toInt]
theorem am_lrem_r {x y : Int} (hx : am_r64 x) (hy : am_r64 y) : am_r64 (Int.tmod x y) := by
  have h : (Int64.ofInt x % Int64.ofInt y).toInt = Int.tmod x y := by rw [Int64.toInt_mod, am_i64_t hx, am_i64_t hy]
  rw [← h]
  exact am_t64_r _
theorem am_ldiv_i {x y : Int} (hx : am_r64 x) (hy : am_r64 y) : Int64.ofInt x / Int64.ofInt y = Int64.ofInt (am_w64 (Int.tdiv x y)) := by
  have h : (Int64.ofInt x / Int64.ofInt y).toInt = am_w64 (Int.tdiv x y) := by rw [Int64.toInt_div, am_i64_t hx, am_i64_t hy]; rfl
  rw [← h, Int64.ofInt_toInt]
theorem am_lcmp_i {x y : Int} (hx : am_r64 x) (hy : am_r64 y) : lg_cmp (Int64.ofInt x) (Int64.ofInt y) = Int32.ofInt (am_lcmp x y) := by
  unfold lg_cmp am_lcmp
  have e1 := am_i64_lt hy hx
  have e2 := am_i64_inj hx hy
  have e3 := am_i64_lt hx hy
  rcases Int.lt_trichotomy x y with h | h | h
  · have : ¬ y < x := by omega
    have h3 : ¬ x = y := by omega
    simp_all
    try rfl
  · subst h
    simp
    try rfl
  · have h4 : ¬ x < y := by omega
    have h3 : ¬ x = y := by omega
    rw [if_pos (e1.mpr h), if_neg h4, if_neg h3]
    rfl
theorem am_lcmp_r (x y : Int) : am_r32 (am_lcmp x y) := by
  unfold am_lcmp am_r32
  split
  · omega
  · split <;> omega
theorem am_lk_mem {k : Nat} {v : am_V} : ∀ {l : am_L}, am_lk k l = some v → (k, v) ∈ l
  | [], h => by cases h
  | q :: l, h => by
    unfold am_lk at h
    cases hb : Nat.beq q.1 k with
    | true =>
      rw [hb] at h
      have e : q.1 = k := Nat.eq_of_beq_eq_true hb
      have h2 : q.2 = v := Option.some.inj h
      rw [← e, ← h2]
      exact List.mem_cons_self
    | false =>
      rw [hb] at h
      exact List.mem_cons_of_mem _ (am_lk_mem h)
/-- the places as the machine has them -/
abbrev am_lv (ad : Int → Nat) (l : am_L) : List (Nat × Value) := l.map fun q => (q.1, am_val ad q.2)
theorem am_beq (a b : Nat) : (a == b) = Nat.beq a b := by
  cases h : Nat.beq a b with
  | true => rw [Nat.eq_of_beq_eq_true h]; simp
  | false => exact beq_eq_false_iff_ne.mpr (Nat.ne_of_beq_eq_false h)
theorem am_st1_lv (ad : Int → Nat) (k : Nat) (v : am_V) (l : am_L) : (k, am_val ad v) :: (am_lv ad l).filter (fun q => !(q.1 == k) && !(q.1 + 1 == k && q.2.category == 2)) = am_lv ad (am_st1 k v l) := by
  unfold am_lv am_st1
  rw [List.map_cons, List.filter_map]
  congr 2
  apply List.filter_congr
  intro q _
  simp only [Function.comp_apply, am_val_cat]
  simp only [am_beq]
theorem am_st2_lv (ad : Int → Nat) (k : Nat) (v : am_V) (l : am_L) : (k, am_val ad v) :: (am_lv ad l).filter (fun q => !(q.1 == k) && (!(q.1 == k + 1) && !(q.1 + 1 == k && q.2.category == 2))) = am_lv ad (am_st2 k v l) := by
  unfold am_lv am_st2
  rw [List.map_cons, List.filter_map]
  congr 2
  apply List.filter_congr
  intro q _
  simp only [Function.comp_apply, am_val_cat]
  simp only [am_beq]
theorem am_st1_mem {k : Nat} {v : am_V} {l : am_L} {q : Nat × am_V} (h : q ∈ am_st1 k v l) : q = (k, v) ∨ q ∈ l := by
  unfold am_st1 at h
  rcases List.mem_cons.mp h with h | h
  · exact Or.inl h
  · exact Or.inr (List.mem_filter.mp h).1
theorem am_st2_mem {k : Nat} {v : am_V} {l : am_L} {q : Nat × am_V} (h : q ∈ am_st2 k v l) : q = (k, v) ∨ q ∈ l := by
  unfold am_st2 at h
  rcases List.mem_cons.mp h with h | h
  · exact Or.inl h
  · exact Or.inr (List.mem_filter.mp h).1
/-- tags of the fields: 0 int, boolean; 1 long; 2 reference -/
def am_FT : List (List Nat) := [
  [0, 2, 2, 2, 0, 0, 0, 2, 0, 0, 0, 1], [2, 2, 2, 0], [2, 2, 2, 0], [2, 0], [2, 2, 2, 2, 0, 0], [0, 2, 2, 2, 2, 2, 0, 0, 0, 0, 1, 0, 0, 0, 0, 0], [2, 2, 2, 2, 0, 0, 0, 0, 0, 0],
  [0, 2, 2, 2, 2, 2, 2, 2, 2, 2, 2, 0, 2, 2, 2, 2, 2, 0, 2, 2, 2, 2, 2, 2, 2, 2, 2, 2, 2, 0, 2, 2, 2, 2, 2, 2, 2, 2, 2, 2, 2, 2, 0, 0, 2, 0, 0, 1, 0, 2, 2, 2, 2, 0, 2]]
def am_ftag (c k : Nat) : Nat := (am_FT.getD c []).getD k 0
def am_tag (L : Int) (j : Nat) : Nat := if am_cls L < 8 then am_ftag (am_cls L) j else (if am_aty L = 1 then 1 else if am_aty L = 3 ∨ am_aty L = 4 then 2 else 0)
def am_arr (ad : Int → Nat) (M : am_M) (L : Int) : (Nat → Int32) ⊕ (Nat → Int64) ⊕ (Nat → UInt32) ⊕ (Nat → UInt64) ⊕ (Nat → Option Nat) :=
  if am_aty L = 1 then .inr (.inl (fun j => Int64.ofInt (M L j))) else if am_aty L = 3 ∨ am_aty L = 4 then .inr (.inr (.inr (.inr (fun j => if j < am_siz L then am_rf ad (M L j) else none)))) else .inl (fun j => Int32.ofInt (M L j))
def am_obj (ad : Int → Nat) (M : am_M) (L : Int) : List Value := (List.range (am_siz L)).map fun j => am_val ad (am_ftag (am_cls L) j, M L j)
def am_cell (cA : Nat → ClassId) (ad : Int → Nat) (M : am_M) (L : Int) : va_E :=
  if am_cls L < 8 then .inr (am_cls L, am_obj ad M L) else .inl (cA (am_aty L), am_siz L, am_arr ad M L)
abbrev am_tys (cA : Nat → ClassId) : List (ClassId × FieldType) := [(cA 0, .int), (cA 1, .long), (cA 2, .boolean), (cA 3, .object RX5), (cA 4, .object RX0)]
def am_ws (cA : Nat → ClassId) (ad : Int → Nat) (M : am_M) (al : List Int) : va_W := al.map fun L => (ad L, am_cell cA ad M L)
def am_wf (S0 M : am_M) (al : List Int) : Prop := al.Nodup ∧ (∀ L ∈ al, am_inU L ∧ M (-1) L ≠ 0) ∧ (∀ L ∈ al, ∀ j : Nat, j < am_siz L → am_wv al (am_tag L j, M L j)) ∧ M 1 = S0 1 ∧ M 2 = S0 2 ∧ M 3 = S0 3 ∧ (∀ L : Int, 0 < L → M (-1) L ≠ 0 → L ∈ al)
/-- the words on nest mates -/
def am_isN : Cond → Bool
  | .fieldLinkNest .. => true
  | .methodLinkNest .. => true
  | _ => false
def am_nst : List Cond := lw_tbl.filter am_isN
/-- what is the same over a whole start: numbers of the sorts of cells, where old cells end, the old arrays -/
abbrev am_Gt : Type := va_G × (Nat → ClassId) × Nat × am_M × (Int → Nat)
abbrev am_A (G : am_Gt) : Nat → Prop := fun q => G.2.2.1 ≤ q
def am_Wd (G : am_Gt) (ad : Int → Nat) (M : am_M) (al : List Int) (U : State) (H : Heap) : Prop :=
  va_P G.1 vwCl (am_ws G.2.1 ad M al) H ∧ va_D (am_A G) (am_ws G.2.1 ad M al) ∧ va_K G.1 vwCl (am_tys G.2.1) U ∧ am_wf G.2.2.2.1 M al ∧ ad 1 = G.2.2.2.2 1 ∧ ad 2 = G.2.2.2.2 2 ∧ ad 3 = G.2.2.2.2 3 ∧ (∀ L : Int, 0 < L → G.2.2.2.1 (-1) L ≠ 0 → L ∈ al ∧ ad L = G.2.2.2.2 L)
def am_Old (G : am_Gt) (U : State) (H : Heap) : Prop :=
  (∀ L : Int, L = 1 ∨ L = 2 ∨ L = 3 → va_T .int (G.2.2.2.2 L) (am_len G.2.2.2.1 L).toNat (fun j => .int (Int32.ofInt (G.2.2.2.1 L j))) (am_A G) U H ∧ G.2.2.2.2 L < G.2.2.1 ∧ ∀ j : Nat, (j : Int) < am_len G.2.2.2.1 L → am_r32 (G.2.2.2.1 L j)) ∧ 0 ≤ G.2.2.2.1 1 (-1) ∧ G.2.2.2.1 1 (-1) ≤ 3072 ∧
  va_Z RX6 "PORTS_IN" "[I" (.ref (G.2.2.2.2 2)) (am_A G) U H ∧ va_Z RX6 "PORTS_OUT" "[I" (.ref (G.2.2.2.2 3)) (am_A G) U H ∧ G.2.2.1 ≤ H.size ∧ (∀ w ∈ am_nst, va_Nw w U) ∧ va_AO RX5 U ∧ va_AO RX0 U
