/-- which instructions lead where -/
def am_kd (i : Instr) : Nat := match i with
  | .nop => 1
  | .goto _ => 1
  | .ifCond _ _ => 1
  | .if_icmp _ _ => 1
  | .ifnull _ => 1
  | .ifnonnull _ => 1
  | .tableswitch _ _ _ _ => 2
  | .lookupswitch _ _ => 2
  | .invokevirtual _ => 3
  | .invokespecial _ => 3
  | .invokestatic _ => 3
  | .ireturn => 4
  | .lreturn => 4
  | .areturn => 4
  | .return_ => 4
  | _ => 0
def am_wk (w : am_C) : Nat := match w with
  | .inl _ => 0
  | .inr (.inl _) => 1
  | .inr (.inr (.inl _)) => 2
  | .inr (.inr (.inr (.inl _))) => 3
  | .inr (.inr (.inr (.inr _))) => 4
theorem am_ct_0 {i : Instr} {xs : List Int} {lv : am_L} {st : List am_V} {M : am_M} (hk : am_kd i = 0) : am_ct i xs lv st M = (am_s1 i xs lv st M).map .inl := by
  cases i <;> first | rfl | (cases hk; done)
theorem am_ct_kd {i : Instr} {xs : List Int} {lv : am_L} {st : List am_V} {M : am_M} {w : am_C} (h : am_ct i xs lv st M = some w) (hw : am_wk w ≠ 0) : am_kd i = am_wk w := by
  have mp : ∀ {o : Option am_S}, (o.map Sum.inl : Option am_C) = some w → False := by
    intro o ho
    cases o with
    | none => cases ho
    | some a => cases ho; exact hw rfl
  have co : ∀ {z n rt : Int} {st : List am_V}, am_callOf z n rt st = some w → am_wk w = 3 := by
    intro z n rt st hh
    rw [(am_callOf_of hh).1]
    rfl
  cases i with
  | nop => match xs, h with
    | b :: xs', h => cases h; rfl
  | goto off => match xs, h with
    | b :: xs', h => cases h; rfl
  | ifCond c off => match xs, st, h with
    | b1 :: b2 :: xs', (0, x) :: r, h => cases h; rfl
  | if_icmp c off => match xs, st, h with
    | b1 :: b2 :: xs', (0, y) :: (0, x) :: r, h => cases h; rfl
  | ifnull off => match xs, st, h with
    | b1 :: b2 :: xs', (2, x) :: r, h => cases h; rfl
  | ifnonnull off => match xs, st, h with
    | b1 :: b2 :: xs', (2, x) :: r, h => cases h; rfl
  | tableswitch d lo hi offs => match xs, st, h with
    | b1 :: xs', (0, x) :: r, h => cases h; rfl
  | lookupswitch d prs => match xs, st, h with
    | b1 :: xs', (0, x) :: r, h => cases h; rfl
  | ireturn => match xs, st, h with
    | z :: xs', [(0, x)], h =>
      have h : (if z = 1 ∧ ¬ (x = 0 ∨ x = 1) then none else some (.inr (.inr (.inr (.inr x))))) = some w := h
      split at h
      · cases h
      · cases h; rfl
  | lreturn => match st, h with
    | [(1, x)], h => cases h; rfl
  | areturn => match st, h with
    | [(2, x)], h => cases h; rfl
  | return_ => match st, h with
    | [], h => cases h; rfl
  | invokevirtual idx => match xs, h with
    | 3 :: z :: n :: rt :: cz :: xs', h =>
      have h : (match st.drop (n.toNat - 1) with
        | (2, L) :: _ => if 0 < L ∧ am_cls L = cz.toNat then am_callOf z n rt st else none
        | _ => none) = some w := h
      split at h
      · split at h
        · exact (co h).symm
        · cases h
      · cases h
  | invokespecial idx => match xs, h with
    | [], h => exact (mp h).elim
    | 3 :: z :: n :: rt :: xs', h =>
      have h : (match st.drop (n.toNat - 1) with
        | (2, L) :: _ => if L = 0 then none else am_callOf z n rt st
        | _ => none) = some w := h
      split at h
      · split at h
        · cases h
        · exact (co h).symm
      · cases h
  | invokestatic idx =>
    have h : (match (generalizing := false) xs with
      | 3 :: z :: n :: rt :: _ => am_callOf z n rt st
      | _ => (am_s1 (.invokestatic idx) xs lv st M).map .inl) = some w := h
    split at h
    · exact (co h).symm
    · exact (mp h).elim
  | _ => exact (mp ((am_ct_0 rfl).symm.trans h)).elim
theorem am_no_br (i : Instr) (xs : List Int) (lv : am_L) (st : List am_V) {M : am_M} {q : Bool × Nat × Nat × List am_V} (hk : (am_kd i == 1) = false) : ¬ am_ct i xs lv st M = some (.inr (.inl q)) := by
  intro h
  have := am_ct_kd h (fun z => nomatch z)
  rw [this] at hk
  cases hk
theorem am_no_sw (i : Instr) (xs : List Int) (lv : am_L) (st : List am_V) {M : am_M} {q : Int × List Int × Nat × List am_V} (hk : (am_kd i == 2) = false) : ¬ am_ct i xs lv st M = some (.inr (.inr (.inl q))) := by
  intro h
  have := am_ct_kd h (fun z => nomatch z)
  rw [this] at hk
  cases hk
theorem am_ck_call {P : am_P} {Y : Nat → am_MI} {y pc : Nat} {i : Instr} {xs : List Int} {lv : am_L} {st : List am_V} {M : am_M} {q : Nat × List am_V × List am_V × Nat} (hc : am_ck1 P Y y pc i xs = true) (h : am_ct i xs lv st M = some (.inr (.inr (.inr (.inl q))))) : decode (Y y).2.1 pc = .ok (i, 3) ∧ am_ckC Y (Y y).1.cls (Y y).2.2.2.2.1 (Y y).2.2.2.2.2 i xs = true ∧ am_il i = 3 := by
  have hk := am_ct_kd h (fun z => nomatch z)
  have mp : ∀ {o : Option am_S}, (o.map Sum.inl : Option am_C) = some (.inr (.inr (.inr (.inl q)))) → False := by
    intro o ho
    cases o <;> cases ho
  cases i with
  | invokevirtual idx =>
    have hc : (am_dc (Y y).2.1 pc (.invokevirtual idx) 3 && am_ckC Y (Y y).1.cls (Y y).2.2.2.2.1 (Y y).2.2.2.2.2 (.invokevirtual idx) xs) = true := hc
    rw [Bool.and_eq_true] at hc
    exact ⟨of_decide_eq_true hc.1, hc.2, rfl⟩
  | invokespecial idx =>
    match xs, h, hc with
    | [], h, _ => exact (mp h).elim
    | a :: xs', h, hc =>
      have hc : (am_dc (Y y).2.1 pc (.invokespecial idx) 3 && am_ckC Y (Y y).1.cls (Y y).2.2.2.2.1 (Y y).2.2.2.2.2 (.invokespecial idx) (a :: xs')) = true := hc
      rw [Bool.and_eq_true] at hc
      exact ⟨of_decide_eq_true hc.1, hc.2, rfl⟩
  | invokestatic idx =>
    have hc : (am_dc (Y y).2.1 pc (.invokestatic idx) 3 && (match (generalizing := false) xs with
      | 3 :: _ => am_ckC Y (Y y).1.cls (Y y).2.2.2.2.1 (Y y).2.2.2.2.2 (.invokestatic idx) xs
      | _ => am_okb (Y y).1.cls (Y y).2.2.1 (decide ((Y y).1.name = "<init>")) (.invokestatic idx) xs && decide (1 ≤ (Y y).2.2.2.2.1) && decide (48 ≤ (Y y).2.2.2.2.2))) = true := hc
    rw [Bool.and_eq_true] at hc
    obtain ⟨h1, h2⟩ := hc
    have h : (match (generalizing := false) xs with
      | 3 :: z :: n :: rt :: _ => am_callOf z n rt st
      | _ => (am_s1 (.invokestatic idx) xs lv st M).map .inl) = some (.inr (.inr (.inr (.inl q)))) := h
    split at h
    · exact ⟨of_decide_eq_true h1, h2, rfl⟩
    · exact (mp h).elim
  | _ => cases hk
theorem am_ck_ret {P : am_P} {Y : Nat → am_MI} {y pc : Nat} {i : Instr} {xs : List Int} {lv : am_L} {st : List am_V} {M : am_M} {v : Int} (hc : am_ck1 P Y y pc i xs = true) (h : am_ct i xs lv st M = some (.inr (.inr (.inr (.inr v))))) : decode (Y y).2.1 pc = .ok (i, 1) ∧ am_isR (Y y).2.2.2.1 i v st := by
  have hk := am_ct_kd h (fun z => nomatch z)
  cases i with
  | ireturn => match xs, st, h, hc with
    | z :: xs', [(0, x)], h, hc =>
      have h : (if z = 1 ∧ ¬ (x = 0 ∨ x = 1) then none else some (.inr (.inr (.inr (.inr x))))) = some (Sum.inr (.inr (.inr (.inr v))) : am_C) := h
      have hc : (am_dc (Y y).2.1 pc .ireturn 1 && ((decide (z = 0) && decide ((Y y).2.2.2.1 = some .int)) || (decide (z = 1) && decide ((Y y).2.2.2.1 = some .boolean)))) = true := hc
      simp only [Bool.and_eq_true, Bool.or_eq_true, decide_eq_true_eq] at hc
      refine ⟨of_decide_eq_true hc.1, ?_⟩
      split at h
      · cases h
      · rename_i hn
        cases h
        rcases hc.2 with ⟨z1, z2⟩ | ⟨z1, z2⟩
        · exact Or.inl ⟨rfl, z2, rfl⟩
        · exact Or.inr (Or.inl ⟨rfl, z2, rfl, by omega⟩)
  | lreturn => match st, h with
    | [(1, x)], h =>
      cases h
      have hc : (am_dc (Y y).2.1 pc .lreturn 1 && decide ((Y y).2.2.2.1 = some .long)) = true := hc
      simp only [Bool.and_eq_true, decide_eq_true_eq] at hc
      exact ⟨of_decide_eq_true hc.1, Or.inr (Or.inr (Or.inl ⟨rfl, hc.2, rfl⟩))⟩
  | areturn => match st, h with
    | [(2, x)], h =>
      cases h
      have hc : (am_dc (Y y).2.1 pc .areturn 1 && (match (generalizing := false) (Y y).2.2.2.1 with
        | some (.object _) => true
        | some (.array _) => true
        | _ => false)) = true := hc
      rw [Bool.and_eq_true] at hc
      refine ⟨of_decide_eq_true hc.1, Or.inr (Or.inr (Or.inr (Or.inl ⟨rfl, ?_, rfl⟩)))⟩
      have h2 := hc.2
      split at h2
      · rename_i n hn; exact Or.inl ⟨n, hn⟩
      · rename_i n hn; exact Or.inr ⟨n, hn⟩
      · cases h2
  | return_ => match st, h with
    | [], h =>
      cases h
      have hc : (am_dc (Y y).2.1 pc .return_ 1 && decide ((Y y).2.2.2.1 = none)) = true := hc
      simp only [Bool.and_eq_true, decide_eq_true_eq] at hc
      exact ⟨of_decide_eq_true hc.1, Or.inr (Or.inr (Or.inr (Or.inr ⟨rfl, hc.2, rfl, rfl⟩)))⟩
  | _ => cases hk
