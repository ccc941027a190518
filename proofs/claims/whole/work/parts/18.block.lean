def am_isR (ret : Option FieldType) (i : Instr) (v : Int) (st : List am_V) : Prop := (i = .ireturn ∧ ret = some .int ∧ st = [(0, v)]) ∨ (i = .ireturn ∧ ret = some .boolean ∧ st = [(0, v)] ∧ (v = 0 ∨ v = 1)) ∨ (i = .lreturn ∧ ret = some .long ∧ st = [(1, v)]) ∨ (i = .areturn ∧ ((∃ n, ret = some (.object n)) ∨ ∃ n, ret = some (.array n)) ∧ st = [(2, v)]) ∨ (i = .return_ ∧ ret = none ∧ st = [] ∧ v = 0)
theorem am_J_of {live : Nat → List (Nat × Nat)} {K : am_Kt} {b : Nat} {l : am_L} {r : List am_V} {M : am_M} {w : am_R} (h : am_J live K b l r M = some w) : ∃ vs, am_pick (live b) l = some vs ∧ K b vs r M = some w := by
  unfold am_J at h
  cases hp : am_pick (live b) l with
  | none => rw [hp] at h; cases h
  | some vs => rw [hp] at h; exact ⟨vs, rfl, h⟩
theorem am_sw_J {live : Nat → List (Nat × Nat)} {K : am_Kt} {x : Int} {d : Nat} {l : am_L} {r : List am_V} {M : am_M} {w : am_R} : ∀ (ps : List Int), am_sw live K x d l r M ps = some w → ∃ b, am_J live K b l r M = some w
  | [], h => ⟨d, h⟩
  | [_], h => ⟨d, h⟩
  | k :: b :: ps, h => by
    unfold am_sw at h
    cases hd : decide (x = k) with
    | true => rw [hd] at h; exact ⟨_, h⟩
    | false => rw [hd] at h; exact am_sw_J ps h
theorem am_map_inl {o : Option am_S} {s : am_S} (h : (o.map Sum.inl : Option am_C) = some (.inl s)) : o = some s := by
  cases o with
  | none => cases h
  | some a => cases h; rfl
/-- the instructions that go on are those of am_s1 -/
theorem am_ct_s1 {i : Instr} {xs : List Int} {lv : am_L} {st : List am_V} {M : am_M} {s : am_S} (h : am_ct i xs lv st M = some (.inl s)) : am_s1 i xs lv st M = some s := by
  have co : ∀ {z n rt : Int} {st : List am_V}, am_callOf z n rt st ≠ some (.inl s) := by
    intro z n rt st hh
    have := (am_callOf_of hh).1
    cases this
  cases i with
  | nop => match xs, h with
    | b :: xs', h => cases h
  | goto off => match xs, h with
    | b :: xs', h => cases h
  | ifCond c off => match xs, st, h with
    | b1 :: b2 :: xs', (0, x) :: r, h => cases h
  | if_icmp c off => match xs, st, h with
    | b1 :: b2 :: xs', (0, y) :: (0, x) :: r, h => cases h
  | ifnull off => match xs, st, h with
    | b1 :: b2 :: xs', (2, x) :: r, h => cases h
  | ifnonnull off => match xs, st, h with
    | b1 :: b2 :: xs', (2, x) :: r, h => cases h
  | tableswitch d lo hi offs => match xs, st, h with
    | b1 :: xs', (0, x) :: r, h => cases h
  | lookupswitch d prs => match xs, st, h with
    | b1 :: xs', (0, x) :: r, h => cases h
  | ireturn => match xs, st, h with
    | z :: xs', [(0, x)], h =>
      have h : (if z = 1 ∧ ¬ (x = 0 ∨ x = 1) then none else some (.inr (.inr (.inr (.inr x))))) = some (Sum.inl s : am_C) := h
      split at h <;> cases h
  | lreturn => match st, h with
    | [(1, x)], h => cases h
  | areturn => match st, h with
    | [(2, x)], h => cases h
  | return_ => match st, h with
    | [], h => cases h
  | invokevirtual idx => match xs, h with
    | 3 :: z :: n :: rt :: cz :: xs', h =>
      have h : (match st.drop (n.toNat - 1) with
        | (2, L) :: _ => if 0 < L ∧ am_cls L = cz.toNat then am_callOf z n rt st else none
        | _ => none) = some (Sum.inl s : am_C) := h
      split at h
      · split at h
        · exact absurd h co
        · cases h
      · cases h
  | invokespecial idx => match xs, h with
    | [], h => exact am_map_inl h
    | 3 :: z :: n :: rt :: xs', h =>
      have h : (match st.drop (n.toNat - 1) with
        | (2, L) :: _ => if L = 0 then none else am_callOf z n rt st
        | _ => none) = some (Sum.inl s : am_C) := h
      split at h
      · split at h
        · cases h
        · exact absurd h co
      · cases h
  | invokestatic idx =>
    have h : (match (generalizing := false) xs with
      | 3 :: z :: n :: rt :: _ => am_callOf z n rt st
      | _ => (am_s1 (.invokestatic idx) xs lv st M).map .inl) = some (Sum.inl s : am_C) := h
    split at h
    · exact absurd h co
    · exact am_map_inl h
  | _ => exact am_map_inl h
theorem am_ck_s1 {P : am_P} {Y : Nat → am_MI} {y pc : Nat} {i : Instr} {xs : List Int} {lv : am_L} {st : List am_V} {M : am_M} {s : am_S} (hc : am_ck1 P Y y pc i xs = true) (h : am_s1 i xs lv st M = some s) : decode (Y y).2.1 pc = .ok (i, am_il i) ∧ am_okb (Y y).1.cls (Y y).2.2.1 (decide ((Y y).1.name = "<init>")) i xs = true ∧ (am_nd i = true → 1 ≤ (Y y).2.2.2.2.1 ∧ 48 ≤ (Y y).2.2.2.2.2) := by
  have gen : ∀ {i : Instr}, am_nd i = false → (am_dc (Y y).2.1 pc i (am_il i) && am_okb (Y y).1.cls (Y y).2.2.1 (decide ((Y y).1.name = "<init>")) i xs) = true → decode (Y y).2.1 pc = .ok (i, am_il i) ∧ am_okb (Y y).1.cls (Y y).2.2.1 (decide ((Y y).1.name = "<init>")) i xs = true ∧ (am_nd i = true → 1 ≤ (Y y).2.2.2.2.1 ∧ 48 ≤ (Y y).2.2.2.2.2) := by
    intro i hn hh
    rw [Bool.and_eq_true] at hh
    exact ⟨of_decide_eq_true hh.1, hh.2, fun z => by rw [hn] at z; cases z⟩
  cases i with
  | nop => cases h
  | goto off => cases h
  | ifCond c off => cases h
  | if_icmp c off => cases h
  | ifnull off => cases h
  | ifnonnull off => cases h
  | tableswitch d lo hi offs => cases h
  | lookupswitch d prs => cases h
  | ireturn => cases h
  | lreturn => cases h
  | areturn => cases h
  | return_ => cases h
  | invokevirtual idx => cases h
  | invokespecial idx =>
    match xs, h, hc with
    | [], h, hc =>
      have hc : (am_dc (Y y).2.1 pc (.invokespecial idx) 3 && (am_okb (Y y).1.cls (Y y).2.2.1 (decide ((Y y).1.name = "<init>")) (.invokespecial idx) [] && decide (1 ≤ (Y y).2.2.2.2.1) && decide (48 ≤ (Y y).2.2.2.2.2))) = true := hc
      simp only [Bool.and_eq_true, decide_eq_true_eq] at hc
      exact ⟨of_decide_eq_true hc.1, hc.2.1.1, fun _ => ⟨hc.2.1.2, hc.2.2⟩⟩
    | x :: xs', h, hc => cases h
  | invokestatic idx =>
    have hc : (am_dc (Y y).2.1 pc (.invokestatic idx) 3 && (match (generalizing := false) xs with
      | 3 :: _ => am_ckC Y (Y y).1.cls (Y y).2.2.2.2.1 (Y y).2.2.2.2.2 (.invokestatic idx) xs
      | _ => am_okb (Y y).1.cls (Y y).2.2.1 (decide ((Y y).1.name = "<init>")) (.invokestatic idx) xs && decide (1 ≤ (Y y).2.2.2.2.1) && decide (48 ≤ (Y y).2.2.2.2.2))) = true := hc
    rw [Bool.and_eq_true] at hc
    obtain ⟨h1, h2⟩ := hc
    split at h2
    · cases h
    · simp only [Bool.and_eq_true, decide_eq_true_eq] at h2
      exact ⟨of_decide_eq_true h1, h2.1.1, fun _ => ⟨h2.1.2, h2.2⟩⟩
  | _ => exact gen rfl hc
section AMX
variable {p : Program} {l : Launch} {e : Env} {R : Room} {s : State} {m : MethodId} {args : Array Value} {below : List Frame} {meth : Method} {c : Code} {Q : State → Prop} {G : am_Gt} {c0 s0 : Int} {P : am_P} {Y : Nat → am_MI} {y : Nat} {K : am_Kt} {Cc : am_Ct} {vf : Int} {Mf : am_M}
theorem am_ex_le {live : Nat → List (Nat × Nat)} (hKm : ∀ b vs r M', K b vs r M' = some (vf, Mf) → M' (-2) 0 ≤ Mf (-2) 0 ∧ M' (-2) 1 ≤ Mf (-2) 1) (hCm : ∀ z as M' v M'', Cc z as M' = some (v, M'') → M' (-2) 0 ≤ M'' (-2) 0 ∧ M' (-2) 1 ≤ M'' (-2) 1) : ∀ (is : List am_I) (lv : am_L) (st : List am_V) (M : am_M), am_ex live K Cc is lv st M = some (vf, Mf) → M (-2) 0 ≤ Mf (-2) 0 ∧ M (-2) 1 ≤ Mf (-2) 1 := by
  intro is
  induction is with
  | nil => intro lv st M h; cases h
  | cons i is ih =>
    intro lv st M h
    unfold am_ex at h
    cases hc : am_ct i.2.1 i.2.2 lv st M with
    | none => rw [hc] at h; cases h
    | some w =>
      rw [hc] at h
      rcases w with s | ⟨c, b1, b2, r⟩ | ⟨x, ps, d, r⟩ | ⟨z, as, rest, rt⟩ | v
      · have h1 := ih _ _ _ h
        have h2 := am_ch_le (am_s1_ch (am_ct_s1 hc))
        omega
      · cases c
        · obtain ⟨vs, -, hk⟩ := am_J_of h; exact hKm _ _ _ _ hk
        · obtain ⟨vs, -, hk⟩ := am_J_of h; exact hKm _ _ _ _ hk
      · obtain ⟨b, hb⟩ := am_sw_J ps h
        obtain ⟨vs, -, hk⟩ := am_J_of hb; exact hKm _ _ _ _ hk
      · dsimp only at h
        cases hz : Cc z as M with
        | none => rw [hz] at h; cases h
        | some w =>
          rw [hz] at h
          have h1 := ih _ _ _ h
          have h2 := hCm z as M w.1 w.2 hz
          omega
      · cases h
        exact ⟨Int.le_refl _, Int.le_refl _⟩
end AMX
