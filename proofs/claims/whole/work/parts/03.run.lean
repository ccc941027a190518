/-! where an instruction leads: on, to a block by a test, by a table, into a call (method, what it gets, the rest of the stack, sort of answer), back with an answer -/
abbrev am_C : Type := am_S ⊕ (Bool × Nat × Nat × List am_V) ⊕ (Int × List Int × Nat × List am_V) ⊕ (Nat × List am_V × List am_V × Nat) ⊕ Int
def am_cnd (c : ClassFile.Cond) (x y : Int) : Bool :=
  match c with
  | .eq => decide (x = y)
  | .ne => !(decide (x = y))
  | .lt => decide (x < y)
  | .ge => decide (y ≤ x)
  | .gt => decide (y < x)
  | .le => decide (x ≤ y)
def am_callOf (z n rt : Int) (st : List am_V) : Option am_C :=
  bif Nat.ble n.toNat st.length && Nat.ble (st.drop n.toNat).length 4 then some (.inr (.inr (.inr (.inl (z.toNat, (st.take n.toNat).reverse, st.drop n.toNat, rt.toNat))))) else none
def am_ct (i : Instr) (xs : List Int) (l : am_L) (st : List am_V) (M : am_M) : Option am_C :=
  match i with
  | .nop => match xs with
    | b :: _ => some (.inr (.inl (true, b.toNat, b.toNat, st)))
    | [] => none
  | .goto _ => match xs with
    | b :: _ => some (.inr (.inl (true, b.toNat, b.toNat, st)))
    | [] => none
  | .ifCond c _ => match xs, st with
    | b1 :: b2 :: _, (0, x) :: r => some (.inr (.inl (am_cnd c x 0, b1.toNat, b2.toNat, r)))
    | _, _ => none
  | .if_icmp c _ => match xs, st with
    | b1 :: b2 :: _, (0, y) :: (0, x) :: r => some (.inr (.inl (am_cnd c x y, b1.toNat, b2.toNat, r)))
    | _, _ => none
  | .ifnull _ => match xs, st with
    | b1 :: b2 :: _, (2, x) :: r => some (.inr (.inl (decide (x = 0), b1.toNat, b2.toNat, r)))
    | _, _ => none
  | .ifnonnull _ => match xs, st with
    | b1 :: b2 :: _, (2, x) :: r => some (.inr (.inl (!(decide (x = 0)), b1.toNat, b2.toNat, r)))
    | _, _ => none
  | .tableswitch _ _ _ _ => match xs, st with
    | d :: ps, (0, x) :: r => some (.inr (.inr (.inl (x, ps, d.toNat, r))))
    | _, _ => none
  | .lookupswitch _ _ => match xs, st with
    | d :: ps, (0, x) :: r => some (.inr (.inr (.inl (x, ps, d.toNat, r))))
    | _, _ => none
  | .ireturn => match xs, st with
    | z :: _, [(0, x)] => if z = 1 ∧ ¬ (x = 0 ∨ x = 1) then none else some (.inr (.inr (.inr (.inr x))))
    | _, _ => none
  | .lreturn => match st with
    | [(1, x)] => some (.inr (.inr (.inr (.inr x))))
    | _ => none
  | .areturn => match st with
    | [(2, x)] => some (.inr (.inr (.inr (.inr x))))
    | _ => none
  | .return_ => match st with
    | [] => some (.inr (.inr (.inr (.inr 0))))
    | _ => none
  | .invokevirtual _ => match xs with
    | 3 :: z :: n :: rt :: cz :: _ => match st.drop (n.toNat - 1) with
      | (2, L) :: _ => if 0 < L ∧ am_cls L = cz.toNat then am_callOf z n rt st else none
      | _ => none
    | _ => none
  | .invokespecial _ => match xs with
    | 3 :: z :: n :: rt :: _ => match st.drop (n.toNat - 1) with
      | (2, L) :: _ => if L = 0 then none else am_callOf z n rt st
      | _ => none
    | [] => (am_s1 i xs l st M).map .inl
    | _ => none
  | .invokestatic _ => match xs with
    | 3 :: z :: n :: rt :: _ => am_callOf z n rt st
    | _ => (am_s1 i xs l st M).map .inl
  | _ => (am_s1 i xs l st M).map .inl
def am_pick : List (Nat × Nat) → am_L → Option (List Int)
  | [], _ => some []
  | q :: qs, l => match am_lk q.1 l with
    | some v => bif Nat.beq v.1 q.2 then (am_pick qs l).map (v.2 :: ·) else none
    | none => none
def am_zip : List (Nat × Nat) → List Int → am_L
  | q :: qs, v :: vs => (q.1, (q.2, v)) :: am_zip qs vs
  | _, _ => []
def am_tg : List (Nat × Nat) → List am_V → Option (List Int)
  | [], [] => some []
  | q :: qs, v :: vs => bif Nat.beq v.1 q.2 then (am_tg qs vs).map (v.2 :: ·) else none
  | _, _ => none
abbrev am_Kt : Type := Nat → List Int → List am_V → am_M → Option am_R
abbrev am_Ct : Type := Nat → List am_V → am_M → Option am_R
def am_J (live : Nat → List (Nat × Nat)) (K : am_Kt) (b : Nat) (l : am_L) (r : List am_V) (M : am_M) : Option am_R := (am_pick (live b) l).bind fun vs => K b vs r M
def am_sw (live : Nat → List (Nat × Nat)) (K : am_Kt) (x : Int) (d : Nat) (l : am_L) (r : List am_V) (M : am_M) : List Int → Option am_R
  | k :: b :: ps => bif decide (x = k) then am_J live K b.toNat l r M else am_sw live K x d l r M ps
  | _ => am_J live K d l r M
def am_ans (rt : Nat) (x : Int) (rest : List am_V) : List am_V := bif Nat.beq rt 3 then rest else (rt, x) :: rest
def am_ex (live : Nat → List (Nat × Nat)) (K : am_Kt) (C : am_Ct) : List am_I → am_L → List am_V → am_M → Option am_R
  | [], _, _, _ => none
  | i :: is, l, st, M =>
    match am_ct i.2.1 i.2.2 l st M with
    | none => none
    | some (.inl s) => am_ex live K C is s.1 s.2.1 s.2.2
    | some (.inr (.inl (c, b1, b2, r))) => bif c then am_J live K b1 l r M else am_J live K b2 l r M
    | some (.inr (.inr (.inl (x, ps, d, r)))) => am_sw live K x d l r M ps
    | some (.inr (.inr (.inr (.inl (z, as, rest, rt))))) => (C z as M).bind fun q => am_ex live K C is l (am_ans rt q.1 rest) q.2
    | some (.inr (.inr (.inr (.inr v)))) => some (v, M)
abbrev am_B : Type := List (Nat × Nat) × List am_I
/-- a program: the blocks of every method -/
abbrev am_P : Type := Nat → Nat → am_B
def am_cm (P : am_P) (f : Nat → am_Kt) : am_Ct := fun z as M => (am_tg (P z 0).1 as).bind fun vs => f z 0 vs [] M
def am_bk (P : am_P) (f : Nat → am_Kt) : Nat → am_Kt := fun y b vs st M => am_ex (fun b' => (P y b').1) (f y) (am_cm P f) (P y b).2 (am_zip (P y b).1 vs) st M
def am_run (P : am_P) : Nat → Nat → am_Kt
  | 0 => fun _ _ _ _ _ => none
  | n + 1 => am_bk P (am_run P n)
theorem am_J_mono {live : Nat → List (Nat × Nat)} {K K' : am_Kt} (hK : ∀ b vs r M q, K b vs r M = some q → K' b vs r M = some q) {b : Nat} {l : am_L} {r : List am_V} {M : am_M} {q : am_R} (h : am_J live K b l r M = some q) : am_J live K' b l r M = some q := by
  unfold am_J at h ⊢
  cases hp : am_pick (live b) l with
  | none => rw [hp] at h; cases h
  | some vs => rw [hp] at h; exact hK _ _ _ _ _ h
theorem am_sw_mono {live : Nat → List (Nat × Nat)} {K K' : am_Kt} (hK : ∀ b vs r M q, K b vs r M = some q → K' b vs r M = some q) {x : Int} {d : Nat} {l : am_L} {r : List am_V} {M : am_M} {q : am_R} : ∀ (n : Nat) (ps : List Int), ps.length ≤ n → am_sw live K x d l r M ps = some q → am_sw live K' x d l r M ps = some q := by
  intro n
  induction n with
  | zero =>
    intro ps hn h
    cases ps with
    | nil => exact am_J_mono hK h
    | cons a ps => simp at hn
  | succ n ih =>
    intro ps hn h
    match ps, hn, h with
    | [], _, h => exact am_J_mono hK h
    | [_], _, h => exact am_J_mono hK h
    | k :: b :: ps, hn, h =>
      unfold am_sw at h ⊢
      cases hd : decide (x = k) with
      | true => rw [hd] at h; exact am_J_mono hK h
      | false => rw [hd] at h; exact ih ps (by simp at hn; omega) h
theorem am_ex_mono {live : Nat → List (Nat × Nat)} {K K' : am_Kt} {C C' : am_Ct} (hK : ∀ b vs r M q, K b vs r M = some q → K' b vs r M = some q) (hC : ∀ z as M q, C z as M = some q → C' z as M = some q) : ∀ (is : List am_I) (l : am_L) (st : List am_V) (M : am_M) (q : am_R), am_ex live K C is l st M = some q → am_ex live K' C' is l st M = some q := by
  intro is
  induction is with
  | nil => intro l st M q h; exact h
  | cons i is ih =>
    intro l st M q h
    unfold am_ex at h ⊢
    cases hc : am_ct i.2.1 i.2.2 l st M with
    | none => rw [hc] at h; cases h
    | some w =>
      rw [hc] at h
      rcases w with s | ⟨c, b1, b2, r⟩ | ⟨x, ps, d, r⟩ | ⟨z, as, rest, rt⟩ | v
      · exact ih _ _ _ _ h
      · cases c
        · exact am_J_mono hK h
        · exact am_J_mono hK h
      · exact am_sw_mono hK _ ps (Nat.le_refl _) h
      · dsimp only at h ⊢
        cases hz : C z as M with
        | none => rw [hz] at h; cases h
        | some w => rw [hz] at h; rw [hC _ _ _ _ hz]; exact ih _ _ _ _ h
      · exact h
theorem am_cm_mono {P : am_P} {f g : Nat → am_Kt} (h : ∀ y b vs st M q, f y b vs st M = some q → g y b vs st M = some q) : ∀ z as M q, am_cm P f z as M = some q → am_cm P g z as M = some q := by
  intro z as M q hq
  unfold am_cm at hq ⊢
  cases ht : am_tg (P z 0).1 as with
  | none => rw [ht] at hq; cases hq
  | some vs => rw [ht] at hq; exact h _ _ _ _ _ _ hq
theorem am_bk_mono {P : am_P} {f g : Nat → am_Kt} (h : ∀ y b vs st M q, f y b vs st M = some q → g y b vs st M = some q) : ∀ y b vs st M q, am_bk P f y b vs st M = some q → am_bk P g y b vs st M = some q := by
  intro y b vs st M q hq
  exact am_ex_mono (fun b vs r M q => h y b vs r M q) (am_cm_mono h) _ _ _ _ _ hq
theorem am_run_succ {P : am_P} : ∀ (n : Nat) (y b : Nat) (vs : List Int) (st : List am_V) (M : am_M) (q : am_R), am_run P n y b vs st M = some q → am_run P (n + 1) y b vs st M = some q := by
  intro n
  induction n with
  | zero => intro y b vs st M q h; cases h
  | succ n ih => intro y b vs st M q h; exact am_bk_mono ih _ _ _ _ _ _ h
theorem am_run_le {P : am_P} {n m : Nat} (h : n ≤ m) {y b : Nat} {vs : List Int} {st : List am_V} {M : am_M} {q : am_R} (hq : am_run P n y b vs st M = some q) : am_run P m y b vs st M = some q := by
  induction h with
  | refl => exact hq
  | step _ ih => exact am_run_succ _ _ _ _ _ _ _ ih
theorem am_run_det {P : am_P} {n m : Nat} {y b : Nat} {vs : List Int} {st : List am_V} {M : am_M} {q q' : am_R} (h : am_run P n y b vs st M = some q) (h' : am_run P m y b vs st M = some q') : q = q' := by
  have h1 := am_run_le (Nat.le_max_left n m) h
  have h2 := am_run_le (Nat.le_max_right n m) h'
  exact Option.some.inj (h1.symm.trans h2)
noncomputable def am_ev (P : am_P) : Nat → am_Kt := fun y b vs st M => @dite _ (∃ q : am_R, ∃ n, am_run P n y b vs st M = some q) (Classical.propDecidable _) (fun h => some (Classical.choose h)) (fun _ => none)
theorem am_ev_iff {P : am_P} {y b : Nat} {vs : List Int} {st : List am_V} {M : am_M} {q : am_R} : am_ev P y b vs st M = some q ↔ ∃ n, am_run P n y b vs st M = some q := by
  unfold am_ev
  by_cases h : ∃ q : am_R, ∃ n, am_run P n y b vs st M = some q
  · rw [dif_pos h]
    constructor
    · intro e
      have e' := Option.some.inj e
      have hs := Classical.choose_spec h
      rw [e'] at hs
      exact hs
    · rintro ⟨n, hn⟩
      obtain ⟨m, hm⟩ := Classical.choose_spec h
      rw [am_run_det hm hn]
  · rw [dif_neg h]
    constructor
    · intro e; cases e
    · rintro ⟨n, hn⟩; exact absurd ⟨q, n, hn⟩ h
theorem am_ev_ge {P : am_P} {n : Nat} : ∀ (y b : Nat) (vs : List Int) (st : List am_V) (M : am_M) (q : am_R), am_run P n y b vs st M = some q → am_ev P y b vs st M = some q := fun _ _ _ _ _ _ h => am_ev_iff.mpr ⟨n, h⟩
theorem am_J_cont {P : am_P} {y : Nat} {live : Nat → List (Nat × Nat)} {b : Nat} {l : am_L} {r : List am_V} {M : am_M} {q : am_R} (h : am_J live (am_ev P y) b l r M = some q) : ∃ n, am_J live (am_run P n y) b l r M = some q := by
  unfold am_J at h ⊢
  cases hp : am_pick (live b) l with
  | none => rw [hp] at h; cases h
  | some vs => rw [hp] at h; obtain ⟨n, hn⟩ := am_ev_iff.mp h; exact ⟨n, hn⟩
theorem am_sw_cont {P : am_P} {y : Nat} {live : Nat → List (Nat × Nat)} {x : Int} {d : Nat} {l : am_L} {r : List am_V} {M : am_M} {q : am_R} : ∀ (n : Nat) (ps : List Int), ps.length ≤ n → am_sw live (am_ev P y) x d l r M ps = some q → ∃ n, am_sw live (am_run P n y) x d l r M ps = some q := by
  intro n
  induction n with
  | zero =>
    intro ps hn h
    cases ps with
    | nil => exact am_J_cont h
    | cons a ps => simp at hn
  | succ n ih =>
    intro ps hn h
    match ps, hn, h with
    | [], _, h => exact am_J_cont h
    | [_], _, h => exact am_J_cont h
    | k :: b :: ps, hn, h =>
      unfold am_sw at h
      cases hd : decide (x = k) with
      | true => rw [hd] at h; obtain ⟨m, hm⟩ := am_J_cont h; exact ⟨m, by unfold am_sw; rw [hd]; exact hm⟩
      | false => rw [hd] at h; obtain ⟨m, hm⟩ := ih ps (by simp at hn; omega) h; exact ⟨m, by unfold am_sw; rw [hd]; exact hm⟩
theorem am_cm_cont {P : am_P} {z : Nat} {as : List am_V} {M : am_M} {q : am_R} (h : am_cm P (am_ev P) z as M = some q) : ∃ n, am_cm P (am_run P n) z as M = some q := by
  unfold am_cm at h ⊢
  cases ht : am_tg (P z 0).1 as with
  | none => rw [ht] at h; cases h
  | some vs => rw [ht] at h; obtain ⟨n, hn⟩ := am_ev_iff.mp h; exact ⟨n, hn⟩
theorem am_ex_cont {P : am_P} {y : Nat} {live : Nat → List (Nat × Nat)} : ∀ (is : List am_I) (l : am_L) (st : List am_V) (M : am_M) (q : am_R), am_ex live (am_ev P y) (am_cm P (am_ev P)) is l st M = some q → ∃ n, am_ex live (am_run P n y) (am_cm P (am_run P n)) is l st M = some q := by
  intro is
  induction is with
  | nil => intro l st M q h; cases h
  | cons i is ih =>
    intro l st M q h
    unfold am_ex at h
    cases hc : am_ct i.2.1 i.2.2 l st M with
    | none => rw [hc] at h; cases h
    | some w =>
      rw [hc] at h
      rcases w with s | ⟨c, b1, b2, r⟩ | ⟨x, ps, d, r⟩ | ⟨z, as, rest, rt⟩ | v
      · obtain ⟨n, hn⟩ := ih _ _ _ _ h
        exact ⟨n, by unfold am_ex; rw [hc]; exact hn⟩
      · cases c
        · obtain ⟨n, hn⟩ := am_J_cont h; exact ⟨n, by unfold am_ex; rw [hc]; exact hn⟩
        · obtain ⟨n, hn⟩ := am_J_cont h; exact ⟨n, by unfold am_ex; rw [hc]; exact hn⟩
      · obtain ⟨n, hn⟩ := am_sw_cont _ ps (Nat.le_refl _) h; exact ⟨n, by unfold am_ex; rw [hc]; exact hn⟩
      · dsimp only at h
        cases hz : am_cm P (am_ev P) z as M with
        | none => rw [hz] at h; cases h
        | some w =>
          rw [hz] at h
          obtain ⟨n1, h1⟩ := am_cm_cont hz
          obtain ⟨n2, h2⟩ := ih _ _ _ _ h
          refine ⟨max n1 n2, ?_⟩
          unfold am_ex
          rw [hc]
          dsimp only
          rw [am_cm_mono (fun _ _ _ _ _ _ hh => am_run_le (Nat.le_max_left n1 n2) hh) _ _ _ _ h1]
          exact am_ex_mono (fun _ _ _ _ _ hh => am_run_le (Nat.le_max_right n1 n2) hh) (am_cm_mono (fun _ _ _ _ _ _ hh => am_run_le (Nat.le_max_right n1 n2) hh)) _ _ _ _ _ h2
      · exact ⟨0, by unfold am_ex; rw [hc]; exact h⟩
/-- the equation of a block -/
theorem am_ev_eq (P : am_P) (y b : Nat) (vs : List Int) (st : List am_V) (M : am_M) : am_ev P y b vs st M = am_bk P (am_ev P) y b vs st M := by
  apply Option.ext
  intro q
  constructor
  · intro h
    obtain ⟨n, hn⟩ := am_ev_iff.mp h
    cases n with
    | zero => cases hn
    | succ n => exact am_bk_mono am_ev_ge _ _ _ _ _ _ hn
  · intro h
    obtain ⟨n, hn⟩ := am_ex_cont _ _ _ _ _ h
    exact am_ev_iff.mpr ⟨n + 1, hn⟩
/-- a call, without a bound on its steps -/
noncomputable def am_evm (P : am_P) : am_Ct := am_cm P (am_ev P)
