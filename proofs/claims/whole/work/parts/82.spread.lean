/-! rates: what the class spreads and what the reference checks, as functions -/
abbrev UD : Type := (Int → Int) × (Int → Int)
def wrt (R : am_M) (f : Int) : Int := if R 309 f = 2 then R 565 f else 1
def setp (U : Int → Int) (i v : Int) : Int → Int := fun j => if j = i then v else U j
def frac (i x y : Int) (s : UD) : Option UD := if x = 0 ∨ y = 0 ∨ 1000000 < x / gd x y ∨ 1000000 < y / gd x y then none else some (setp s.1 i (x / gd x y), setp s.2 i (y / gd x y))
def sp1 (R : am_M) (b : Int) (s : UD) : Option UD :=
  if s.1 (R 61 b) ≠ 0 ∧ s.1 (R 317 b) = 0 then frac (R 317 b) (s.1 (R 61 b) * wrt R (R 61 b)) (s.2 (R 61 b)) s
  else if s.1 (R 61 b) = 0 ∧ s.1 (R 317 b) ≠ 0 then frac (R 61 b) (s.1 (R 317 b)) (s.2 (R 317 b) * wrt R (R 61 b)) s
  else some s
def spb (R : am_M) : Nat → Int → UD → Option UD
  | 0, _, s => some s
  | n + 1, b, s => (sp1 R b s).bind fun s' => spb R n (b + 1) s'
def spn (R : am_M) (B : Nat) : Nat → UD → Option UD
  | 0, s => some s
  | n + 1, s => (spb R B 0 s).bind fun s' => spn R B n s'
def rate (i x y : Int) (s : UD) : Option UD := if 1000000 < x / gd x y ∨ 1000000 < y / gd x y then none else if s.1 i = 0 then some (setp s.1 i (x / gd x y), setp s.2 i (y / gd x y)) else if s.1 i = x / gd x y ∧ s.2 i = y / gd x y then some s else none
def rt1 (R : am_M) (b : Int) (s : UD) : Option UD :=
  if wrt R (R 61 b) ≤ 0 then none
  else if 0 < s.1 (R 61 b) then rate (R 317 b) (s.1 (R 61 b) * wrt R (R 61 b)) (s.2 (R 61 b)) s
  else if 0 < s.1 (R 317 b) then rate (R 61 b) (s.1 (R 317 b)) (s.2 (R 317 b) * wrt R (R 61 b)) s
  else some s
def rtb' (R : am_M) : Nat → Int → UD → Option UD
  | 0, _, s => some s
  | n + 1, b, s => (rt1 R b s).bind fun s' => rtb' R n (b + 1) s'
def rtn' (R : am_M) (B : Nat) : Nat → UD → Option UD
  | 0, s => some s
  | n + 1, s => (rtb' R B 0 s).bind fun s' => rtn' R B n s'
/-- lowest terms, within bounds -/
def low (W : Int) (s : UD) : Prop := ∀ i, 0 ≤ i → i < W → 0 ≤ s.1 i ∧ s.1 i ≤ 1000000 ∧ 1 ≤ s.2 i ∧ s.2 i ≤ 1000000 ∧ (s.1 i ≠ 0 → Nat.gcd (s.1 i).toNat (s.2 i).toNat = 1)
def ext (W : Int) (s s' : UD) : Prop := ∀ i, 0 ≤ i → i < W → s.1 i ≠ 0 → s'.1 i = s.1 i ∧ s'.2 i = s.2 i
def bw (R : am_M) (W B : Int) : Prop := ∀ d, 0 ≤ d → d < B → 0 ≤ R 61 d ∧ R 61 d < W ∧ 0 ≤ R 317 d ∧ R 317 d < W ∧ 0 ≤ wrt R (R 61 d) ∧ wrt R (R 61 d) ≤ 20
def agr (R : am_M) (d : Int) (s : UD) : Prop := s.1 (R 61 d) * wrt R (R 61 d) * s.2 (R 317 d) = s.1 (R 317 d) * s.2 (R 61 d)
def alls (W : Int) (s : UD) : Prop := ∀ i, 0 ≤ i → i < W → s.1 i ≠ 0
theorem ext_refl (W : Int) (s : UD) : ext W s s := fun _ _ _ _ => ⟨rfl, rfl⟩
theorem ext_trans {W : Int} {a b c : UD} (h1 : ext W a b) (h2 : ext W b c) : ext W a c := fun i i0 i1 q => by
  obtain ⟨x, y⟩ := h1 i i0 i1 q
  obtain ⟨u, v⟩ := h2 i i0 i1 (by omega)
  exact ⟨by omega, by omega⟩
theorem low_set {W : Int} {s : UD} {i x y : Int} (h : low W s) (x0 : 0 < x) (y0 : 0 < y) (h1 : ¬ 1000000 < x / gd x y) (h2 : ¬ 1000000 < y / gd x y) : low W (setp s.1 i (x / gd x y), setp s.2 i (y / gd x y)) := by
  intro j j0 j1
  show 0 ≤ setp s.1 i (x / gd x y) j ∧ _
  unfold setp
  by_cases c : j = i
  · dsimp only
    rw [if_pos c, if_pos c]
    have g0 := gd_pos (x := x) (y := y) (Or.inl x0)
    have a1 : 0 < x / gd x y := by
      rw [div_nat (by omega)]
      have : 0 < x.toNat / Nat.gcd x.toNat y.toNat := Nat.div_pos (Nat.gcd_le_left _ (by omega)) (Nat.gcd_pos_of_pos_left _ (by omega))
      omega
    have a2 : 0 < y / gd x y := by
      rw [div_nat2 (by omega)]
      have : 0 < y.toNat / Nat.gcd x.toNat y.toNat := Nat.div_pos (Nat.gcd_le_right _ (by omega)) (Nat.gcd_pos_of_pos_left _ (by omega))
      omega
    refine ⟨by omega, by omega, by omega, by omega, fun _ => ?_⟩
    rw [div_nat (by omega), div_nat2 (by omega), Int.toNat_natCast, Int.toNat_natCast]
    exact Nat.coprime_div_gcd_div_gcd (Nat.gcd_pos_of_pos_left _ (by omega))
  · dsimp only
    rw [if_neg c, if_neg c]
    exact h j j0 j1
theorem ext_set {W : Int} {s : UD} {i u v : Int} (h : s.1 i = 0) : ext W s (setp s.1 i u, setp s.2 i v) := by
  intro j j0 j1 q
  have c : j ≠ i := fun e => q (e ▸ h)
  exact ⟨if_neg c, if_neg c⟩
theorem mul_pos' {a b : Int} (ha : 0 < a) (hb : 0 < b) : 0 < a * b := Int.mul_pos ha hb
theorem sp1_ok {R : am_M} {W B b : Int} {s s' : UD} (hw : bw R W B) (b0 : 0 ≤ b) (b1 : b < B) (h : low W s) (e : sp1 R b s = some s') : low W s' ∧ ext W s s' ∧ (s.1 (R 61 b) ≠ 0 ∨ s.1 (R 317 b) ≠ 0 → s'.1 (R 61 b) ≠ 0 ∧ s'.1 (R 317 b) ≠ 0) := by
  obtain ⟨f0, f1, t0, t1, w0, w1⟩ := hw b b0 b1
  have lf := h _ f0 f1
  have lt := h _ t0 t1
  unfold sp1 at e
  by_cases c1 : s.1 (R 61 b) ≠ 0 ∧ s.1 (R 317 b) = 0
  · rw [if_pos c1] at e
    unfold frac at e
    by_cases c : s.1 (R 61 b) * wrt R (R 61 b) = 0 ∨ s.2 (R 61 b) = 0 ∨ 1000000 < s.1 (R 61 b) * wrt R (R 61 b) / gd (s.1 (R 61 b) * wrt R (R 61 b)) (s.2 (R 61 b)) ∨ 1000000 < s.2 (R 61 b) / gd (s.1 (R 61 b) * wrt R (R 61 b)) (s.2 (R 61 b))
    · rw [if_pos c] at e; cases e
    · rw [if_neg c] at e
      have x0 : 0 < s.1 (R 61 b) * wrt R (R 61 b) := by
        have := Int.mul_nonneg lf.1 w0
        omega
      have hl := low_set (i := R 317 b) h x0 (y := s.2 (R 61 b)) (by omega) (by omega) (by omega)
      cases e
      refine ⟨hl, ext_set c1.2, fun _ => ⟨?_, ?_⟩⟩
      · by_cases z : R 61 b = R 317 b
        · rw [z] at c1; omega
        · show setp s.1 (R 317 b) _ (R 61 b) ≠ 0
          unfold setp
          rw [if_neg z]; exact c1.1
      · have := (hl _ t0 t1).1
        show setp s.1 (R 317 b) _ (R 317 b) ≠ 0
        unfold setp
        rw [if_pos rfl]
        rw [div_nat (by omega)]
        have : 0 < (s.1 (R 61 b) * wrt R (R 61 b)).toNat / Nat.gcd (s.1 (R 61 b) * wrt R (R 61 b)).toNat (s.2 (R 61 b)).toNat := Nat.div_pos (Nat.gcd_le_left _ (by omega)) (Nat.gcd_pos_of_pos_left _ (by omega))
        omega
  · rw [if_neg c1] at e
    by_cases c2 : s.1 (R 61 b) = 0 ∧ s.1 (R 317 b) ≠ 0
    · rw [if_pos c2] at e
      unfold frac at e
      by_cases c : s.1 (R 317 b) = 0 ∨ s.2 (R 317 b) * wrt R (R 61 b) = 0 ∨ 1000000 < s.1 (R 317 b) / gd (s.1 (R 317 b)) (s.2 (R 317 b) * wrt R (R 61 b)) ∨ 1000000 < s.2 (R 317 b) * wrt R (R 61 b) / gd (s.1 (R 317 b)) (s.2 (R 317 b) * wrt R (R 61 b))
      · rw [if_pos c] at e; cases e
      · rw [if_neg c] at e
        have y0 : 0 < s.2 (R 317 b) * wrt R (R 61 b) := by
          have := Int.mul_nonneg (show 0 ≤ s.2 (R 317 b) by omega) w0
          omega
        have hl := low_set (i := R 61 b) h (x := s.1 (R 317 b)) (by omega) y0 (by omega) (by omega)
        cases e
        refine ⟨hl, ext_set c2.1, fun _ => ⟨?_, ?_⟩⟩
        · show setp s.1 (R 61 b) _ (R 61 b) ≠ 0
          unfold setp
          rw [if_pos rfl]
          rw [div_nat (by omega)]
          have : 0 < (s.1 (R 317 b)).toNat / Nat.gcd (s.1 (R 317 b)).toNat (s.2 (R 317 b) * wrt R (R 61 b)).toNat := Nat.div_pos (Nat.gcd_le_left _ (by omega)) (Nat.gcd_pos_of_pos_left _ (by omega))
          omega
        · by_cases z : R 317 b = R 61 b
          · rw [z] at c2; omega
          · show setp s.1 (R 61 b) _ (R 317 b) ≠ 0
            unfold setp
            rw [if_neg z]; exact c2.2
    · rw [if_neg c2] at e
      cases e
      refine ⟨h, ext_refl W s, fun q => ?_⟩
      omega
theorem spb_ok {R : am_M} {W B : Int} (hw : bw R W B) : ∀ (n : Nat) (b : Int) (s s' : UD), 0 ≤ b → b + n ≤ B → low W s → spb R n b s = some s' → low W s' ∧ ext W s s' ∧ ∀ d, b ≤ d → d < b + n → (s.1 (R 61 d) ≠ 0 ∨ s.1 (R 317 d) ≠ 0) → s'.1 (R 61 d) ≠ 0 ∧ s'.1 (R 317 d) ≠ 0 := by
  intro n
  induction n with
  | zero =>
    intro b s s' _ _ h e
    cases e
    exact ⟨h, ext_refl W s, fun d p q => by omega⟩
  | succ n ih =>
    intro b s s' b0 b1 h e
    have e : (sp1 R b s).bind (fun s' => spb R n (b + 1) s') = some s' := e
    cases h1 : sp1 R b s with
    | none => rw [h1] at e; cases e
    | some s1 =>
      rw [h1] at e
      have e : spb R n (b + 1) s1 = some s' := e
      obtain ⟨a1, a2, a3⟩ := sp1_ok hw b0 (by omega) h h1
      obtain ⟨k1, k2, k3⟩ := ih (b + 1) s1 s' (by omega) (by omega) a1 e
      refine ⟨k1, ext_trans a2 k2, fun d p q r => ?_⟩
      obtain ⟨f0, f1, t0, t1, _, _⟩ := hw d (by omega) (by omega)
      by_cases z : d = b
      · subst z
        obtain ⟨x, y⟩ := a3 r
        have u := (k2 _ f0 f1 x).1
        have v := (k2 _ t0 t1 y).1
        exact ⟨by omega, by omega⟩
      · refine k3 d (by omega) (by omega) ?_
        rcases r with r | r
        · exact Or.inl (by have := (a2 _ f0 f1 r).1; omega)
        · exact Or.inr (by have := (a2 _ t0 t1 r).1; omega)
theorem spn_ok {R : am_M} {W : Int} {B : Nat} (hw : bw R W B) : ∀ (n : Nat) (s s' : UD), low W s → spn R B n s = some s' → low W s' ∧ ext W s s' := by
  intro n
  induction n with
  | zero =>
    intro s s' h e
    cases e
    exact ⟨h, ext_refl W s⟩
  | succ n ih =>
    intro s s' h e
    have e : (spb R B 0 s).bind (fun s' => spn R B n s') = some s' := e
    cases h1 : spb R B 0 s with
    | none => rw [h1] at e; cases e
    | some s1 =>
      rw [h1] at e
      obtain ⟨a1, a2, -⟩ := spb_ok hw B 0 s s1 (by omega) (by omega) h h1
      obtain ⟨k1, k2⟩ := ih s1 s' a1 e
      exact ⟨k1, ext_trans a2 k2⟩
/-- no band with one end known -/
def clU (R : am_M) (B : Int) (s : UD) : Prop := ∀ d, 0 ≤ d → d < B → (s.1 (R 61 d) = 0 ↔ s.1 (R 317 d) = 0)
theorem sp1_cl {R : am_M} {b : Int} {s : UD} (h : s.1 (R 61 b) = 0 ↔ s.1 (R 317 b) = 0) : sp1 R b s = some s := by
  unfold sp1
  rw [if_neg (by omega), if_neg (by omega)]
theorem spb_cl {R : am_M} {B : Int} {s : UD} (h : clU R B s) : ∀ (n : Nat) (b : Int), 0 ≤ b → b + n ≤ B → spb R n b s = some s := by
  intro n
  induction n with
  | zero => intro b _ _; rfl
  | succ n ih =>
    intro b b0 b1
    show (sp1 R b s).bind _ = some s
    rw [sp1_cl (h b b0 (by omega))]
    exact ih (b + 1) (by omega) (by omega)
theorem spn_cl {R : am_M} {B : Nat} {s : UD} (h : clU R B s) : ∀ n, spn R B n s = some s := by
  intro n
  induction n with
  | zero => rfl
  | succ n ih =>
    show (spb R B 0 s).bind _ = some s
    rw [spb_cl h B 0 (by omega) (by omega)]
    exact ih
def ngt (s : UD) : Int → Int := fun i => if s.1 i = 0 then 1 else 0
theorem ngt_le (s : UD) (i : Int) : ngt s i ≤ 0 ↔ s.1 i ≠ 0 := by
  unfold ngt
  split <;> omega
theorem spn_conv {R : am_M} {W : Int} {B : Nat} (hw : bw R W B) : ∀ (k : Nat) (s s' : UD), low W s → spn R B k s = some s' → clU R B s' ∨ num (ngt s) 0 W.toNat + k ≤ num (ngt s') 0 W.toNat := by
  intro k
  induction k with
  | zero =>
    intro s s' _ e
    cases e
    exact Or.inr (Nat.le_refl _)
  | succ k ih =>
    intro s s' h e
    by_cases c : clU R B s
    · rw [spn_cl c] at e
      cases e
      exact Or.inl c
    · have e : (spb R B 0 s).bind (fun s' => spn R B k s') = some s' := e
      cases h1 : spb R B 0 s with
      | none => rw [h1] at e; cases e
      | some s1 =>
        rw [h1] at e
        obtain ⟨a1, a2, a3⟩ := spb_ok hw B 0 s s1 (by omega) (by omega) h h1
        have hx : ∃ d, 0 ≤ d ∧ d < (B : Int) ∧ ¬ (s.1 (R 61 d) = 0 ↔ s.1 (R 317 d) = 0) := Classical.byContradiction (fun q => c (fun d d0 d1 => Classical.byContradiction (fun z => q ⟨d, d0, d1, z⟩)))
        obtain ⟨d, d0, d1, hd⟩ := hx
        obtain ⟨f0, f1, t0, t1, _, _⟩ := hw d d0 d1
        obtain ⟨y1, y2⟩ := a3 d d0 (by omega) (by omega)
        have mono : ∀ i, 0 ≤ i → i < (W.toNat : Int) → ngt s i ≤ 0 → ngt s1 i ≤ 0 := fun i i0 i1 q => by
          rw [ngt_le] at q ⊢
          have := (a2 i i0 (by omega) q).1
          omega
        have hm : num (ngt s) 0 W.toNat + 1 ≤ num (ngt s1) 0 W.toNat := by
          by_cases cf : s.1 (R 61 d) = 0
          · exact num_lt f0 (fun z => (ngt_le _ _).mp z cf) ((ngt_le _ _).mpr y1) _ (by omega) mono
          · have ct : s.1 (R 317 d) = 0 := by omega
            exact num_lt t0 (fun z => (ngt_le _ _).mp z ct) ((ngt_le _ _).mpr y2) _ (by omega) mono
        rcases ih s1 s' a1 e with q | q
        · exact Or.inl q
        · exact Or.inr (by omega)
/-- the start: the least of each part fires once -/
def s0 (P : Int → Int) : UD := (fun i => if P i = i then 1 else 0, fun _ => 1)
theorem low_s0 (P : Int → Int) (W : Int) : low W (s0 P) := by
  intro i _ _
  show 0 ≤ (if P i = i then (1 : Int) else 0) ∧ (if P i = i then (1 : Int) else 0) ≤ 1000000 ∧ 1 ≤ (1 : Int) ∧ (1 : Int) ≤ 1000000 ∧ ((if P i = i then (1 : Int) else 0) ≠ 0 → Nat.gcd (if P i = i then (1 : Int) else 0).toNat (1 : Int).toNat = 1)
  refine ⟨by split <;> omega, by split <;> omega, by omega, by omega, fun _ => ?_⟩
  exact Nat.gcd_one_right _
theorem spn_all {C R : am_M} {W : Int} {B : Nat} {s' : UD} (hb : bnd C R W B) (hw : bw R W B) (W0 : 0 < W) (e : spn R B W.toNat (s0 (psn R B W.toNat idp)) = some s') : clU R B s' ∧ alls W s' := by
  have hl := low_s0 (psn R B W.toNat idp) W
  have hx := (spn_ok hw _ _ _ hl e).2
  have hP := psn_b hb W.toNat idp (fun i a => ⟨a, Int.le_refl _⟩)
  have p0 : psn R B W.toNat idp 0 = 0 := by have := hP 0 (by omega); omega
  have hc : clU R B s' := by
    rcases spn_conv hw _ _ _ hl e with q | q
    · exact q
    · have h1 := num_le (ngt s') 0 W.toNat
      have h2 := num_pos (P := ngt (s0 (psn R B W.toNat idp))) (m := 0) (by
        rw [ngt_le]
        show (if psn R B W.toNat idp 0 = 0 then (1 : Int) else 0) ≠ 0
        rw [if_pos p0]; omega) (W.toNat - 1)
      rw [show W.toNat - 1 + 1 = W.toNat by omega] at h2
      omega
  refine ⟨hc, ?_⟩
  have hS := psn_S (R := R) (B := B) (S := fun v => s'.1 v = 0) (fun d d0 d1 => hc d d0 d1) W.toNat idp (fun _ => Iff.rfl)
  have main : ∀ (n : Nat) (i : Int), 0 ≤ i → i < W → i < (n : Int) → s'.1 i ≠ 0 := by
    intro n
    induction n with
    | zero => intro i a _ c; omega
    | succ n ih =>
      intro i i0 i1 i2
      by_cases z : psn R B W.toNat idp i = i
      · have e1 : (s0 (psn R B W.toNat idp)).1 i = 1 := if_pos z
        have := (hx i i0 i1 (by omega)).1
        omega
      · have := hP i i0
        have h1 := ih (psn R B W.toNat idp i) (by omega) (by omega) (by omega)
        exact fun q => h1 ((hS i).mp q)
  intro i i0 i1
  exact main W.toNat i i0 i1 (by omega)
