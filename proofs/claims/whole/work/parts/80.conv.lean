/-! the parts are found after as many passes as there are weavers -/
def num (P : Int → Int) (m : Int) : Nat → Nat
  | 0 => 0
  | n + 1 => num P m n + if P n ≤ m then 1 else 0
theorem num_le (P : Int → Int) (m : Int) : ∀ n, num P m n ≤ n := by
  intro n
  induction n with
  | zero => exact Nat.le_refl _
  | succ n ih =>
    show num P m n + (if P n ≤ m then 1 else 0) ≤ n + 1
    split <;> omega
theorem num_mono {P Q : Int → Int} {m : Int} : ∀ n : Nat, (∀ i, 0 ≤ i → i < (n : Int) → P i ≤ m → Q i ≤ m) → num P m n ≤ num Q m n := by
  intro n
  induction n with
  | zero => intro _; exact Nat.le_refl _
  | succ n ih =>
    intro h
    have h1 := ih (fun i a b => h i a (by omega))
    have h2 := h n (by omega) (by omega)
    show num P m n + (if P n ≤ m then 1 else 0) ≤ num Q m n + (if Q n ≤ m then 1 else 0)
    by_cases c : P n ≤ m
    · rw [if_pos c, if_pos (h2 c)]; omega
    · rw [if_neg c]; omega
theorem num_lt {P Q : Int → Int} {m j : Int} (j0 : 0 ≤ j) (hj : ¬ P j ≤ m) (hj' : Q j ≤ m) : ∀ n : Nat, j < (n : Int) → (∀ i, 0 ≤ i → i < (n : Int) → P i ≤ m → Q i ≤ m) → num P m n + 1 ≤ num Q m n := by
  intro n
  induction n with
  | zero => intro h; omega
  | succ n ih =>
    intro hn h
    have h2 := h n (by omega) (by omega)
    show num P m n + (if P n ≤ m then 1 else 0) + 1 ≤ num Q m n + (if Q n ≤ m then 1 else 0)
    by_cases e : j = n
    · have h1 := num_mono n (fun i a b => h i a (by omega))
      rw [e] at hj hj'
      rw [if_neg hj, if_pos hj']; omega
    · have h1 := ih (by omega) (fun i a b => h i a (by omega))
      by_cases c : P n ≤ m
      · rw [if_pos c, if_pos (h2 c)]; omega
      · rw [if_neg c]; omega
theorem ps1_le (P : Int → Int) (f t i : Int) : ps1 P f t i ≤ P i := by
  unfold ps1
  by_cases c : i = f ∨ i = t
  · rw [if_pos c]
    rcases c with c | c
    · rw [c]; split <;> omega
    · rw [c]; split <;> omega
  · rw [if_neg c]; omega
theorem psb_le {R : am_M} : ∀ (n : Nat) (b : Int) (P : Int → Int) (i : Int), psb R n b P i ≤ P i := by
  intro n
  induction n with
  | zero => intro b P i; exact Int.le_refl _
  | succ n ih =>
    intro b P i
    have h1 := ih (b + 1) (ps1 P (R 61 b) (R 317 b)) i
    have h2 := ps1_le P (R 61 b) (R 317 b) i
    show psb R n (b + 1) (ps1 P (R 61 b) (R 317 b)) i ≤ P i
    omega
theorem psb_nb {R : am_M} {m : Int} : ∀ (n : Nat) (b d : Int) (P : Int → Int), b ≤ d → d < b + n → (P (R 61 d) ≤ m ∨ P (R 317 d) ≤ m) → psb R n b P (R 61 d) ≤ m ∧ psb R n b P (R 317 d) ≤ m := by
  intro n
  induction n with
  | zero => intro b d P h1 h2; omega
  | succ n ih =>
    intro b d P h1 h2 h
    show psb R n (b + 1) (ps1 P (R 61 b) (R 317 b)) (R 61 d) ≤ m ∧ psb R n (b + 1) (ps1 P (R 61 b) (R 317 b)) (R 317 d) ≤ m
    by_cases e : d = b
    · subst e
      have a1 := psb_le (R := R) n (d + 1) (ps1 P (R 61 d) (R 317 d)) (R 61 d)
      have a2 := psb_le (R := R) n (d + 1) (ps1 P (R 61 d) (R 317 d)) (R 317 d)
      have e1 : ps1 P (R 61 d) (R 317 d) (R 61 d) = if P (R 61 d) ≤ P (R 317 d) then P (R 61 d) else P (R 317 d) := by unfold ps1; rw [if_pos (Or.inl rfl)]
      have e2 : ps1 P (R 61 d) (R 317 d) (R 317 d) = if P (R 61 d) ≤ P (R 317 d) then P (R 61 d) else P (R 317 d) := by unfold ps1; rw [if_pos (Or.inr rfl)]
      rw [e1] at a1
      rw [e2] at a2
      have e3 : (if P (R 61 d) ≤ P (R 317 d) then P (R 61 d) else P (R 317 d)) ≤ m := by split <;> omega
      omega
    · have a1 := ps1_le P (R 61 b) (R 317 b) (R 61 d)
      have a2 := ps1_le P (R 61 b) (R 317 b) (R 317 d)
      exact ih (b + 1) d _ (by omega) (by omega) (by omega)
def clb (R : am_M) (B : Int) (P : Int → Int) (m : Int) : Prop := ∀ d, 0 ≤ d → d < B → (P (R 61 d) ≤ m ↔ P (R 317 d) ≤ m)
theorem ps1_cl {P : Int → Int} {f t m : Int} (h : P f ≤ m ↔ P t ≤ m) (i : Int) : ps1 P f t i ≤ m ↔ P i ≤ m := by
  unfold ps1
  by_cases c : i = f ∨ i = t
  · rw [if_pos c]
    rcases c with c | c
    · rw [c]; split <;> omega
    · rw [c]; split <;> omega
  · rw [if_neg c]
theorem psb_cl {R : am_M} {B m : Int} : ∀ (n : Nat) (b : Int) (P : Int → Int), 0 ≤ b → b + n ≤ B → clb R B P m → ∀ i, (psb R n b P i ≤ m ↔ P i ≤ m) := by
  intro n
  induction n with
  | zero => intro b P _ _ _ i; exact Iff.rfl
  | succ n ih =>
    intro b P b0 b1 h i
    have h1 := h b b0 (by omega)
    have h2 := ih (b + 1) (ps1 P (R 61 b) (R 317 b)) (by omega) (by omega) (fun d d0 d1 => by
      rw [ps1_cl h1, ps1_cl h1]; exact h d d0 d1) i
    show psb R n (b + 1) (ps1 P (R 61 b) (R 317 b)) i ≤ m ↔ P i ≤ m
    rw [h2, ps1_cl h1]
theorem psn_cl {R : am_M} {B : Nat} {m : Int} : ∀ (k : Nat) (P : Int → Int), clb R B P m → clb R B (psn R B k P) m := by
  intro k
  induction k with
  | zero => intro P h; exact h
  | succ k ih =>
    intro P h
    refine ih _ (fun d d0 d1 => ?_)
    rw [psb_cl B 0 P (by omega) (by omega) h, psb_cl B 0 P (by omega) (by omega) h]
    exact h d d0 d1
theorem psn_conv {C R : am_M} {W m : Int} {B : Nat} (hb : bnd C R W B) : ∀ (k : Nat) (P : Int → Int), clb R B (psn R B k P) m ∨ num P m W.toNat + k ≤ num (psn R B k P) m W.toNat := by
  intro k
  induction k with
  | zero => intro P; exact Or.inr (Nat.le_refl _)
  | succ k ih =>
    intro P
    by_cases c : clb R B P m
    · exact Or.inl (psn_cl (k + 1) P c)
    · have hx : ∃ d, 0 ≤ d ∧ d < (B : Int) ∧ ¬ (P (R 61 d) ≤ m ↔ P (R 317 d) ≤ m) := by
        refine Classical.byContradiction (fun q => c (fun d d0 d1 => Classical.byContradiction (fun z => q ⟨d, d0, d1, z⟩)))
      obtain ⟨d, d0, d1, hd⟩ := hx
      obtain ⟨_, _, _, _, _, f0, f1, t0, t1⟩ := hb d d0 d1
      have hm : num P m W.toNat + 1 ≤ num (psb R B 0 P) m W.toNat := by
        have mono : ∀ i, 0 ≤ i → i < (W.toNat : Int) → P i ≤ m → psb R B 0 P i ≤ m := fun i _ _ q => by
          have := psb_le (R := R) B 0 P i
          omega
        by_cases cf : P (R 61 d) ≤ m
        · have ct : ¬ P (R 317 d) ≤ m := fun z => hd ⟨fun _ => z, fun _ => cf⟩
          exact num_lt t0 ct (psb_nb B 0 d P d0 (by omega) (Or.inl cf)).2 _ (by omega) mono
        · have ct : P (R 317 d) ≤ m := Classical.byContradiction (fun z => hd ⟨fun q => absurd q cf, fun q => absurd q z⟩)
          exact num_lt f0 cf (psb_nb B 0 d P d0 (by omega) (Or.inr ct)).1 _ (by omega) mono
      rcases ih (psb R B 0 P) with q | q
      · exact Or.inl q
      · exact Or.inr (by show num P m W.toNat + (k + 1) ≤ num (psn R B k (psb R B 0 P)) m W.toNat; omega)
theorem num_pos {P : Int → Int} {m : Int} (h : P 0 ≤ m) : ∀ n : Nat, 1 ≤ num P m (n + 1) := by
  intro n
  induction n with
  | zero =>
    show 1 ≤ 0 + (if P ((0 : Nat) : Int) ≤ m then 1 else 0)
    rw [if_pos (by exact h)]
    omega
  | succ n ih =>
    show 1 ≤ num P m (n + 1) + _
    omega
theorem psn_fix {C R : am_M} {W : Int} {B : Nat} (hb : bnd C R W B) (W0 : 0 < W) : ∀ d, 0 ≤ d → d < (B : Int) → psn R B W.toNat idp (R 61 d) = psn R B W.toNat idp (R 317 d) := by
  have hcl : ∀ m, 0 ≤ m → clb R B (psn R B W.toNat idp) m := by
    intro m m0
    rcases psn_conv (m := m) hb W.toNat idp with q | q
    · exact q
    · have h1 := num_le (psn R B W.toNat idp) m W.toNat
      have h2 := num_pos (P := idp) (m := m) m0 (W.toNat - 1)
      rw [show W.toNat - 1 + 1 = W.toNat by omega] at h2
      omega
  intro d d0 d1
  obtain ⟨_, _, _, _, _, f0, f1, t0, t1⟩ := hb d d0 d1
  have hf := psn_b hb W.toNat idp (fun i a => ⟨a, Int.le_refl _⟩) _ f0
  have ht := psn_b hb W.toNat idp (fun i a => ⟨a, Int.le_refl _⟩) _ t0
  have a1 := (hcl _ hf.1 d d0 d1).mp (Int.le_refl _)
  have a2 := (hcl _ ht.1 d d0 d1).mpr (Int.le_refl _)
  omega
/-- a set that no band leaves -/
def clS (R : am_M) (B : Int) (S : Int → Prop) : Prop := ∀ d, 0 ≤ d → d < B → (S (R 61 d) ↔ S (R 317 d))
theorem ps1_S {S : Int → Prop} {P : Int → Int} {f t : Int} (h : S f ↔ S t) (hP : ∀ i, S i ↔ S (P i)) (i : Int) : S i ↔ S (ps1 P f t i) := by
  unfold ps1
  by_cases c : i = f ∨ i = t
  · rw [if_pos c]
    rcases c with c | c
    · rw [c]
      split
      · exact hP f
      · exact h.trans (hP t)
    · rw [c]
      split
      · exact h.symm.trans (hP f)
      · exact hP t
  · rw [if_neg c]; exact hP i
theorem psb_S {R : am_M} {B : Int} {S : Int → Prop} (hS : clS R B S) : ∀ (n : Nat) (b : Int) (P : Int → Int), 0 ≤ b → b + n ≤ B → (∀ i, S i ↔ S (P i)) → ∀ i, S i ↔ S (psb R n b P i) := by
  intro n
  induction n with
  | zero => intro b P _ _ h; exact h
  | succ n ih =>
    intro b P b0 b1 h
    exact ih (b + 1) _ (by omega) (by omega) (ps1_S (hS b b0 (by omega)) h)
theorem psn_S {R : am_M} {B : Nat} {S : Int → Prop} (hS : clS R B S) : ∀ (n : Nat) (P : Int → Int), (∀ i, S i ↔ S (P i)) → ∀ i, S i ↔ S (psn R B n P i) := by
  intro n
  induction n with
  | zero => intro P h; exact h
  | succ n ih =>
    intro P h
    exact ih _ (psb_S hS B 0 P (by omega) (by omega) h)
theorem psn_idem {C R : am_M} {W : Int} {B : Nat} (hb : bnd C R W B) (W0 : 0 < W) (i : Int) : psn R B W.toNat idp (psn R B W.toNat idp i) = psn R B W.toNat idp i := by
  have h := psn_S (R := R) (B := B) (S := fun v => psn R B W.toNat idp v = psn R B W.toNat idp i) (fun d d0 d1 => by
    show psn R B W.toNat idp (R 61 d) = _ ↔ psn R B W.toNat idp (R 317 d) = _
    rw [psn_fix hb W0 d d0 d1]) W.toNat idp (fun _ => Iff.rfl) i
  exact h.mp rfl
